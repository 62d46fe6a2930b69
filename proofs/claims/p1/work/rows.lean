section
-- ===== PART A: goes FIRST, ahead of the names: the tables' words, and 'selects' of the private methods out of them =====
/-- a private method of a class that the tables say can be made, by its rows of tables_1 -/
def lw_okq (q : MethodName × Nat) : Prop := (q.1.cls ≠ "java/lang/invoke/MethodHandle" ∧ q.1.cls ≠ "java/lang/invoke/VarHandle") ∧ Cond.instantiable q.1.cls q.2 ∈ tables_1 ∧ Cond.privateMethod q.1 ∈ tables_1 ∧ Cond.instanceMethod q.1 ∈ tables_1
theorem lw_p0 : lw_okq (⟨"PermitRoom$Papers", "locksOf", "(I)I"⟩, 9) := ⟨⟨by decide +kernel, by decide +kernel⟩, List.mem_of_getElem? (i := 114) (by decide +kernel), List.mem_of_getElem? (i := 349) (by decide +kernel), List.mem_of_getElem? (i := 350) (by decide +kernel)⟩
theorem lw_p1 : lw_okq (⟨"PermitRoom$Tape", "readOneOf", "(Ljava/lang/String;)I"⟩, 9) := ⟨⟨by decide +kernel, by decide +kernel⟩, List.mem_of_getElem? (i := 198) (by decide +kernel), List.mem_of_getElem? (i := 457) (by decide +kernel), List.mem_of_getElem? (i := 458) (by decide +kernel)⟩
theorem lw_p2 : lw_okq (⟨"PermitRoom$Tape", "findPiece", "()V"⟩, 9) := ⟨⟨by decide +kernel, by decide +kernel⟩, List.mem_of_getElem? (i := 198) (by decide +kernel), List.mem_of_getElem? (i := 461) (by decide +kernel), List.mem_of_getElem? (i := 462) (by decide +kernel)⟩
theorem lw_p3 : lw_okq (⟨"PermitRoom$Tape", "isLetter", "(I)Z"⟩, 9) := ⟨⟨by decide +kernel, by decide +kernel⟩, List.mem_of_getElem? (i := 198) (by decide +kernel), List.mem_of_getElem? (i := 465) (by decide +kernel), List.mem_of_getElem? (i := 466) (by decide +kernel)⟩
theorem lw_p4 : lw_okq (⟨"PermitRoom$Tape", "isDigit", "(I)Z"⟩, 9) := ⟨⟨by decide +kernel, by decide +kernel⟩, List.mem_of_getElem? (i := 198) (by decide +kernel), List.mem_of_getElem? (i := 469) (by decide +kernel), List.mem_of_getElem? (i := 470) (by decide +kernel)⟩
theorem lw_p5 : lw_okq (⟨"PermitRoom$Tape", "isParted", "()Z"⟩, 9) := ⟨⟨by decide +kernel, by decide +kernel⟩, List.mem_of_getElem? (i := 198) (by decide +kernel), List.mem_of_getElem? (i := 473) (by decide +kernel), List.mem_of_getElem? (i := 474) (by decide +kernel)⟩
theorem lw_p6 : lw_okq (⟨"PermitRoom$Tape", "placeAmong", "(Ljava/lang/String;)I"⟩, 9) := ⟨⟨by decide +kernel, by decide +kernel⟩, List.mem_of_getElem? (i := 198) (by decide +kernel), List.mem_of_getElem? (i := 477) (by decide +kernel), List.mem_of_getElem? (i := 478) (by decide +kernel)⟩
theorem lw_p7 : lw_okq (⟨"PermitRoom$Tape", "blame", "()V"⟩, 9) := ⟨⟨by decide +kernel, by decide +kernel⟩, List.mem_of_getElem? (i := 198) (by decide +kernel), List.mem_of_getElem? (i := 529) (by decide +kernel), List.mem_of_getElem? (i := 530) (by decide +kernel)⟩
theorem lw_p8 : lw_okq (⟨"PermitRoom$Tape", "readRest", "()V"⟩, 9) := ⟨⟨by decide +kernel, by decide +kernel⟩, List.mem_of_getElem? (i := 198) (by decide +kernel), List.mem_of_getElem? (i := 535) (by decide +kernel), List.mem_of_getElem? (i := 536) (by decide +kernel)⟩
theorem lw_p9 : lw_okq (⟨"PermitRoom$Tape", "readNumber", "(II)I"⟩, 9) := ⟨⟨by decide +kernel, by decide +kernel⟩, List.mem_of_getElem? (i := 198) (by decide +kernel), List.mem_of_getElem? (i := 540) (by decide +kernel), List.mem_of_getElem? (i := 541) (by decide +kernel)⟩
theorem lw_p10 : lw_okq (⟨"PermitRoom$Tape", "numberOfPiece", "()I"⟩, 9) := ⟨⟨by decide +kernel, by decide +kernel⟩, List.mem_of_getElem? (i := 198) (by decide +kernel), List.mem_of_getElem? (i := 544) (by decide +kernel), List.mem_of_getElem? (i := 545) (by decide +kernel)⟩
theorem lw_p11 : lw_okq (⟨"PermitRoom$Tape", "readEnd", "()V"⟩, 9) := ⟨⟨by decide +kernel, by decide +kernel⟩, List.mem_of_getElem? (i := 198) (by decide +kernel), List.mem_of_getElem? (i := 550) (by decide +kernel), List.mem_of_getElem? (i := 551) (by decide +kernel)⟩
theorem lw_p12 : lw_okq (⟨"PermitRoom", "refusalOf", "(II)I"⟩, 9) := ⟨⟨by decide +kernel, by decide +kernel⟩, List.mem_of_getElem? (i := 19) (by decide +kernel), List.mem_of_getElem? (i := 608) (by decide +kernel), List.mem_of_getElem? (i := 609) (by decide +kernel)⟩
theorem lw_p13 : lw_okq (⟨"PermitRoom$Plant", "barOfStart", "(II)I"⟩, 4) := ⟨⟨by decide +kernel, by decide +kernel⟩, List.mem_of_getElem? (i := 27) (by decide +kernel), List.mem_of_getElem? (i := 618) (by decide +kernel), List.mem_of_getElem? (i := 619) (by decide +kernel)⟩
theorem lw_p14 : lw_okq (⟨"PermitRoom$Plant", "lacksTest", "(II)Z"⟩, 4) := ⟨⟨by decide +kernel, by decide +kernel⟩, List.mem_of_getElem? (i := 27) (by decide +kernel), List.mem_of_getElem? (i := 626) (by decide +kernel), List.mem_of_getElem? (i := 627) (by decide +kernel)⟩
theorem lw_p15 : lw_okq (⟨"PermitRoom$Plant", "isOffHours", "(II)Z"⟩, 4) := ⟨⟨by decide +kernel, by decide +kernel⟩, List.mem_of_getElem? (i := 27) (by decide +kernel), List.mem_of_getElem? (i := 647) (by decide +kernel), List.mem_of_getElem? (i := 648) (by decide +kernel)⟩
def lw_privs_1 : List (MethodName × Nat) := [(⟨"PermitRoom$Papers", "locksOf", "(I)I"⟩, 9), (⟨"PermitRoom$Tape", "readOneOf", "(Ljava/lang/String;)I"⟩, 9), (⟨"PermitRoom$Tape", "findPiece", "()V"⟩, 9), (⟨"PermitRoom$Tape", "isLetter", "(I)Z"⟩, 9), (⟨"PermitRoom$Tape", "isDigit", "(I)Z"⟩, 9), (⟨"PermitRoom$Tape", "isParted", "()Z"⟩, 9), (⟨"PermitRoom$Tape", "placeAmong", "(Ljava/lang/String;)I"⟩, 9), (⟨"PermitRoom$Tape", "blame", "()V"⟩, 9), (⟨"PermitRoom$Tape", "readRest", "()V"⟩, 9), (⟨"PermitRoom$Tape", "readNumber", "(II)I"⟩, 9), (⟨"PermitRoom$Tape", "numberOfPiece", "()I"⟩, 9), (⟨"PermitRoom$Tape", "readEnd", "()V"⟩, 9), (⟨"PermitRoom", "refusalOf", "(II)I"⟩, 9), (⟨"PermitRoom$Plant", "barOfStart", "(II)I"⟩, 4), (⟨"PermitRoom$Plant", "lacksTest", "(II)Z"⟩, 4), (⟨"PermitRoom$Plant", "isOffHours", "(II)Z"⟩, 4)]
theorem lw_r1 : ∀ q ∈ lw_privs_1, lw_okq q := List.forall_mem_cons.mpr ⟨lw_p0, List.forall_mem_cons.mpr ⟨lw_p1, List.forall_mem_cons.mpr ⟨lw_p2, List.forall_mem_cons.mpr ⟨lw_p3, List.forall_mem_cons.mpr ⟨lw_p4, List.forall_mem_cons.mpr ⟨lw_p5, List.forall_mem_cons.mpr ⟨lw_p6, List.forall_mem_cons.mpr ⟨lw_p7, List.forall_mem_cons.mpr ⟨lw_p8, List.forall_mem_cons.mpr ⟨lw_p9, List.forall_mem_cons.mpr ⟨lw_p10, List.forall_mem_cons.mpr ⟨lw_p11, List.forall_mem_cons.mpr ⟨lw_p12, List.forall_mem_cons.mpr ⟨lw_p13, List.forall_mem_cons.mpr ⟨lw_p14, List.forall_mem_cons.mpr ⟨lw_p15, fun _ h => absurd h List.not_mem_nil⟩⟩⟩⟩⟩⟩⟩⟩⟩⟩⟩⟩⟩⟩⟩⟩
theorem lw_p16 : lw_okq (⟨"PermitRoom$Plant", "barOfBack", "(II)I"⟩, 4) := ⟨⟨by decide +kernel, by decide +kernel⟩, List.mem_of_getElem? (i := 27) (by decide +kernel), List.mem_of_getElem? (i := 659) (by decide +kernel), List.mem_of_getElem? (i := 660) (by decide +kernel)⟩
theorem lw_p17 : lw_okq (⟨"PermitRoom$Plant", "isWatched", "(II)Z"⟩, 4) := ⟨⟨by decide +kernel, by decide +kernel⟩, List.mem_of_getElem? (i := 27) (by decide +kernel), List.mem_of_getElem? (i := 663) (by decide +kernel), List.mem_of_getElem? (i := 664) (by decide +kernel)⟩
theorem lw_p18 : lw_okq (⟨"PermitRoom$Plant", "barOfEnter", "(II)I"⟩, 4) := ⟨⟨by decide +kernel, by decide +kernel⟩, List.mem_of_getElem? (i := 27) (by decide +kernel), List.mem_of_getElem? (i := 667) (by decide +kernel), List.mem_of_getElem? (i := 668) (by decide +kernel)⟩
theorem lw_p19 : lw_okq (⟨"PermitRoom$Plant", "isCrowded", "(II)Z"⟩, 4) := ⟨⟨by decide +kernel, by decide +kernel⟩, List.mem_of_getElem? (i := 27) (by decide +kernel), List.mem_of_getElem? (i := 671) (by decide +kernel), List.mem_of_getElem? (i := 672) (by decide +kernel)⟩
theorem lw_p20 : lw_okq (⟨"PermitRoom$Net", "thinned", "(II)I"⟩, 10) := ⟨⟨by decide +kernel, by decide +kernel⟩, List.mem_of_getElem? (i := 33) (by decide +kernel), List.mem_of_getElem? (i := 771) (by decide +kernel), List.mem_of_getElem? (i := 772) (by decide +kernel)⟩
theorem lw_p21 : lw_okq (⟨"PermitRoom$Net", "isBetter", "(II)Z"⟩, 10) := ⟨⟨by decide +kernel, by decide +kernel⟩, List.mem_of_getElem? (i := 33) (by decide +kernel), List.mem_of_getElem? (i := 783) (by decide +kernel), List.mem_of_getElem? (i := 784) (by decide +kernel)⟩
theorem lw_p22 : lw_okq (⟨"PermitRoom", "isPast", "(I)Z"⟩, 9) := ⟨⟨by decide +kernel, by decide +kernel⟩, List.mem_of_getElem? (i := 19) (by decide +kernel), List.mem_of_getElem? (i := 797) (by decide +kernel), List.mem_of_getElem? (i := 798) (by decide +kernel)⟩
theorem lw_p23 : lw_okq (⟨"PermitRoom$Plan", "gatherWorks", "(LPermitRoom$Papers;I)V"⟩, 10) := ⟨⟨by decide +kernel, by decide +kernel⟩, List.mem_of_getElem? (i := 252) (by decide +kernel), List.mem_of_getElem? (i := 813) (by decide +kernel), List.mem_of_getElem? (i := 814) (by decide +kernel)⟩
theorem lw_p24 : lw_okq (⟨"PermitRoom$Plan", "fewestLeft", "(II)I"⟩, 10) := ⟨⟨by decide +kernel, by decide +kernel⟩, List.mem_of_getElem? (i := 252) (by decide +kernel), List.mem_of_getElem? (i := 817) (by decide +kernel), List.mem_of_getElem? (i := 818) (by decide +kernel)⟩
theorem lw_p25 : lw_okq (⟨"PermitRoom$Plan", "movesThrough", "(III)I"⟩, 10) := ⟨⟨by decide +kernel, by decide +kernel⟩, List.mem_of_getElem? (i := 252) (by decide +kernel), List.mem_of_getElem? (i := 822) (by decide +kernel), List.mem_of_getElem? (i := 823) (by decide +kernel)⟩
theorem lw_p26 : lw_okq (⟨"PermitRoom$Plan", "layOrder", "()I"⟩, 10) := ⟨⟨by decide +kernel, by decide +kernel⟩, List.mem_of_getElem? (i := 252) (by decide +kernel), List.mem_of_getElem? (i := 829) (by decide +kernel), List.mem_of_getElem? (i := 830) (by decide +kernel)⟩
theorem lw_p27 : lw_okq (⟨"PermitRoom$Plan", "bestWork", "(IIII)I"⟩, 10) := ⟨⟨by decide +kernel, by decide +kernel⟩, List.mem_of_getElem? (i := 252) (by decide +kernel), List.mem_of_getElem? (i := 833) (by decide +kernel), List.mem_of_getElem? (i := 834) (by decide +kernel)⟩
theorem lw_p28 : lw_okq (⟨"PermitRoom$Plan", "addRow", "(III)V"⟩, 10) := ⟨⟨by decide +kernel, by decide +kernel⟩, List.mem_of_getElem? (i := 252) (by decide +kernel), List.mem_of_getElem? (i := 837) (by decide +kernel), List.mem_of_getElem? (i := 838) (by decide +kernel)⟩
theorem lw_p29 : lw_okq (⟨"PermitRoomModel", "isPipe", "(I)Z"⟩, 47) := ⟨⟨by decide +kernel, by decide +kernel⟩, List.mem_of_getElem? (i := 878) (by decide +kernel), List.mem_of_getElem? (i := 1041) (by decide +kernel), List.mem_of_getElem? (i := 1042) (by decide +kernel)⟩
theorem lw_p30 : lw_okq (⟨"PermitRoomModel", "closedNow", "()I"⟩, 47) := ⟨⟨by decide +kernel, by decide +kernel⟩, List.mem_of_getElem? (i := 878) (by decide +kernel), List.mem_of_getElem? (i := 1045) (by decide +kernel), List.mem_of_getElem? (i := 1046) (by decide +kernel)⟩
theorem lw_p31 : lw_okq (⟨"PermitRoomModel", "locks", "(I)I"⟩, 47) := ⟨⟨by decide +kernel, by decide +kernel⟩, List.mem_of_getElem? (i := 878) (by decide +kernel), List.mem_of_getElem? (i := 1049) (by decide +kernel), List.mem_of_getElem? (i := 1050) (by decide +kernel)⟩
def lw_privs_2 : List (MethodName × Nat) := [(⟨"PermitRoom$Plant", "barOfBack", "(II)I"⟩, 4), (⟨"PermitRoom$Plant", "isWatched", "(II)Z"⟩, 4), (⟨"PermitRoom$Plant", "barOfEnter", "(II)I"⟩, 4), (⟨"PermitRoom$Plant", "isCrowded", "(II)Z"⟩, 4), (⟨"PermitRoom$Net", "thinned", "(II)I"⟩, 10), (⟨"PermitRoom$Net", "isBetter", "(II)Z"⟩, 10), (⟨"PermitRoom", "isPast", "(I)Z"⟩, 9), (⟨"PermitRoom$Plan", "gatherWorks", "(LPermitRoom$Papers;I)V"⟩, 10), (⟨"PermitRoom$Plan", "fewestLeft", "(II)I"⟩, 10), (⟨"PermitRoom$Plan", "movesThrough", "(III)I"⟩, 10), (⟨"PermitRoom$Plan", "layOrder", "()I"⟩, 10), (⟨"PermitRoom$Plan", "bestWork", "(IIII)I"⟩, 10), (⟨"PermitRoom$Plan", "addRow", "(III)V"⟩, 10), (⟨"PermitRoomModel", "isPipe", "(I)Z"⟩, 47), (⟨"PermitRoomModel", "closedNow", "()I"⟩, 47), (⟨"PermitRoomModel", "locks", "(I)I"⟩, 47)]
theorem lw_r2 : ∀ q ∈ lw_privs_2, lw_okq q := List.forall_mem_cons.mpr ⟨lw_p16, List.forall_mem_cons.mpr ⟨lw_p17, List.forall_mem_cons.mpr ⟨lw_p18, List.forall_mem_cons.mpr ⟨lw_p19, List.forall_mem_cons.mpr ⟨lw_p20, List.forall_mem_cons.mpr ⟨lw_p21, List.forall_mem_cons.mpr ⟨lw_p22, List.forall_mem_cons.mpr ⟨lw_p23, List.forall_mem_cons.mpr ⟨lw_p24, List.forall_mem_cons.mpr ⟨lw_p25, List.forall_mem_cons.mpr ⟨lw_p26, List.forall_mem_cons.mpr ⟨lw_p27, List.forall_mem_cons.mpr ⟨lw_p28, List.forall_mem_cons.mpr ⟨lw_p29, List.forall_mem_cons.mpr ⟨lw_p30, List.forall_mem_cons.mpr ⟨lw_p31, fun _ h => absurd h List.not_mem_nil⟩⟩⟩⟩⟩⟩⟩⟩⟩⟩⟩⟩⟩⟩⟩⟩
theorem lw_p32 : lw_okq (⟨"PermitRoomModel", "hasLocks", "(I)Z"⟩, 47) := ⟨⟨by decide +kernel, by decide +kernel⟩, List.mem_of_getElem? (i := 878) (by decide +kernel), List.mem_of_getElem? (i := 1053) (by decide +kernel), List.mem_of_getElem? (i := 1054) (by decide +kernel)⟩
theorem lw_p33 : lw_okq (⟨"PermitRoomModel", "isFitting", "(I)Z"⟩, 47) := ⟨⟨by decide +kernel, by decide +kernel⟩, List.mem_of_getElem? (i := 878) (by decide +kernel), List.mem_of_getElem? (i := 1068) (by decide +kernel), List.mem_of_getElem? (i := 1069) (by decide +kernel)⟩
theorem lw_p34 : lw_okq (⟨"PermitRoomModel", "isSafeNow", "(II)Z"⟩, 47) := ⟨⟨by decide +kernel, by decide +kernel⟩, List.mem_of_getElem? (i := 878) (by decide +kernel), List.mem_of_getElem? (i := 1076) (by decide +kernel), List.mem_of_getElem? (i := 1077) (by decide +kernel)⟩
theorem lw_p35 : lw_okq (⟨"PermitRoomModel", "isSafe", "(IIII)Z"⟩, 47) := ⟨⟨by decide +kernel, by decide +kernel⟩, List.mem_of_getElem? (i := 878) (by decide +kernel), List.mem_of_getElem? (i := 1080) (by decide +kernel), List.mem_of_getElem? (i := 1081) (by decide +kernel)⟩
theorem lw_p36 : lw_okq (⟨"PermitRoomModel", "reach", "(IIIZ)V"⟩, 47) := ⟨⟨by decide +kernel, by decide +kernel⟩, List.mem_of_getElem? (i := 878) (by decide +kernel), List.mem_of_getElem? (i := 1084) (by decide +kernel), List.mem_of_getElem? (i := 1085) (by decide +kernel)⟩
theorem lw_p37 : lw_okq (⟨"PermitRoomModel", "wanted", "(II)I"⟩, 47) := ⟨⟨by decide +kernel, by decide +kernel⟩, List.mem_of_getElem? (i := 878) (by decide +kernel), List.mem_of_getElem? (i := 1088) (by decide +kernel), List.mem_of_getElem? (i := 1089) (by decide +kernel)⟩
theorem lw_p38 : lw_okq (⟨"PermitRoomModel", "isInForce", "(II)Z"⟩, 47) := ⟨⟨by decide +kernel, by decide +kernel⟩, List.mem_of_getElem? (i := 878) (by decide +kernel), List.mem_of_getElem? (i := 1092) (by decide +kernel), List.mem_of_getElem? (i := 1093) (by decide +kernel)⟩
theorem lw_p39 : lw_okq (⟨"PermitRoomModel", "between", "(IIZ)I"⟩, 47) := ⟨⟨by decide +kernel, by decide +kernel⟩, List.mem_of_getElem? (i := 878) (by decide +kernel), List.mem_of_getElem? (i := 1100) (by decide +kernel), List.mem_of_getElem? (i := 1101) (by decide +kernel)⟩
theorem lw_p40 : lw_okq (⟨"PermitRoomModel", "liveNow", "()I"⟩, 47) := ⟨⟨by decide +kernel, by decide +kernel⟩, List.mem_of_getElem? (i := 878) (by decide +kernel), List.mem_of_getElem? (i := 1112) (by decide +kernel), List.mem_of_getElem? (i := 1113) (by decide +kernel)⟩
theorem lw_p41 : lw_okq (⟨"PermitRoomModel", "readRule", "()V"⟩, 47) := ⟨⟨by decide +kernel, by decide +kernel⟩, List.mem_of_getElem? (i := 878) (by decide +kernel), List.mem_of_getElem? (i := 1125) (by decide +kernel), List.mem_of_getElem? (i := 1126) (by decide +kernel)⟩
theorem lw_p42 : lw_okq (⟨"PermitRoomModel", "next", "()V"⟩, 47) := ⟨⟨by decide +kernel, by decide +kernel⟩, List.mem_of_getElem? (i := 878) (by decide +kernel), List.mem_of_getElem? (i := 1129) (by decide +kernel), List.mem_of_getElem? (i := 1130) (by decide +kernel)⟩
theorem lw_p43 : lw_okq (⟨"PermitRoomModel", "isLetter", "(I)Z"⟩, 47) := ⟨⟨by decide +kernel, by decide +kernel⟩, List.mem_of_getElem? (i := 878) (by decide +kernel), List.mem_of_getElem? (i := 1133) (by decide +kernel), List.mem_of_getElem? (i := 1134) (by decide +kernel)⟩
theorem lw_p44 : lw_okq (⟨"PermitRoomModel", "isDigit", "(I)Z"⟩, 47) := ⟨⟨by decide +kernel, by decide +kernel⟩, List.mem_of_getElem? (i := 878) (by decide +kernel), List.mem_of_getElem? (i := 1137) (by decide +kernel), List.mem_of_getElem? (i := 1138) (by decide +kernel)⟩
theorem lw_p45 : lw_okq (⟨"PermitRoomModel", "kind", "()I"⟩, 47) := ⟨⟨by decide +kernel, by decide +kernel⟩, List.mem_of_getElem? (i := 878) (by decide +kernel), List.mem_of_getElem? (i := 1141) (by decide +kernel), List.mem_of_getElem? (i := 1142) (by decide +kernel)⟩
theorem lw_p46 : lw_okq (⟨"PermitRoomModel", "isWord", "(JI)Z"⟩, 47) := ⟨⟨by decide +kernel, by decide +kernel⟩, List.mem_of_getElem? (i := 878) (by decide +kernel), List.mem_of_getElem? (i := 1146) (by decide +kernel), List.mem_of_getElem? (i := 1147) (by decide +kernel)⟩
theorem lw_p47 : lw_okq (⟨"PermitRoomModel", "bad", "()V"⟩, 47) := ⟨⟨by decide +kernel, by decide +kernel⟩, List.mem_of_getElem? (i := 878) (by decide +kernel), List.mem_of_getElem? (i := 1155) (by decide +kernel), List.mem_of_getElem? (i := 1156) (by decide +kernel)⟩
def lw_privs_3 : List (MethodName × Nat) := [(⟨"PermitRoomModel", "hasLocks", "(I)Z"⟩, 47), (⟨"PermitRoomModel", "isFitting", "(I)Z"⟩, 47), (⟨"PermitRoomModel", "isSafeNow", "(II)Z"⟩, 47), (⟨"PermitRoomModel", "isSafe", "(IIII)Z"⟩, 47), (⟨"PermitRoomModel", "reach", "(IIIZ)V"⟩, 47), (⟨"PermitRoomModel", "wanted", "(II)I"⟩, 47), (⟨"PermitRoomModel", "isInForce", "(II)Z"⟩, 47), (⟨"PermitRoomModel", "between", "(IIZ)I"⟩, 47), (⟨"PermitRoomModel", "liveNow", "()I"⟩, 47), (⟨"PermitRoomModel", "readRule", "()V"⟩, 47), (⟨"PermitRoomModel", "next", "()V"⟩, 47), (⟨"PermitRoomModel", "isLetter", "(I)Z"⟩, 47), (⟨"PermitRoomModel", "isDigit", "(I)Z"⟩, 47), (⟨"PermitRoomModel", "kind", "()I"⟩, 47), (⟨"PermitRoomModel", "isWord", "(JI)Z"⟩, 47), (⟨"PermitRoomModel", "bad", "()V"⟩, 47)]
theorem lw_r3 : ∀ q ∈ lw_privs_3, lw_okq q := List.forall_mem_cons.mpr ⟨lw_p32, List.forall_mem_cons.mpr ⟨lw_p33, List.forall_mem_cons.mpr ⟨lw_p34, List.forall_mem_cons.mpr ⟨lw_p35, List.forall_mem_cons.mpr ⟨lw_p36, List.forall_mem_cons.mpr ⟨lw_p37, List.forall_mem_cons.mpr ⟨lw_p38, List.forall_mem_cons.mpr ⟨lw_p39, List.forall_mem_cons.mpr ⟨lw_p40, List.forall_mem_cons.mpr ⟨lw_p41, List.forall_mem_cons.mpr ⟨lw_p42, List.forall_mem_cons.mpr ⟨lw_p43, List.forall_mem_cons.mpr ⟨lw_p44, List.forall_mem_cons.mpr ⟨lw_p45, List.forall_mem_cons.mpr ⟨lw_p46, List.forall_mem_cons.mpr ⟨lw_p47, fun _ h => absurd h List.not_mem_nil⟩⟩⟩⟩⟩⟩⟩⟩⟩⟩⟩⟩⟩⟩⟩⟩
theorem lw_p48 : lw_okq (⟨"PermitRoomModel", "hazard", "()I"⟩, 47) := ⟨⟨by decide +kernel, by decide +kernel⟩, List.mem_of_getElem? (i := 878) (by decide +kernel), List.mem_of_getElem? (i := 1159) (by decide +kernel), List.mem_of_getElem? (i := 1160) (by decide +kernel)⟩
theorem lw_p49 : lw_okq (⟨"PermitRoomModel", "sort", "()I"⟩, 47) := ⟨⟨by decide +kernel, by decide +kernel⟩, List.mem_of_getElem? (i := 878) (by decide +kernel), List.mem_of_getElem? (i := 1166) (by decide +kernel), List.mem_of_getElem? (i := 1167) (by decide +kernel)⟩
theorem lw_p50 : lw_okq (⟨"PermitRoomModel", "word", "(JI)V"⟩, 47) := ⟨⟨by decide +kernel, by decide +kernel⟩, List.mem_of_getElem? (i := 878) (by decide +kernel), List.mem_of_getElem? (i := 1174) (by decide +kernel), List.mem_of_getElem? (i := 1175) (by decide +kernel)⟩
theorem lw_p51 : lw_okq (⟨"PermitRoomModel", "number", "(II)I"⟩, 47) := ⟨⟨by decide +kernel, by decide +kernel⟩, List.mem_of_getElem? (i := 878) (by decide +kernel), List.mem_of_getElem? (i := 1178) (by decide +kernel), List.mem_of_getElem? (i := 1179) (by decide +kernel)⟩
theorem lw_p52 : lw_okq (⟨"PermitRoomModel", "isRule", "(I)Z"⟩, 47) := ⟨⟨by decide +kernel, by decide +kernel⟩, List.mem_of_getElem? (i := 878) (by decide +kernel), List.mem_of_getElem? (i := 1188) (by decide +kernel), List.mem_of_getElem? (i := 1189) (by decide +kernel)⟩
theorem lw_p53 : lw_okq (⟨"PermitRoomModel", "isPermit", "(I)Z"⟩, 47) := ⟨⟨by decide +kernel, by decide +kernel⟩, List.mem_of_getElem? (i := 878) (by decide +kernel), List.mem_of_getElem? (i := 1204) (by decide +kernel), List.mem_of_getElem? (i := 1205) (by decide +kernel)⟩
theorem lw_p54 : lw_okq (⟨"PermitRoomModel", "bar", "(II)I"⟩, 47) := ⟨⟨by decide +kernel, by decide +kernel⟩, List.mem_of_getElem? (i := 878) (by decide +kernel), List.mem_of_getElem? (i := 1215) (by decide +kernel), List.mem_of_getElem? (i := 1216) (by decide +kernel)⟩
theorem lw_p55 : lw_okq (⟨"PermitRoomModel", "isOutOfState", "(II)Z"⟩, 47) := ⟨⟨by decide +kernel, by decide +kernel⟩, List.mem_of_getElem? (i := 878) (by decide +kernel), List.mem_of_getElem? (i := 1219) (by decide +kernel), List.mem_of_getElem? (i := 1220) (by decide +kernel)⟩
theorem lw_p56 : lw_okq (⟨"PermitRoomModel", "mayBegin", "(I)Z"⟩, 47) := ⟨⟨by decide +kernel, by decide +kernel⟩, List.mem_of_getElem? (i := 878) (by decide +kernel), List.mem_of_getElem? (i := 1223) (by decide +kernel), List.mem_of_getElem? (i := 1224) (by decide +kernel)⟩
theorem lw_p57 : lw_okq (⟨"PermitRoomModel", "startBar", "(I)I"⟩, 47) := ⟨⟨by decide +kernel, by decide +kernel⟩, List.mem_of_getElem? (i := 878) (by decide +kernel), List.mem_of_getElem? (i := 1227) (by decide +kernel), List.mem_of_getElem? (i := 1228) (by decide +kernel)⟩
theorem lw_p58 : lw_okq (⟨"PermitRoomModel", "lacksTest", "(I)Z"⟩, 47) := ⟨⟨by decide +kernel, by decide +kernel⟩, List.mem_of_getElem? (i := 878) (by decide +kernel), List.mem_of_getElem? (i := 1231) (by decide +kernel), List.mem_of_getElem? (i := 1232) (by decide +kernel)⟩
theorem lw_p59 : lw_okq (⟨"PermitRoomModel", "rules", "(III)Z"⟩, 47) := ⟨⟨by decide +kernel, by decide +kernel⟩, List.mem_of_getElem? (i := 878) (by decide +kernel), List.mem_of_getElem? (i := 1235) (by decide +kernel), List.mem_of_getElem? (i := 1236) (by decide +kernel)⟩
theorem lw_p60 : lw_okq (⟨"PermitRoomModel", "quarrelOf", "(I)I"⟩, 47) := ⟨⟨by decide +kernel, by decide +kernel⟩, List.mem_of_getElem? (i := 878) (by decide +kernel), List.mem_of_getElem? (i := 1239) (by decide +kernel), List.mem_of_getElem? (i := 1240) (by decide +kernel)⟩
theorem lw_p61 : lw_okq (⟨"PermitRoomModel", "within", "(II)I"⟩, 47) := ⟨⟨by decide +kernel, by decide +kernel⟩, List.mem_of_getElem? (i := 878) (by decide +kernel), List.mem_of_getElem? (i := 1243) (by decide +kernel), List.mem_of_getElem? (i := 1244) (by decide +kernel)⟩
theorem lw_p62 : lw_okq (⟨"PermitRoomModel", "isOutOfHours", "(I)Z"⟩, 47) := ⟨⟨by decide +kernel, by decide +kernel⟩, List.mem_of_getElem? (i := 878) (by decide +kernel), List.mem_of_getElem? (i := 1247) (by decide +kernel), List.mem_of_getElem? (i := 1248) (by decide +kernel)⟩
theorem lw_p63 : lw_okq (⟨"PermitRoomModel", "insideOf", "(I)I"⟩, 47) := ⟨⟨by decide +kernel, by decide +kernel⟩, List.mem_of_getElem? (i := 878) (by decide +kernel), List.mem_of_getElem? (i := 1251) (by decide +kernel), List.mem_of_getElem? (i := 1252) (by decide +kernel)⟩
def lw_privs_4 : List (MethodName × Nat) := [(⟨"PermitRoomModel", "hazard", "()I"⟩, 47), (⟨"PermitRoomModel", "sort", "()I"⟩, 47), (⟨"PermitRoomModel", "word", "(JI)V"⟩, 47), (⟨"PermitRoomModel", "number", "(II)I"⟩, 47), (⟨"PermitRoomModel", "isRule", "(I)Z"⟩, 47), (⟨"PermitRoomModel", "isPermit", "(I)Z"⟩, 47), (⟨"PermitRoomModel", "bar", "(II)I"⟩, 47), (⟨"PermitRoomModel", "isOutOfState", "(II)Z"⟩, 47), (⟨"PermitRoomModel", "mayBegin", "(I)Z"⟩, 47), (⟨"PermitRoomModel", "startBar", "(I)I"⟩, 47), (⟨"PermitRoomModel", "lacksTest", "(I)Z"⟩, 47), (⟨"PermitRoomModel", "rules", "(III)Z"⟩, 47), (⟨"PermitRoomModel", "quarrelOf", "(I)I"⟩, 47), (⟨"PermitRoomModel", "within", "(II)I"⟩, 47), (⟨"PermitRoomModel", "isOutOfHours", "(I)Z"⟩, 47), (⟨"PermitRoomModel", "insideOf", "(I)I"⟩, 47)]
theorem lw_r4 : ∀ q ∈ lw_privs_4, lw_okq q := List.forall_mem_cons.mpr ⟨lw_p48, List.forall_mem_cons.mpr ⟨lw_p49, List.forall_mem_cons.mpr ⟨lw_p50, List.forall_mem_cons.mpr ⟨lw_p51, List.forall_mem_cons.mpr ⟨lw_p52, List.forall_mem_cons.mpr ⟨lw_p53, List.forall_mem_cons.mpr ⟨lw_p54, List.forall_mem_cons.mpr ⟨lw_p55, List.forall_mem_cons.mpr ⟨lw_p56, List.forall_mem_cons.mpr ⟨lw_p57, List.forall_mem_cons.mpr ⟨lw_p58, List.forall_mem_cons.mpr ⟨lw_p59, List.forall_mem_cons.mpr ⟨lw_p60, List.forall_mem_cons.mpr ⟨lw_p61, List.forall_mem_cons.mpr ⟨lw_p62, List.forall_mem_cons.mpr ⟨lw_p63, fun _ h => absurd h List.not_mem_nil⟩⟩⟩⟩⟩⟩⟩⟩⟩⟩⟩⟩⟩⟩⟩⟩
theorem lw_p64 : lw_okq (⟨"PermitRoomModel", "isWatched", "(I)Z"⟩, 47) := ⟨⟨by decide +kernel, by decide +kernel⟩, List.mem_of_getElem? (i := 878) (by decide +kernel), List.mem_of_getElem? (i := 1255) (by decide +kernel), List.mem_of_getElem? (i := 1256) (by decide +kernel)⟩
theorem lw_p65 : lw_okq (⟨"PermitRoomModel", "areTooMany", "(I)Z"⟩, 47) := ⟨⟨by decide +kernel, by decide +kernel⟩, List.mem_of_getElem? (i := 878) (by decide +kernel), List.mem_of_getElem? (i := 1259) (by decide +kernel), List.mem_of_getElem? (i := 1260) (by decide +kernel)⟩
theorem lw_p66 : lw_okq (⟨"PermitRoomModel", "hangUp", "(I)V"⟩, 47) := ⟨⟨by decide +kernel, by decide +kernel⟩, List.mem_of_getElem? (i := 878) (by decide +kernel), List.mem_of_getElem? (i := 1278) (by decide +kernel), List.mem_of_getElem? (i := 1279) (by decide +kernel)⟩
theorem lw_p67 : lw_okq (⟨"PermitRoomModel", "holdsLive", "(I)Z"⟩, 47) := ⟨⟨by decide +kernel, by decide +kernel⟩, List.mem_of_getElem? (i := 878) (by decide +kernel), List.mem_of_getElem? (i := 1310) (by decide +kernel), List.mem_of_getElem? (i := 1311) (by decide +kernel)⟩
theorem lw_p68 : lw_okq (⟨"PermitRoomModel", "leastOf", "(I)I"⟩, 47) := ⟨⟨by decide +kernel, by decide +kernel⟩, List.mem_of_getElem? (i := 878) (by decide +kernel), List.mem_of_getElem? (i := 1322) (by decide +kernel), List.mem_of_getElem? (i := 1323) (by decide +kernel)⟩
theorem lw_p69 : lw_okq (⟨"PermitRoomModel", "hoursOf", "(I)I"⟩, 47) := ⟨⟨by decide +kernel, by decide +kernel⟩, List.mem_of_getElem? (i := 878) (by decide +kernel), List.mem_of_getElem? (i := 1326) (by decide +kernel), List.mem_of_getElem? (i := 1327) (by decide +kernel)⟩
theorem lw_p70 : lw_okq (⟨"PermitRoomModel", "areFittings", "(I)Z"⟩, 47) := ⟨⟨by decide +kernel, by decide +kernel⟩, List.mem_of_getElem? (i := 878) (by decide +kernel), List.mem_of_getElem? (i := 1333) (by decide +kernel), List.mem_of_getElem? (i := 1334) (by decide +kernel)⟩
theorem lw_p71 : lw_okq (⟨"PermitRoomModel", "asked", "()I"⟩, 47) := ⟨⟨by decide +kernel, by decide +kernel⟩, List.mem_of_getElem? (i := 878) (by decide +kernel), List.mem_of_getElem? (i := 1353) (by decide +kernel), List.mem_of_getElem? (i := 1354) (by decide +kernel)⟩
theorem lw_p72 : lw_okq (⟨"PermitRoomModel", "findRest", "(I)V"⟩, 47) := ⟨⟨by decide +kernel, by decide +kernel⟩, List.mem_of_getElem? (i := 878) (by decide +kernel), List.mem_of_getElem? (i := 1357) (by decide +kernel), List.mem_of_getElem? (i := 1358) (by decide +kernel)⟩
theorem lw_p73 : lw_okq (⟨"PermitRoomModel", "moves", "(II)I"⟩, 47) := ⟨⟨by decide +kernel, by decide +kernel⟩, List.mem_of_getElem? (i := 878) (by decide +kernel), List.mem_of_getElem? (i := 1361) (by decide +kernel), List.mem_of_getElem? (i := 1362) (by decide +kernel)⟩
theorem lw_p74 : lw_okq (⟨"PermitRoomModel", "permitsThat", "(I)I"⟩, 47) := ⟨⟨by decide +kernel, by decide +kernel⟩, List.mem_of_getElem? (i := 878) (by decide +kernel), List.mem_of_getElem? (i := 1389) (by decide +kernel), List.mem_of_getElem? (i := 1390) (by decide +kernel)⟩
theorem lw_p75 : lw_okq (⟨"PermitRoomModel", "men", "(Z)I"⟩, 47) := ⟨⟨by decide +kernel, by decide +kernel⟩, List.mem_of_getElem? (i := 878) (by decide +kernel), List.mem_of_getElem? (i := 1393) (by decide +kernel), List.mem_of_getElem? (i := 1394) (by decide +kernel)⟩
theorem lw_p76 : lw_okq (⟨"PermitRoomModel", "allLocks", "()I"⟩, 47) := ⟨⟨by decide +kernel, by decide +kernel⟩, List.mem_of_getElem? (i := 878) (by decide +kernel), List.mem_of_getElem? (i := 1397) (by decide +kernel), List.mem_of_getElem? (i := 1398) (by decide +kernel)⟩
def lw_privs_5 : List (MethodName × Nat) := [(⟨"PermitRoomModel", "isWatched", "(I)Z"⟩, 47), (⟨"PermitRoomModel", "areTooMany", "(I)Z"⟩, 47), (⟨"PermitRoomModel", "hangUp", "(I)V"⟩, 47), (⟨"PermitRoomModel", "holdsLive", "(I)Z"⟩, 47), (⟨"PermitRoomModel", "leastOf", "(I)I"⟩, 47), (⟨"PermitRoomModel", "hoursOf", "(I)I"⟩, 47), (⟨"PermitRoomModel", "areFittings", "(I)Z"⟩, 47), (⟨"PermitRoomModel", "asked", "()I"⟩, 47), (⟨"PermitRoomModel", "findRest", "(I)V"⟩, 47), (⟨"PermitRoomModel", "moves", "(II)I"⟩, 47), (⟨"PermitRoomModel", "permitsThat", "(I)I"⟩, 47), (⟨"PermitRoomModel", "men", "(Z)I"⟩, 47), (⟨"PermitRoomModel", "allLocks", "()I"⟩, 47)]
theorem lw_r5 : ∀ q ∈ lw_privs_5, lw_okq q := List.forall_mem_cons.mpr ⟨lw_p64, List.forall_mem_cons.mpr ⟨lw_p65, List.forall_mem_cons.mpr ⟨lw_p66, List.forall_mem_cons.mpr ⟨lw_p67, List.forall_mem_cons.mpr ⟨lw_p68, List.forall_mem_cons.mpr ⟨lw_p69, List.forall_mem_cons.mpr ⟨lw_p70, List.forall_mem_cons.mpr ⟨lw_p71, List.forall_mem_cons.mpr ⟨lw_p72, List.forall_mem_cons.mpr ⟨lw_p73, List.forall_mem_cons.mpr ⟨lw_p74, List.forall_mem_cons.mpr ⟨lw_p75, List.forall_mem_cons.mpr ⟨lw_p76, fun _ h => absurd h List.not_mem_nil⟩⟩⟩⟩⟩⟩⟩⟩⟩⟩⟩⟩⟩
def lw_privs : List (MethodName × Nat) := lw_privs_1 ++ (lw_privs_2 ++ (lw_privs_3 ++ (lw_privs_4 ++ (lw_privs_5))))
def lw_tbl : List Cond := k2_sels lw_privs ++ tables_1
theorem lw_privs_ok : ∀ q ∈ lw_privs, lw_okq q := by
  show ∀ q ∈ lw_privs_1 ++ (lw_privs_2 ++ (lw_privs_3 ++ (lw_privs_4 ++ (lw_privs_5)))), lw_okq q
  exact List.forall_mem_append.mpr ⟨lw_r1, List.forall_mem_append.mpr ⟨lw_r2, List.forall_mem_append.mpr ⟨lw_r3, List.forall_mem_append.mpr ⟨lw_r4, lw_r5⟩⟩⟩⟩
-- ===== end of PART A; then your names; then what follows =====
/-! THE CLAIM OUT OF ONE WALK OF THE LAW'S BODY. Your part is whole_start (and what it stands on); all else here is the same for every law, but numbers. -/
def R_law : String := "PermitRoomLaw"
def lw_P (b : Addr) (xs : List Int32) (args : Array Value) (s : State) : Prop := args = #[.ref b] ∧ s.IntsAt b xs ∧ xs.length ≤ 4 ∧ (Jvm.Cond.and given_1 narrow_1).before args s = true
def lw_Q (_ : Array Value) (s : State) (o : Outcome) (t : State) : Prop := o = .returned (some (.int 1)) ∧ Framed s o t [] 600000 7302249
def lw_Z (below : List Frame) (a : Array Value) (s : State) : State → Prop := fun t => ∃ o, t.status = .running ∧ Ended t below o ∧ lw_Q a s o t
/-- the law's own end, with 1 on the stack, nothing written that was there before, its room as the claim has it -/
theorem lw_ret {p : Program} {l : Launch} {e : Env} {s : State} {m : MethodId} {below : List Frame} {meth : Method} {c : Code} {b : Nat} (hx : p.tables.exec = Jvm.exec) (hb : c.code = code) (hr : meth.sig.returnType = ret) (hlocks : meth.locks = false) {pc : Nat} {H : Heap} {ls : Array Slot} (hdg : decode code pc = .ok (.ireturn, 1)) : W p l e room_1 s m #[Value.ref b] below meth c H [] 600000 7302249 (lw_Z below #[Value.ref b] s) (F0 m pc ls [.int 1]) := by
  intro T hT X
  obtain ⟨fs, hret, hrun, hended, hW, hframe⟩ := X.leave (v := some (.int 1)) (hlocks := hlocks) (fun h => by rw [hr] at h; cases h)
  have hmeth' : T.vm.method? m = some meth := X.method'
  refine ⟨T.setFrames fs, ?_, .returned (some (.int 1)), hrun, hended, rfl, ⟨_, rfl⟩, hW, hframe⟩
  jvm_step X.here [X.here.top, hx, hb, hdg, hmeth', hr, ret, narrow_b1]
  (try refine ⟨rfl, ?_⟩); (try refine ⟨rfl, ?_⟩)
  first | (intro acts; rw [hret _ acts rfl rfl rfl]) | rw [hret _ _ rfl rfl rfl]
  exact Steps.refl _
/-- what holds at the law's entry: the machine, the code, the tables' words (any of lw_tbl by 'hts w (by decide +kernel)'), the script of L ints xs at the cell b, what the Statement gives of the start (any of its parts by flat_of_before) -/
def lw_At (p : Program) (s : State) (m : MethodId) (meth : Method) (c : Code) (b L : Nat) (xs : Nat → Int32) : Prop :=
  p.tables.exec = Jvm.exec ∧ c.code = code ∧ meth.sig.returnType = ret ∧ c.maxLocals = 4 ∧ s.vm.findClass R_law = some m.cls ∧ (∀ w ∈ lw_tbl, w.before #[Value.ref b] s = true) ∧ va_X b L xs s s.heap ∧ b < s.heap.size ∧ meth.locks = false ∧ (Jvm.Cond.and given_1 narrow_1).before #[Value.ref b] s = true
end
section
def RX0 : String := "PermitRoom$Crew"
def TX0 : u_T := fun k => match k with
  | 0 => ("PermitRoom$Crew", "onShift", "I", false)
  | _ => ("PermitRoom$Crew", "workOf", "[I", true)
def tyX0 : Nat → FieldType := fun k => match k with
  | 0 => .int
  | _ => .array .int
abbrev wsX00 : List Cond := u_ws RX0 TX0 2
theorem nmX0 : ∀ a, a < 2 → ∀ b, b < 2 → a ≠ b → (TX0 a).2.1 ≠ (TX0 b).2.1 := by decide +kernel
theorem tyX0_ok : ∀ k, k < 2 → parseFieldDescriptor (TX0 k).2.2.1 = some (tyX0 k) := by decide +kernel
abbrev cX0_init : ByteArray := prog_2_method_1_code
def yX0_init : MethodName := ⟨RX0, "<init>", "()V"⟩
abbrev cX0_isOn : ByteArray := prog_2_method_2_code
def yX0_isOn : MethodName := ⟨RX0, "isOn", "(I)Z"⟩
abbrev cX0_tellShift : ByteArray := prog_2_method_3_code
def yX0_tellShift : MethodName := ⟨RX0, "tellShift", "(IZ)V"⟩
abbrev cX0_insideFor : ByteArray := prog_2_method_4_code
def yX0_insideFor : MethodName := ⟨RX0, "insideFor", "(I)I"⟩
abbrev cX0_allInside : ByteArray := prog_2_method_5_code
def yX0_allInside : MethodName := ⟨RX0, "allInside", "()I"⟩
abbrev cX0_comeOut : ByteArray := prog_2_method_6_code
def yX0_comeOut : MethodName := ⟨RX0, "comeOut", "()I"⟩
def RX1 : String := "PermitRoom$History"
def TX1 : u_T := fun k => match k with
  | 0 => ("PermitRoom$History", "closedAt", "[I", true)
  | _ => ("PermitRoom$History", "liveAt", "[I", true)
def tyX1 : Nat → FieldType := fun k => match k with
  | 0 => .array .int
  | _ => .array .int
abbrev wsX10 : List Cond := u_ws RX1 TX1 2
theorem nmX1 : ∀ a, a < 2 → ∀ b, b < 2 → a ≠ b → (TX1 a).2.1 ≠ (TX1 b).2.1 := by decide +kernel
theorem tyX1_ok : ∀ k, k < 2 → parseFieldDescriptor (TX1 k).2.2.1 = some (tyX1 k) := by decide +kernel
abbrev cX1_init : ByteArray := prog_3_method_1_code
def yX1_init : MethodName := ⟨RX1, "<init>", "()V"⟩
abbrev cX1_keep : ByteArray := prog_3_method_2_code
def yX1_keep : MethodName := ⟨RX1, "keep", "(IIII)V"⟩
def RX2 : String := "PermitRoom$Net"
def TX2 : u_T := fun k => match k with
  | 0 => ("PermitRoom$Net", "oneEnd", "[I", true)
  | 1 => ("PermitRoom$Net", "otherEnd", "[I", true)
  | 2 => ("PermitRoom$Net", "bothEnds", "[I", true)
  | 3 => ("PermitRoom$Net", "fitting", "[I", true)
  | 4 => ("PermitRoom$Net", "knownFrom", "[I", true)
  | 5 => ("PermitRoom$Net", "sources", "[I", true)
  | 6 => ("PermitRoom$Net", "count", "I", false)
  | 7 => ("PermitRoom$Net", "valves", "I", false)
  | 8 => ("PermitRoom$Net", "blinds", "I", false)
  | _ => ("PermitRoom$Net", "byHand", "I", false)
def tyX2 : Nat → FieldType := fun k => match k with
  | 0 => .array .int
  | 1 => .array .int
  | 2 => .array .int
  | 3 => .array .int
  | 4 => .array .int
  | 5 => .array .int
  | 6 => .int
  | 7 => .int
  | 8 => .int
  | _ => .int
abbrev wsX20 : List Cond := u_ws RX2 TX2 10
theorem nmX2 : ∀ a, a < 10 → ∀ b, b < 10 → a ≠ b → (TX2 a).2.1 ≠ (TX2 b).2.1 := by decide +kernel
theorem tyX2_ok : ∀ k, k < 10 → parseFieldDescriptor (TX2 k).2.2.1 = some (tyX2 k) := by decide +kernel
abbrev cX2_init : ByteArray := prog_4_method_1_code
def yX2_init : MethodName := ⟨RX2, "<init>", "()V"⟩
abbrev cX2_lay : ByteArray := prog_4_method_2_code
def yX2_lay : MethodName := ⟨RX2, "lay", "(IIII)I"⟩
abbrev cX2_has : ByteArray := prog_4_method_3_code
def yX2_has : MethodName := ⟨RX2, "has", "(I)Z"⟩
abbrev cX2_hasFitting : ByteArray := prog_4_method_4_code
def yX2_hasFitting : MethodName := ⟨RX2, "hasFitting", "(I)Z"⟩
abbrev cX2_allPipes : ByteArray := prog_4_method_5_code
def yX2_allPipes : MethodName := ⟨RX2, "allPipes", "()I"⟩
abbrev cX2_allFittings : ByteArray := prog_4_method_6_code
def yX2_allFittings : MethodName := ⟨RX2, "allFittings", "()I"⟩
abbrev cX2_knownAt : ByteArray := prog_4_method_7_code
def yX2_knownAt : MethodName := ⟨RX2, "knownAt", "(I)I"⟩
abbrev cX2_tellSource : ByteArray := prog_4_method_8_code
def yX2_tellSource : MethodName := ⟨RX2, "tellSource", "(IIZ)Z"⟩
abbrev cX2_turnByHand : ByteArray := prog_4_method_9_code
def yX2_turnByHand : MethodName := ⟨RX2, "turnByHand", "(IZ)Z"⟩
abbrev cX2_stepOver : ByteArray := prog_4_method_10_code
def yX2_stepOver : MethodName := ⟨RX2, "stepOver", "(II)I"⟩
abbrev cX2_spread : ByteArray := prog_4_method_11_code
def yX2_spread : MethodName := ⟨RX2, "spread", "(II)I"⟩
abbrev cX2_sourcesOf : ByteArray := prog_4_method_12_code
def yX2_sourcesOf : MethodName := ⟨RX2, "sourcesOf", "(I)I"⟩
abbrev cX2_isSafe : ByteArray := prog_4_method_13_code
def yX2_isSafe : MethodName := ⟨RX2, "isSafe", "(IIII)Z"⟩
abbrev cX2_fewestBarriers : ByteArray := prog_4_method_14_code
def yX2_fewestBarriers : MethodName := ⟨RX2, "fewestBarriers", "(III)I"⟩
abbrev cX2_pipesApart : ByteArray := prog_4_method_15_code
def yX2_pipesApart : MethodName := ⟨RX2, "pipesApart", "(II)I"⟩
abbrev cX2_hoursOf : ByteArray := prog_4_method_16_code
def yX2_hoursOf : MethodName := ⟨RX2, "hoursOf", "(I)I"⟩
abbrev cX2_leastSetFor : ByteArray := prog_4_method_17_code
def yX2_leastSetFor : MethodName := ⟨RX2, "leastSetFor", "(II)I"⟩
abbrev cX2_thinned : ByteArray := prog_4_method_18_code
def yX2_thinned : MethodName := ⟨RX2, "thinned", "(II)I"⟩
abbrev cX2_leastSetFrom : ByteArray := prog_4_method_19_code
def yX2_leastSetFrom : MethodName := ⟨RX2, "leastSetFrom", "(LPermitRoom$Net;IIIII)I"⟩
abbrev cX2_isBetter : ByteArray := prog_4_method_20_code
def yX2_isBetter : MethodName := ⟨RX2, "isBetter", "(II)Z"⟩
def RX3 : String := "PermitRoom$Papers"
def TX3 : u_T := fun k => match k with
  | 0 => ("PermitRoom$Papers", "place", "[I", true)
  | 1 => ("PermitRoom$Papers", "sort", "[I", true)
  | 2 => ("PermitRoom$Papers", "set", "[I", true)
  | 3 => ("PermitRoom$Papers", "state", "[I", true)
  | 4 => ("PermitRoom$Papers", "holder", "[I", true)
  | 5 => ("PermitRoom$Papers", "testValue", "[I", true)
  | 6 => ("PermitRoom$Papers", "testHour", "[I", true)
  | 7 => ("PermitRoom$Papers", "liveTill", "[I", true)
  | _ => ("PermitRoom$Papers", "count", "I", false)
def tyX3 : Nat → FieldType := fun k => match k with
  | 0 => .array .int
  | 1 => .array .int
  | 2 => .array .int
  | 3 => .array .int
  | 4 => .array .int
  | 5 => .array .int
  | 6 => .array .int
  | 7 => .array .int
  | _ => .int
abbrev wsX30 : List Cond := u_ws RX3 TX3 9
theorem nmX3 : ∀ a, a < 9 → ∀ b, b < 9 → a ≠ b → (TX3 a).2.1 ≠ (TX3 b).2.1 := by decide +kernel
theorem tyX3_ok : ∀ k, k < 9 → parseFieldDescriptor (TX3 k).2.2.1 = some (tyX3 k) := by decide +kernel
abbrev cX3_init : ByteArray := prog_5_method_1_code
def yX3_init : MethodName := ⟨RX3, "<init>", "()V"⟩
abbrev cX3_write : ByteArray := prog_5_method_2_code
def yX3_write : MethodName := ⟨RX3, "write", "(III)I"⟩
abbrev cX3_has : ByteArray := prog_5_method_3_code
def yX3_has : MethodName := ⟨RX3, "has", "(I)Z"⟩
abbrev cX3_inState : ByteArray := prog_5_method_4_code
def yX3_inState : MethodName := ⟨RX3, "inState", "(I)I"⟩
abbrev cX3_locksOf : ByteArray := prog_5_method_5_code
def yX3_locksOf : MethodName := ⟨RX3, "locksOf", "(I)I"⟩
abbrev cX3_lockedPipes : ByteArray := prog_5_method_6_code
def yX3_lockedPipes : MethodName := ⟨RX3, "lockedPipes", "()I"⟩
abbrev cX3_locksOn : ByteArray := prog_5_method_7_code
def yX3_locksOn : MethodName := ⟨RX3, "locksOn", "(I)I"⟩
abbrev cX3_allLocks : ByteArray := prog_5_method_8_code
def yX3_allLocks : MethodName := ⟨RX3, "allLocks", "()I"⟩
abbrev cX3_noteTest : ByteArray := prog_5_method_9_code
def yX3_noteTest : MethodName := ⟨RX3, "noteTest", "(III)V"⟩
abbrev cX3_hasGoodTest : ByteArray := prog_5_method_10_code
def yX3_hasGoodTest : MethodName := ⟨RX3, "hasGoodTest", "(III)Z"⟩
abbrev cX3_endLive : ByteArray := prog_5_method_11_code
def yX3_endLive : MethodName := ⟨RX3, "endLive", "(II)V"⟩
abbrev cX3_endAllLive : ByteArray := prog_5_method_12_code
def yX3_endAllLive : MethodName := ⟨RX3, "endAllLive", "(I)V"⟩
abbrev cX3_holdsLive : ByteArray := prog_5_method_13_code
def yX3_holdsLive : MethodName := ⟨RX3, "holdsLive", "(I)Z"⟩
def RX4 : String := "PermitRoom$Plan"
def TX4 : u_T := fun k => match k with
  | 0 => ("PermitRoom$Plan", "inOrder", "[I", true)
  | 1 => ("PermitRoom$Plan", "proof", "[I", true)
  | 2 => ("PermitRoom$Plan", "rows", "[I", true)
  | 3 => ("PermitRoom$Plan", "size", "I", false)
  | 4 => ("PermitRoom$Plan", "proofCount", "I", false)
  | 5 => ("PermitRoom$Plan", "rowCount", "I", false)
  | 6 => ("PermitRoom$Plan", "isTold", "Z", false)
  | 7 => ("PermitRoom$Plan", "permitOfWork", "[I", true)
  | 8 => ("PermitRoom$Plan", "needOfWork", "[I", true)
  | _ => ("PermitRoom$Plan", "movesLeft", "[I", true)
def tyX4 : Nat → FieldType := fun k => match k with
  | 0 => .array .int
  | 1 => .array .int
  | 2 => .array .int
  | 3 => .int
  | 4 => .int
  | 5 => .int
  | 6 => .boolean
  | 7 => .array .int
  | 8 => .array .int
  | _ => .array .int
abbrev wsX40 : List Cond := u_ws RX4 TX4 10
theorem nmX4 : ∀ a, a < 10 → ∀ b, b < 10 → a ≠ b → (TX4 a).2.1 ≠ (TX4 b).2.1 := by decide +kernel
theorem tyX4_ok : ∀ k, k < 10 → parseFieldDescriptor (TX4 k).2.2.1 = some (tyX4 k) := by decide +kernel
abbrev cX4_init : ByteArray := prog_6_method_1_code
def yX4_init : MethodName := ⟨RX4, "<init>", "()V"⟩
abbrev cX4_tell : ByteArray := prog_6_method_2_code
def yX4_tell : MethodName := ⟨RX4, "tell", "(LPermitRoom$Papers;I)I"⟩
abbrev cX4_gatherWorks : ByteArray := prog_6_method_3_code
def yX4_gatherWorks : MethodName := ⟨RX4, "gatherWorks", "(LPermitRoom$Papers;I)V"⟩
abbrev cX4_fewestLeft : ByteArray := prog_6_method_4_code
def yX4_fewestLeft : MethodName := ⟨RX4, "fewestLeft", "(II)I"⟩
abbrev cX4_movesThrough : ByteArray := prog_6_method_5_code
def yX4_movesThrough : MethodName := ⟨RX4, "movesThrough", "(III)I"⟩
abbrev cX4_layOrder : ByteArray := prog_6_method_6_code
def yX4_layOrder : MethodName := ⟨RX4, "layOrder", "()I"⟩
abbrev cX4_bestWork : ByteArray := prog_6_method_7_code
def yX4_bestWork : MethodName := ⟨RX4, "bestWork", "(IIII)I"⟩
abbrev cX4_addRow : ByteArray := prog_6_method_8_code
def yX4_addRow : MethodName := ⟨RX4, "addRow", "(III)V"⟩
abbrev cX4_firstWrongRow : ByteArray := prog_6_method_9_code
def yX4_firstWrongRow : MethodName := ⟨RX4, "firstWrongRow", "()I"⟩
def RX5 : String := "PermitRoom$Plant"
def TX5 : u_T := fun k => match k with
  | 0 => ("PermitRoom$Plant", "net", "LPermitRoom$Net;", true)
  | 1 => ("PermitRoom$Plant", "book", "LPermitRoom$RuleBook;", true)
  | 2 => ("PermitRoom$Plant", "papers", "LPermitRoom$Papers;", true)
  | _ => ("PermitRoom$Plant", "crew", "LPermitRoom$Crew;", true)
def tyX5 : Nat → FieldType := fun k => match k with
  | 0 => .object "PermitRoom$Net"
  | 1 => .object "PermitRoom$RuleBook"
  | 2 => .object "PermitRoom$Papers"
  | _ => .object "PermitRoom$Crew"
abbrev wsX50 : List Cond := u_ws RX5 TX5 4
theorem nmX5 : ∀ a, a < 4 → ∀ b, b < 4 → a ≠ b → (TX5 a).2.1 ≠ (TX5 b).2.1 := by decide +kernel
theorem tyX5_ok : ∀ k, k < 4 → parseFieldDescriptor (TX5 k).2.2.1 = some (tyX5 k) := by decide +kernel
abbrev cX5_init : ByteArray := prog_7_method_1_code
def yX5_init : MethodName := ⟨RX5, "<init>", "()V"⟩
abbrev cX5_closedNow : ByteArray := prog_7_method_2_code
def yX5_closedNow : MethodName := ⟨RX5, "closedNow", "()I"⟩
abbrev cX5_firstBar : ByteArray := prog_7_method_3_code
def yX5_firstBar : MethodName := ⟨RX5, "firstBar", "(III)I"⟩
abbrev cX5_barOfStart : ByteArray := prog_7_method_4_code
def yX5_barOfStart : MethodName := ⟨RX5, "barOfStart", "(II)I"⟩
abbrev cX5_barOfBack : ByteArray := prog_7_method_5_code
def yX5_barOfBack : MethodName := ⟨RX5, "barOfBack", "(II)I"⟩
abbrev cX5_barOfEnter : ByteArray := prog_7_method_6_code
def yX5_barOfEnter : MethodName := ⟨RX5, "barOfEnter", "(II)I"⟩
abbrev cX5_lacksTest : ByteArray := prog_7_method_7_code
def yX5_lacksTest : MethodName := ⟨RX5, "lacksTest", "(II)Z"⟩
abbrev cX5_quarrelOf : ByteArray := prog_7_method_8_code
def yX5_quarrelOf : MethodName := ⟨RX5, "quarrelOf", "(II)I"⟩
abbrev cX5_isOffHours : ByteArray := prog_7_method_9_code
def yX5_isOffHours : MethodName := ⟨RX5, "isOffHours", "(II)Z"⟩
abbrev cX5_isWithin : ByteArray := prog_7_method_10_code
def yX5_isWithin : MethodName := ⟨RX5, "isWithin", "(III)Z"⟩
abbrev cX5_isCrowded : ByteArray := prog_7_method_11_code
def yX5_isCrowded : MethodName := ⟨RX5, "isCrowded", "(II)Z"⟩
abbrev cX5_isWatched : ByteArray := prog_7_method_12_code
def yX5_isWatched : MethodName := ⟨RX5, "isWatched", "(II)Z"⟩
def RX6 : String := "PermitRoom$RuleBook"
def TX6 : u_T := fun k => match k with
  | 0 => ("PermitRoom$RuleBook", "kind", "[I", true)
  | 1 => ("PermitRoom$RuleBook", "subject", "[I", true)
  | 2 => ("PermitRoom$RuleBook", "second", "[I", true)
  | 3 => ("PermitRoom$RuleBook", "last", "[I", true)
  | 4 => ("PermitRoom$RuleBook", "toldAt", "[I", true)
  | 5 => ("PermitRoom$RuleBook", "struckAt", "[I", true)
  | _ => ("PermitRoom$RuleBook", "count", "I", false)
def tyX6 : Nat → FieldType := fun k => match k with
  | 0 => .array .int
  | 1 => .array .int
  | 2 => .array .int
  | 3 => .array .int
  | 4 => .array .int
  | 5 => .array .int
  | _ => .int
abbrev wsX60 : List Cond := u_ws RX6 TX6 7
theorem nmX6 : ∀ a, a < 7 → ∀ b, b < 7 → a ≠ b → (TX6 a).2.1 ≠ (TX6 b).2.1 := by decide +kernel
theorem tyX6_ok : ∀ k, k < 7 → parseFieldDescriptor (TX6 k).2.2.1 = some (tyX6 k) := by decide +kernel
abbrev cX6_init : ByteArray := prog_8_method_1_code
def yX6_init : MethodName := ⟨RX6, "<init>", "()V"⟩
abbrev cX6_write : ByteArray := prog_8_method_2_code
def yX6_write : MethodName := ⟨RX6, "write", "(LPermitRoom$Tape;I)I"⟩
abbrev cX6_has : ByteArray := prog_8_method_3_code
def yX6_has : MethodName := ⟨RX6, "has", "(I)Z"⟩
abbrev cX6_inForce : ByteArray := prog_8_method_4_code
def yX6_inForce : MethodName := ⟨RX6, "inForce", "(II)Z"⟩
abbrev cX6_speaksOf : ByteArray := prog_8_method_5_code
def yX6_speaksOf : MethodName := ⟨RX6, "speaksOf", "(IIII)Z"⟩
abbrev cX6_doubledAt : ByteArray := prog_8_method_6_code
def yX6_doubledAt : MethodName := ⟨RX6, "doubledAt", "(I)I"⟩
abbrev cX6_barsBoth : ByteArray := prog_8_method_7_code
def yX6_barsBoth : MethodName := ⟨RX6, "barsBoth", "(IIII)Z"⟩
def RX7 : String := "PermitRoom$Tape"
def TX7 : u_T := fun k => match k with
  | 0 => ("PermitRoom$Tape", "bytes", "[I", true)
  | 1 => ("PermitRoom$Tape", "length", "I", false)
  | 2 => ("PermitRoom$Tape", "kind", "I", false)
  | 3 => ("PermitRoom$Tape", "subject", "I", false)
  | 4 => ("PermitRoom$Tape", "second", "I", false)
  | 5 => ("PermitRoom$Tape", "last", "I", false)
  | 6 => ("PermitRoom$Tape", "from", "I", false)
  | 7 => ("PermitRoom$Tape", "end", "I", false)
  | _ => ("PermitRoom$Tape", "fault", "I", false)
def tyX7 : Nat → FieldType := fun k => match k with
  | 0 => .array .int
  | 1 => .int
  | 2 => .int
  | 3 => .int
  | 4 => .int
  | 5 => .int
  | 6 => .int
  | 7 => .int
  | _ => .int
abbrev wsX70 : List Cond := u_ws RX7 TX7 9
theorem nmX7 : ∀ a, a < 9 → ∀ b, b < 9 → a ≠ b → (TX7 a).2.1 ≠ (TX7 b).2.1 := by decide +kernel
theorem tyX7_ok : ∀ k, k < 9 → parseFieldDescriptor (TX7 k).2.2.1 = some (tyX7 k) := by decide +kernel
abbrev cX7_init : ByteArray := prog_9_method_1_code
def yX7_init : MethodName := ⟨RX7, "<init>", "()V"⟩
abbrev cX7_takeBytes : ByteArray := prog_9_method_2_code
def yX7_takeBytes : MethodName := ⟨RX7, "takeBytes", "(JI)V"⟩
abbrev cX7_wipe : ByteArray := prog_9_method_3_code
def yX7_wipe : MethodName := ⟨RX7, "wipe", "()V"⟩
abbrev cX7_readRule : ByteArray := prog_9_method_4_code
def yX7_readRule : MethodName := ⟨RX7, "readRule", "()I"⟩
abbrev cX7_readRest : ByteArray := prog_9_method_5_code
def yX7_readRest : MethodName := ⟨RX7, "readRest", "()V"⟩
abbrev cX7_blame : ByteArray := prog_9_method_6_code
def yX7_blame : MethodName := ⟨RX7, "blame", "()V"⟩
abbrev cX7_readEnd : ByteArray := prog_9_method_7_code
def yX7_readEnd : MethodName := ⟨RX7, "readEnd", "()V"⟩
abbrev cX7_readOneOf : ByteArray := prog_9_method_8_code
def yX7_readOneOf : MethodName := ⟨RX7, "readOneOf", "(Ljava/lang/String;)I"⟩
abbrev cX7_readNumber : ByteArray := prog_9_method_9_code
def yX7_readNumber : MethodName := ⟨RX7, "readNumber", "(II)I"⟩
abbrev cX7_findPiece : ByteArray := prog_9_method_10_code
def yX7_findPiece : MethodName := ⟨RX7, "findPiece", "()V"⟩
abbrev cX7_isLetter : ByteArray := prog_9_method_11_code
def yX7_isLetter : MethodName := ⟨RX7, "isLetter", "(I)Z"⟩
abbrev cX7_isDigit : ByteArray := prog_9_method_12_code
def yX7_isDigit : MethodName := ⟨RX7, "isDigit", "(I)Z"⟩
abbrev cX7_isParted : ByteArray := prog_9_method_13_code
def yX7_isParted : MethodName := ⟨RX7, "isParted", "()Z"⟩
abbrev cX7_numberOfPiece : ByteArray := prog_9_method_14_code
def yX7_numberOfPiece : MethodName := ⟨RX7, "numberOfPiece", "()I"⟩
abbrev cX7_placeAmong : ByteArray := prog_9_method_15_code
def yX7_placeAmong : MethodName := ⟨RX7, "placeAmong", "(Ljava/lang/String;)I"⟩
def RX8 : String := "PermitRoom"
def TX8 : u_T := fun k => match k with
  | 0 => ("PermitRoom", "plant", "LPermitRoom$Plant;", true)
  | 1 => ("PermitRoom", "net", "LPermitRoom$Net;", true)
  | 2 => ("PermitRoom", "book", "LPermitRoom$RuleBook;", true)
  | 3 => ("PermitRoom", "papers", "LPermitRoom$Papers;", true)
  | 4 => ("PermitRoom", "crew", "LPermitRoom$Crew;", true)
  | 5 => ("PermitRoom", "tape", "LPermitRoom$Tape;", true)
  | 6 => ("PermitRoom", "history", "LPermitRoom$History;", true)
  | 7 => ("PermitRoom", "plan", "LPermitRoom$Plan;", true)
  | _ => ("PermitRoom", "now", "I", false)
def tyX8 : Nat → FieldType := fun k => match k with
  | 0 => .object "PermitRoom$Plant"
  | 1 => .object "PermitRoom$Net"
  | 2 => .object "PermitRoom$RuleBook"
  | 3 => .object "PermitRoom$Papers"
  | 4 => .object "PermitRoom$Crew"
  | 5 => .object "PermitRoom$Tape"
  | 6 => .object "PermitRoom$History"
  | 7 => .object "PermitRoom$Plan"
  | _ => .int
abbrev wsX80 : List Cond := u_ws RX8 TX8 9
theorem nmX8 : ∀ a, a < 9 → ∀ b, b < 9 → a ≠ b → (TX8 a).2.1 ≠ (TX8 b).2.1 := by decide +kernel
theorem tyX8_ok : ∀ k, k < 9 → parseFieldDescriptor (TX8 k).2.2.1 = some (tyX8 k) := by decide +kernel
abbrev cX8_init : ByteArray := prog_1_method_1_code
def yX8_init : MethodName := ⟨RX8, "<init>", "()V"⟩
abbrev cX8_pipe : ByteArray := prog_1_method_2_code
def yX8_pipe : MethodName := ⟨RX8, "pipe", "(III)I"⟩
abbrev cX8_of : ByteArray := prog_1_method_3_code
def yX8_of : MethodName := ⟨RX8, "of", "(II)I"⟩
abbrev cX8_source : ByteArray := prog_1_method_4_code
def yX8_source : MethodName := ⟨RX8, "source", "(IIZ)I"⟩
abbrev cX8_turn : ByteArray := prog_1_method_5_code
def yX8_turn : MethodName := ⟨RX8, "turn", "(IZ)I"⟩
abbrev cX8_safe : ByteArray := prog_1_method_6_code
def yX8_safe : MethodName := ⟨RX8, "safe", "(I)I"⟩
abbrev cX8_barriers : ByteArray := prog_1_method_7_code
def yX8_barriers : MethodName := ⟨RX8, "barriers", "(II)I"⟩
abbrev cX8_apart : ByteArray := prog_1_method_8_code
def yX8_apart : MethodName := ⟨RX8, "apart", "(II)I"⟩
abbrev cX8_go : ByteArray := prog_1_method_9_code
def yX8_go : MethodName := ⟨RX8, "go", "(I)I"⟩
abbrev cX8_feed : ByteArray := prog_1_method_10_code
def yX8_feed : MethodName := ⟨RX8, "feed", "(JI)I"⟩
abbrev cX8_rule : ByteArray := prog_1_method_11_code
def yX8_rule : MethodName := ⟨RX8, "rule", "()I"⟩
abbrev cX8_strike : ByteArray := prog_1_method_12_code
def yX8_strike : MethodName := ⟨RX8, "strike", "(I)I"⟩
abbrev cX8_ruleOf : ByteArray := prog_1_method_13_code
def yX8_ruleOf : MethodName := ⟨RX8, "ruleOf", "(II)I"⟩
abbrev cX8_ask : ByteArray := prog_1_method_14_code
def yX8_ask : MethodName := ⟨RX8, "ask", "(III)I"⟩
abbrev cX8_hold : ByteArray := prog_1_method_15_code
def yX8_hold : MethodName := ⟨RX8, "hold", "(II)I"⟩
abbrev cX8_isolate : ByteArray := prog_1_method_16_code
def yX8_isolate : MethodName := ⟨RX8, "isolate", "(I)I"⟩
abbrev cX8_test : ByteArray := prog_1_method_17_code
def yX8_test : MethodName := ⟨RX8, "test", "(II)I"⟩
abbrev cX8_start : ByteArray := prog_1_method_18_code
def yX8_start : MethodName := ⟨RX8, "start", "(I)I"⟩
abbrev cX8_hang : ByteArray := prog_1_method_19_code
def yX8_hang : MethodName := ⟨RX8, "hang", "(I)I"⟩
abbrev cX8_back : ByteArray := prog_1_method_20_code
def yX8_back : MethodName := ⟨RX8, "back", "(I)I"⟩
abbrev cX8_may : ByteArray := prog_1_method_21_code
def yX8_may : MethodName := ⟨RX8, "may", "(II)I"⟩
abbrev cX8_quarrels : ByteArray := prog_1_method_22_code
def yX8_quarrels : MethodName := ⟨RX8, "quarrels", "(I)I"⟩
abbrev cX8_permitOf : ByteArray := prog_1_method_23_code
def yX8_permitOf : MethodName := ⟨RX8, "permitOf", "(II)I"⟩
abbrev cX8_enter : ByteArray := prog_1_method_24_code
def yX8_enter : MethodName := ⟨RX8, "enter", "(II)I"⟩
abbrev cX8_leave : ByteArray := prog_1_method_25_code
def yX8_leave : MethodName := ⟨RX8, "leave", "(I)I"⟩
abbrev cX8_shift : ByteArray := prog_1_method_26_code
def yX8_shift : MethodName := ⟨RX8, "shift", "(IZ)I"⟩
abbrev cX8_siren : ByteArray := prog_1_method_27_code
def yX8_siren : MethodName := ⟨RX8, "siren", "()I"⟩
abbrev cX8_least : ByteArray := prog_1_method_28_code
def yX8_least : MethodName := ⟨RX8, "least", "(I)I"⟩
abbrev cX8_leastSet : ByteArray := prog_1_method_29_code
def yX8_leastSet : MethodName := ⟨RX8, "leastSet", "(I)I"⟩
abbrev cX8_risk : ByteArray := prog_1_method_30_code
def yX8_risk : MethodName := ⟨RX8, "risk", "(I)I"⟩
abbrev cX8_right : ByteArray := prog_1_method_31_code
def yX8_right : MethodName := ⟨RX8, "right", "(III)I"⟩
abbrev cX8_order : ByteArray := prog_1_method_32_code
def yX8_order : MethodName := ⟨RX8, "order", "()I"⟩
abbrev cX8_ordered : ByteArray := prog_1_method_33_code
def yX8_ordered : MethodName := ⟨RX8, "ordered", "(I)I"⟩
abbrev cX8_row : ByteArray := prog_1_method_34_code
def yX8_row : MethodName := ⟨RX8, "row", "(II)I"⟩
abbrev cX8_alter : ByteArray := prog_1_method_35_code
def yX8_alter : MethodName := ⟨RX8, "alter", "(III)I"⟩
abbrev cX8_drop : ByteArray := prog_1_method_36_code
def yX8_drop : MethodName := ⟨RX8, "drop", "()I"⟩
abbrev cX8_check : ByteArray := prog_1_method_37_code
def yX8_check : MethodName := ⟨RX8, "check", "()I"⟩
abbrev cX8_many : ByteArray := prog_1_method_38_code
def yX8_many : MethodName := ⟨RX8, "many", "(I)I"⟩
abbrev cX8_isPlace : ByteArray := prog_1_method_39_code
def yX8_isPlace : MethodName := ⟨RX8, "isPlace", "(I)Z"⟩
abbrev cX8_isMan : ByteArray := prog_1_method_40_code
def yX8_isMan : MethodName := ⟨RX8, "isMan", "(I)Z"⟩
abbrev cX8_isPast : ByteArray := prog_1_method_41_code
def yX8_isPast : MethodName := ⟨RX8, "isPast", "(I)Z"⟩
abbrev cX8_refusalOf : ByteArray := prog_1_method_42_code
def yX8_refusalOf : MethodName := ⟨RX8, "refusalOf", "(II)I"⟩
def RX9 : String := "PermitRoomModel"
def TX9 : u_T := fun k => match k with
  | 0 => ("PermitRoomModel", "now", "I", false)
  | 1 => ("PermitRoomModel", "pipes", "I", false)
  | 2 => ("PermitRoomModel", "endA", "[I", true)
  | 3 => ("PermitRoomModel", "endB", "[I", true)
  | 4 => ("PermitRoomModel", "fitting", "[I", true)
  | 5 => ("PermitRoomModel", "toldAt", "[I", true)
  | 6 => ("PermitRoomModel", "byHand", "[Z", true)
  | 7 => ("PermitRoomModel", "isSource", "[Z", true)
  | 8 => ("PermitRoomModel", "rules", "I", false)
  | 9 => ("PermitRoomModel", "ruleKind", "[I", true)
  | 10 => ("PermitRoomModel", "ruleSort", "[I", true)
  | 11 => ("PermitRoomModel", "ruleOne", "[I", true)
  | 12 => ("PermitRoomModel", "ruleTwo", "[I", true)
  | 13 => ("PermitRoomModel", "ruleFrom", "[I", true)
  | 14 => ("PermitRoomModel", "ruleTo", "[I", true)
  | 15 => ("PermitRoomModel", "isOff", "[Z", true)
  | 16 => ("PermitRoomModel", "inside", "[I", true)
  | 17 => ("PermitRoomModel", "permits", "I", false)
  | 18 => ("PermitRoomModel", "placeOf", "[I", true)
  | 19 => ("PermitRoomModel", "sortOf", "[I", true)
  | 20 => ("PermitRoomModel", "setOf", "[I", true)
  | 21 => ("PermitRoomModel", "stateOf", "[I", true)
  | 22 => ("PermitRoomModel", "holderOf", "[I", true)
  | 23 => ("PermitRoomModel", "testOf", "[I", true)
  | 24 => ("PermitRoomModel", "testAt", "[I", true)
  | 25 => ("PermitRoomModel", "ended", "[I", true)
  | 26 => ("PermitRoomModel", "closedThen", "[I", true)
  | 27 => ("PermitRoomModel", "liveThen", "[I", true)
  | 28 => ("PermitRoomModel", "tape", "[I", true)
  | 29 => ("PermitRoomModel", "taped", "I", false)
  | 30 => ("PermitRoomModel", "far", "[I", true)
  | 31 => ("PermitRoomModel", "from", "I", false)
  | 32 => ("PermitRoomModel", "end", "I", false)
  | 33 => ("PermitRoomModel", "fault", "I", false)
  | 34 => ("PermitRoomModel", "readKind", "I", false)
  | 35 => ("PermitRoomModel", "readSort", "I", false)
  | 36 => ("PermitRoomModel", "readOne", "I", false)
  | 37 => ("PermitRoomModel", "readTwo", "I", false)
  | 38 => ("PermitRoomModel", "rest", "[I", true)
  | 39 => ("PermitRoomModel", "orderMany", "I", false)
  | 40 => ("PermitRoomModel", "isTold", "Z", false)
  | 41 => ("PermitRoomModel", "ordered", "[I", true)
  | 42 => ("PermitRoomModel", "proved", "I", false)
  | 43 => ("PermitRoomModel", "proof", "[I", true)
  | 44 => ("PermitRoomModel", "rowMany", "I", false)
  | 45 => ("PermitRoomModel", "rows", "[I", true)
  | _ => ("PermitRoomModel", "shut", "I", false)
def tyX9 : Nat → FieldType := fun k => match k with
  | 0 => .int
  | 1 => .int
  | 2 => .array .int
  | 3 => .array .int
  | 4 => .array .int
  | 5 => .array .int
  | 6 => .array .boolean
  | 7 => .array .boolean
  | 8 => .int
  | 9 => .array .int
  | 10 => .array .int
  | 11 => .array .int
  | 12 => .array .int
  | 13 => .array .int
  | 14 => .array .int
  | 15 => .array .boolean
  | 16 => .array .int
  | 17 => .int
  | 18 => .array .int
  | 19 => .array .int
  | 20 => .array .int
  | 21 => .array .int
  | 22 => .array .int
  | 23 => .array .int
  | 24 => .array .int
  | 25 => .array .int
  | 26 => .array .int
  | 27 => .array .int
  | 28 => .array .int
  | 29 => .int
  | 30 => .array .int
  | 31 => .int
  | 32 => .int
  | 33 => .int
  | 34 => .int
  | 35 => .int
  | 36 => .int
  | 37 => .int
  | 38 => .array .int
  | 39 => .int
  | 40 => .boolean
  | 41 => .array .int
  | 42 => .int
  | 43 => .array .int
  | 44 => .int
  | 45 => .array .int
  | _ => .int
abbrev wsX90 : List Cond := u_ws RX9 TX9 47
theorem nmX9 : ∀ a, a < 47 → ∀ b, b < 47 → a ≠ b → (TX9 a).2.1 ≠ (TX9 b).2.1 := by decide +kernel
theorem tyX9_ok : ∀ k, k < 47 → parseFieldDescriptor (TX9 k).2.2.1 = some (tyX9 k) := by decide +kernel
abbrev cX9_init : ByteArray := prog_11_method_1_code
def yX9_init : MethodName := ⟨RX9, "<init>", "()V"⟩
abbrev cX9_in : ByteArray := prog_11_method_2_code
def yX9_in : MethodName := ⟨RX9, "in", "(III)Z"⟩
abbrev cX9_has : ByteArray := prog_11_method_3_code
def yX9_has : MethodName := ⟨RX9, "has", "(II)Z"⟩
abbrev cX9_ones : ByteArray := prog_11_method_4_code
def yX9_ones : MethodName := ⟨RX9, "ones", "(I)I"⟩
abbrev cX9_isPipe : ByteArray := prog_11_method_5_code
def yX9_isPipe : MethodName := ⟨RX9, "isPipe", "(I)Z"⟩
abbrev cX9_isPlace : ByteArray := prog_11_method_6_code
def yX9_isPlace : MethodName := ⟨RX9, "isPlace", "(I)Z"⟩
abbrev cX9_isFitting : ByteArray := prog_11_method_7_code
def yX9_isFitting : MethodName := ⟨RX9, "isFitting", "(I)Z"⟩
abbrev cX9_isPermit : ByteArray := prog_11_method_8_code
def yX9_isPermit : MethodName := ⟨RX9, "isPermit", "(I)Z"⟩
abbrev cX9_isMan : ByteArray := prog_11_method_9_code
def yX9_isMan : MethodName := ⟨RX9, "isMan", "(I)Z"⟩
abbrev cX9_pipe : ByteArray := prog_11_method_10_code
def yX9_pipe : MethodName := ⟨RX9, "pipe", "(III)I"⟩
abbrev cX9_hasLocks : ByteArray := prog_11_method_11_code
def yX9_hasLocks : MethodName := ⟨RX9, "hasLocks", "(I)Z"⟩
abbrev cX9_locks : ByteArray := prog_11_method_12_code
def yX9_locks : MethodName := ⟨RX9, "locks", "(I)I"⟩
abbrev cX9_closedNow : ByteArray := prog_11_method_13_code
def yX9_closedNow : MethodName := ⟨RX9, "closedNow", "()I"⟩
abbrev cX9_of : ByteArray := prog_11_method_14_code
def yX9_of : MethodName := ⟨RX9, "of", "(II)I"⟩
abbrev cX9_source : ByteArray := prog_11_method_15_code
def yX9_source : MethodName := ⟨RX9, "source", "(IIZ)I"⟩
abbrev cX9_turn : ByteArray := prog_11_method_16_code
def yX9_turn : MethodName := ⟨RX9, "turn", "(IZ)I"⟩
abbrev cX9_reach : ByteArray := prog_11_method_17_code
def yX9_reach : MethodName := ⟨RX9, "reach", "(IIIZ)V"⟩
abbrev cX9_isInForce : ByteArray := prog_11_method_18_code
def yX9_isInForce : MethodName := ⟨RX9, "isInForce", "(II)Z"⟩
abbrev cX9_wanted : ByteArray := prog_11_method_19_code
def yX9_wanted : MethodName := ⟨RX9, "wanted", "(II)I"⟩
abbrev cX9_isSafe : ByteArray := prog_11_method_20_code
def yX9_isSafe : MethodName := ⟨RX9, "isSafe", "(IIII)Z"⟩
abbrev cX9_isSafeNow : ByteArray := prog_11_method_21_code
def yX9_isSafeNow : MethodName := ⟨RX9, "isSafeNow", "(II)Z"⟩
abbrev cX9_safe : ByteArray := prog_11_method_22_code
def yX9_safe : MethodName := ⟨RX9, "safe", "(I)I"⟩
abbrev cX9_between : ByteArray := prog_11_method_23_code
def yX9_between : MethodName := ⟨RX9, "between", "(IIZ)I"⟩
abbrev cX9_barriers : ByteArray := prog_11_method_24_code
def yX9_barriers : MethodName := ⟨RX9, "barriers", "(II)I"⟩
abbrev cX9_apart : ByteArray := prog_11_method_25_code
def yX9_apart : MethodName := ⟨RX9, "apart", "(II)I"⟩
abbrev cX9_liveNow : ByteArray := prog_11_method_26_code
def yX9_liveNow : MethodName := ⟨RX9, "liveNow", "()I"⟩
abbrev cX9_go : ByteArray := prog_11_method_27_code
def yX9_go : MethodName := ⟨RX9, "go", "(I)I"⟩
abbrev cX9_feed : ByteArray := prog_11_method_28_code
def yX9_feed : MethodName := ⟨RX9, "feed", "(JI)I"⟩
abbrev cX9_isDigit : ByteArray := prog_11_method_29_code
def yX9_isDigit : MethodName := ⟨RX9, "isDigit", "(I)Z"⟩
abbrev cX9_isLetter : ByteArray := prog_11_method_30_code
def yX9_isLetter : MethodName := ⟨RX9, "isLetter", "(I)Z"⟩
abbrev cX9_next : ByteArray := prog_11_method_31_code
def yX9_next : MethodName := ⟨RX9, "next", "()V"⟩
abbrev cX9_isWord : ByteArray := prog_11_method_32_code
def yX9_isWord : MethodName := ⟨RX9, "isWord", "(JI)Z"⟩
abbrev cX9_bad : ByteArray := prog_11_method_33_code
def yX9_bad : MethodName := ⟨RX9, "bad", "()V"⟩
abbrev cX9_word : ByteArray := prog_11_method_34_code
def yX9_word : MethodName := ⟨RX9, "word", "(JI)V"⟩
abbrev cX9_sort : ByteArray := prog_11_method_35_code
def yX9_sort : MethodName := ⟨RX9, "sort", "()I"⟩
abbrev cX9_hazard : ByteArray := prog_11_method_36_code
def yX9_hazard : MethodName := ⟨RX9, "hazard", "()I"⟩
abbrev cX9_number : ByteArray := prog_11_method_37_code
def yX9_number : MethodName := ⟨RX9, "number", "(II)I"⟩
abbrev cX9_kind : ByteArray := prog_11_method_38_code
def yX9_kind : MethodName := ⟨RX9, "kind", "()I"⟩
abbrev cX9_readRule : ByteArray := prog_11_method_39_code
def yX9_readRule : MethodName := ⟨RX9, "readRule", "()V"⟩
abbrev cX9_rule : ByteArray := prog_11_method_40_code
def yX9_rule : MethodName := ⟨RX9, "rule", "()I"⟩
abbrev cX9_isRule : ByteArray := prog_11_method_41_code
def yX9_isRule : MethodName := ⟨RX9, "isRule", "(I)Z"⟩
abbrev cX9_strike : ByteArray := prog_11_method_42_code
def yX9_strike : MethodName := ⟨RX9, "strike", "(I)I"⟩
abbrev cX9_ruleOf : ByteArray := prog_11_method_43_code
def yX9_ruleOf : MethodName := ⟨RX9, "ruleOf", "(II)I"⟩
abbrev cX9_ask : ByteArray := prog_11_method_44_code
def yX9_ask : MethodName := ⟨RX9, "ask", "(III)I"⟩
abbrev cX9_hold : ByteArray := prog_11_method_45_code
def yX9_hold : MethodName := ⟨RX9, "hold", "(II)I"⟩
abbrev cX9_rules : ByteArray := prog_11_method_46_code
def yX9_rules : MethodName := ⟨RX9, "rules", "(III)Z"⟩
abbrev cX9_lacksTest : ByteArray := prog_11_method_47_code
def yX9_lacksTest : MethodName := ⟨RX9, "lacksTest", "(I)Z"⟩
abbrev cX9_within : ByteArray := prog_11_method_48_code
def yX9_within : MethodName := ⟨RX9, "within", "(II)I"⟩
abbrev cX9_quarrelOf : ByteArray := prog_11_method_49_code
def yX9_quarrelOf : MethodName := ⟨RX9, "quarrelOf", "(I)I"⟩
abbrev cX9_isOutOfHours : ByteArray := prog_11_method_50_code
def yX9_isOutOfHours : MethodName := ⟨RX9, "isOutOfHours", "(I)Z"⟩
abbrev cX9_insideOf : ByteArray := prog_11_method_51_code
def yX9_insideOf : MethodName := ⟨RX9, "insideOf", "(I)I"⟩
abbrev cX9_areTooMany : ByteArray := prog_11_method_52_code
def yX9_areTooMany : MethodName := ⟨RX9, "areTooMany", "(I)Z"⟩
abbrev cX9_isWatched : ByteArray := prog_11_method_53_code
def yX9_isWatched : MethodName := ⟨RX9, "isWatched", "(I)Z"⟩
abbrev cX9_mayBegin : ByteArray := prog_11_method_54_code
def yX9_mayBegin : MethodName := ⟨RX9, "mayBegin", "(I)Z"⟩
abbrev cX9_isOutOfState : ByteArray := prog_11_method_55_code
def yX9_isOutOfState : MethodName := ⟨RX9, "isOutOfState", "(II)Z"⟩
abbrev cX9_startBar : ByteArray := prog_11_method_56_code
def yX9_startBar : MethodName := ⟨RX9, "startBar", "(I)I"⟩
abbrev cX9_bar : ByteArray := prog_11_method_57_code
def yX9_bar : MethodName := ⟨RX9, "bar", "(II)I"⟩
abbrev cX9_isolate : ByteArray := prog_11_method_58_code
def yX9_isolate : MethodName := ⟨RX9, "isolate", "(I)I"⟩
abbrev cX9_test : ByteArray := prog_11_method_59_code
def yX9_test : MethodName := ⟨RX9, "test", "(II)I"⟩
abbrev cX9_start : ByteArray := prog_11_method_60_code
def yX9_start : MethodName := ⟨RX9, "start", "(I)I"⟩
abbrev cX9_hangUp : ByteArray := prog_11_method_61_code
def yX9_hangUp : MethodName := ⟨RX9, "hangUp", "(I)V"⟩
abbrev cX9_hang : ByteArray := prog_11_method_62_code
def yX9_hang : MethodName := ⟨RX9, "hang", "(I)I"⟩
abbrev cX9_back : ByteArray := prog_11_method_63_code
def yX9_back : MethodName := ⟨RX9, "back", "(I)I"⟩
abbrev cX9_may : ByteArray := prog_11_method_64_code
def yX9_may : MethodName := ⟨RX9, "may", "(II)I"⟩
abbrev cX9_quarrels : ByteArray := prog_11_method_65_code
def yX9_quarrels : MethodName := ⟨RX9, "quarrels", "(I)I"⟩
abbrev cX9_permitOf : ByteArray := prog_11_method_66_code
def yX9_permitOf : MethodName := ⟨RX9, "permitOf", "(II)I"⟩
abbrev cX9_enter : ByteArray := prog_11_method_67_code
def yX9_enter : MethodName := ⟨RX9, "enter", "(II)I"⟩
abbrev cX9_leave : ByteArray := prog_11_method_68_code
def yX9_leave : MethodName := ⟨RX9, "leave", "(I)I"⟩
abbrev cX9_holdsLive : ByteArray := prog_11_method_69_code
def yX9_holdsLive : MethodName := ⟨RX9, "holdsLive", "(I)Z"⟩
abbrev cX9_shift : ByteArray := prog_11_method_70_code
def yX9_shift : MethodName := ⟨RX9, "shift", "(IZ)I"⟩
abbrev cX9_siren : ByteArray := prog_11_method_71_code
def yX9_siren : MethodName := ⟨RX9, "siren", "()I"⟩
abbrev cX9_hoursOf : ByteArray := prog_11_method_72_code
def yX9_hoursOf : MethodName := ⟨RX9, "hoursOf", "(I)I"⟩
abbrev cX9_areFittings : ByteArray := prog_11_method_73_code
def yX9_areFittings : MethodName := ⟨RX9, "areFittings", "(I)Z"⟩
abbrev cX9_isAhead : ByteArray := prog_11_method_74_code
def yX9_isAhead : MethodName := ⟨RX9, "isAhead", "(II)Z"⟩
abbrev cX9_leastOf : ByteArray := prog_11_method_75_code
def yX9_leastOf : MethodName := ⟨RX9, "leastOf", "(I)I"⟩
abbrev cX9_least : ByteArray := prog_11_method_76_code
def yX9_least : MethodName := ⟨RX9, "least", "(I)I"⟩
abbrev cX9_leastSet : ByteArray := prog_11_method_77_code
def yX9_leastSet : MethodName := ⟨RX9, "leastSet", "(I)I"⟩
abbrev cX9_risk : ByteArray := prog_11_method_78_code
def yX9_risk : MethodName := ⟨RX9, "risk", "(I)I"⟩
abbrev cX9_right : ByteArray := prog_11_method_79_code
def yX9_right : MethodName := ⟨RX9, "right", "(III)I"⟩
abbrev cX9_asked : ByteArray := prog_11_method_80_code
def yX9_asked : MethodName := ⟨RX9, "asked", "()I"⟩
abbrev cX9_moves : ByteArray := prog_11_method_81_code
def yX9_moves : MethodName := ⟨RX9, "moves", "(II)I"⟩
abbrev cX9_findRest : ByteArray := prog_11_method_82_code
def yX9_findRest : MethodName := ⟨RX9, "findRest", "(I)V"⟩
abbrev cX9_order : ByteArray := prog_11_method_83_code
def yX9_order : MethodName := ⟨RX9, "order", "()I"⟩
abbrev cX9_ordered : ByteArray := prog_11_method_84_code
def yX9_ordered : MethodName := ⟨RX9, "ordered", "(I)I"⟩
abbrev cX9_row : ByteArray := prog_11_method_85_code
def yX9_row : MethodName := ⟨RX9, "row", "(II)I"⟩
abbrev cX9_alter : ByteArray := prog_11_method_86_code
def yX9_alter : MethodName := ⟨RX9, "alter", "(III)I"⟩
abbrev cX9_drop : ByteArray := prog_11_method_87_code
def yX9_drop : MethodName := ⟨RX9, "drop", "()I"⟩
abbrev cX9_check : ByteArray := prog_11_method_88_code
def yX9_check : MethodName := ⟨RX9, "check", "()I"⟩
abbrev cX9_permitsThat : ByteArray := prog_11_method_89_code
def yX9_permitsThat : MethodName := ⟨RX9, "permitsThat", "(I)I"⟩
abbrev cX9_men : ByteArray := prog_11_method_90_code
def yX9_men : MethodName := ⟨RX9, "men", "(Z)I"⟩
abbrev cX9_allLocks : ByteArray := prog_11_method_91_code
def yX9_allLocks : MethodName := ⟨RX9, "allLocks", "()I"⟩
abbrev cX9_many : ByteArray := prog_11_method_92_code
def yX9_many : MethodName := ⟨RX9, "many", "(I)I"⟩
def RJ6 : String := "java/lang/Integer"
def TJ6 : u_T := fun k => match k with
  | _ => ("", "", "", false)
def tyJ6 : Nat → FieldType := fun k => match k with
  | _ => .int
abbrev wsJ60 : List Cond := u_ws RJ6 TJ6 0
theorem nmJ6 : ∀ a, a < 0 → ∀ b, b < 0 → a ≠ b → (TJ6 a).2.1 ≠ (TJ6 b).2.1 := by decide +kernel
theorem tyJ6_ok : ∀ k, k < 0 → parseFieldDescriptor (TJ6 k).2.2.1 = some (tyJ6 k) := by decide +kernel
abbrev cJ6_bitCount_0f7a4 : ByteArray := prog_12_method_49_code
def yJ6_bitCount_0f7a4 : MethodName := ⟨RJ6, "bitCount", "(I)I"⟩
def RJ9 : String := "java/lang/Math"
def TJ9 : u_T := fun k => match k with
  | _ => ("", "", "", false)
def tyJ9 : Nat → FieldType := fun k => match k with
  | _ => .int
abbrev wsJ90 : List Cond := u_ws RJ9 TJ9 0
theorem nmJ9 : ∀ a, a < 0 → ∀ b, b < 0 → a ≠ b → (TJ9 a).2.1 ≠ (TJ9 b).2.1 := by decide +kernel
theorem tyJ9_ok : ∀ k, k < 0 → parseFieldDescriptor (TJ9 k).2.2.1 = some (tyJ9 k) := by decide +kernel
abbrev cJ9_min_7cf53 : ByteArray := prog_13_method_69_code
def yJ9_min_7cf53 : MethodName := ⟨RJ9, "min", "(II)I"⟩
def RJ0 : String := "java/lang/String"
def TJ0 : u_T := fun k => match k with
  | _ => ("", "", "", false)
def tyJ0 : Nat → FieldType := fun k => match k with
  | _ => .int
abbrev wsJ00 : List Cond := u_ws RJ0 TJ0 0
theorem nmJ0 : ∀ a, a < 0 → ∀ b, b < 0 → a ≠ b → (TJ0 a).2.1 ≠ (TJ0 b).2.1 := by decide +kernel
theorem tyJ0_ok : ∀ k, k < 0 → parseFieldDescriptor (TJ0 k).2.2.1 = some (tyJ0 k) := by decide +kernel
abbrev cJ0_length_8abf5 : ByteArray := prog_14_method_54_code
def yJ0_length_8abf5 : MethodName := ⟨RJ0, "length", "()I"⟩
abbrev cJ0_charAt_5068e : ByteArray := prog_14_method_56_code
def yJ0_charAt_5068e : MethodName := ⟨RJ0, "charAt", "(I)C"⟩
abbrev cJ0_coder_7d493 : ByteArray := prog_14_method_152_code
def yJ0_coder_7d493 : MethodName := ⟨RJ0, "coder", "()B"⟩
abbrev cJ0_isLatin1_aae02 : ByteArray := prog_14_method_154_code
def yJ0_isLatin1_aae02 : MethodName := ⟨RJ0, "isLatin1", "()Z"⟩
abbrev cJ0_checkIndex_df160 : ByteArray := prog_14_method_155_code
def yJ0_checkIndex_df160 : MethodName := ⟨RJ0, "checkIndex", "(II)V"⟩
def RJ1 : String := "java/lang/StringLatin1"
def TJ1 : u_T := fun k => match k with
  | _ => ("", "", "", false)
def tyJ1 : Nat → FieldType := fun k => match k with
  | _ => .int
abbrev wsJ10 : List Cond := u_ws RJ1 TJ1 0
theorem nmJ1 : ∀ a, a < 0 → ∀ b, b < 0 → a ≠ b → (TJ1 a).2.1 ≠ (TJ1 b).2.1 := by decide +kernel
theorem tyJ1_ok : ∀ k, k < 0 → parseFieldDescriptor (TJ1 k).2.2.1 = some (tyJ1 k) := by decide +kernel
abbrev cJ1_charAt_3b067 : ByteArray := prog_15_method_2_code
def yJ1_charAt_3b067 : MethodName := ⟨RJ1, "charAt", "([BI)C"⟩
def RJ2 : String := "java/lang/StringUTF16"
def TJ2 : u_T := fun k => match k with
  | _ => ("", "", "", false)
def tyJ2 : Nat → FieldType := fun k => match k with
  | _ => .int
abbrev wsJ20 : List Cond := u_ws RJ2 TJ2 0
theorem nmJ2 : ∀ a, a < 0 → ∀ b, b < 0 → a ≠ b → (TJ2 a).2.1 ≠ (TJ2 b).2.1 := by decide +kernel
theorem tyJ2_ok : ∀ k, k < 0 → parseFieldDescriptor (TJ2 k).2.2.1 = some (tyJ2 k) := by decide +kernel
abbrev cJ2_getChar_3b067 : ByteArray := prog_16_method_5_code
def yJ2_getChar_3b067 : MethodName := ⟨RJ2, "getChar", "([BI)C"⟩
abbrev cJ2_length_9d52b : ByteArray := prog_16_method_6_code
def yJ2_length_9d52b : MethodName := ⟨RJ2, "length", "([B)I"⟩
abbrev cJ2_charAt_3b067 : ByteArray := prog_16_method_83_code
def yJ2_charAt_3b067 : MethodName := ⟨RJ2, "charAt", "([BI)C"⟩
abbrev cJ2_checkIndex_2214a : ByteArray := prog_16_method_91_code
def yJ2_checkIndex_2214a : MethodName := ⟨RJ2, "checkIndex", "(I[B)V"⟩
def RJ10 : String := "java/lang/System"
def TJ10 : u_T := fun k => match k with
  | _ => ("", "", "", false)
def tyJ10 : Nat → FieldType := fun k => match k with
  | _ => .int
abbrev wsJ100 : List Cond := u_ws RJ10 TJ10 0
theorem nmJ10 : ∀ a, a < 0 → ∀ b, b < 0 → a ≠ b → (TJ10 a).2.1 ≠ (TJ10 b).2.1 := by decide +kernel
theorem tyJ10_ok : ∀ k, k < 0 → parseFieldDescriptor (TJ10 k).2.2.1 = some (tyJ10 k) := by decide +kernel
def RJ3 : String := "jdk/internal/util/Preconditions"
def TJ3 : u_T := fun k => match k with
  | _ => ("", "", "", false)
def tyJ3 : Nat → FieldType := fun k => match k with
  | _ => .int
abbrev wsJ30 : List Cond := u_ws RJ3 TJ3 0
theorem nmJ3 : ∀ a, a < 0 → ∀ b, b < 0 → a ≠ b → (TJ3 a).2.1 ≠ (TJ3 b).2.1 := by decide +kernel
theorem tyJ3_ok : ∀ k, k < 0 → parseFieldDescriptor (TJ3 k).2.2.1 = some (tyJ3 k) := by decide +kernel
abbrev cJ3_checkIndex_8e157 : ByteArray := prog_18_method_11_code
def yJ3_checkIndex_8e157 : MethodName := ⟨RJ3, "checkIndex", "(IILjava/util/function/BiFunction;)I"⟩
def RL : String := "PermitRoomLaw"
abbrev cL_law : ByteArray := code
def yL_law : MethodName := ⟨RL, "law", "([I)Z"⟩
end
section
theorem dX0_init_0 : decode cX0_init 0 = .ok (.aload_n 0, 1) := by decide +kernel
theorem dX0_init_1 : decode cX0_init 1 = .ok (.invokespecial 3, 3) := by decide +kernel
theorem dX0_init_4 : decode cX0_init 4 = .ok (.aload_n 0, 1) := by decide +kernel
theorem dX0_init_5 : decode cX0_init 5 = .ok (.sipush 255, 3) := by decide +kernel
theorem dX0_init_8 : decode cX0_init 8 = .ok (.putfield 9, 3) := by decide +kernel
theorem dX0_init_11 : decode cX0_init 11 = .ok (.aload_n 0, 1) := by decide +kernel
theorem dX0_init_12 : decode cX0_init 12 = .ok (.bipush 8, 2) := by decide +kernel
theorem dX0_init_14 : decode cX0_init 14 = .ok (.newarray .int, 2) := by decide +kernel
theorem dX0_init_16 : decode cX0_init 16 = .ok (.putfield 15, 3) := by decide +kernel
theorem dX0_init_19 : decode cX0_init 19 = .ok (.iconst 0, 1) := by decide +kernel
theorem dX0_init_20 : decode cX0_init 20 = .ok (.istore_n 1, 1) := by decide +kernel
theorem dX0_init_21 : decode cX0_init 21 = .ok (.iload_n 1, 1) := by decide +kernel
theorem dX0_init_22 : decode cX0_init 22 = .ok (.bipush 8, 2) := by decide +kernel
theorem dX0_init_24 : decode cX0_init 24 = .ok (.if_icmp .ge 16, 3) := by decide +kernel
theorem dX0_init_27 : decode cX0_init 27 = .ok (.aload_n 0, 1) := by decide +kernel
theorem dX0_init_28 : decode cX0_init 28 = .ok (.getfield 15, 3) := by decide +kernel
theorem dX0_init_31 : decode cX0_init 31 = .ok (.iload_n 1, 1) := by decide +kernel
theorem dX0_init_32 : decode cX0_init 32 = .ok (.iconst (-1), 1) := by decide +kernel
theorem dX0_init_33 : decode cX0_init 33 = .ok (.iastore, 1) := by decide +kernel
theorem dX0_init_34 : decode cX0_init 34 = .ok (.iinc 1 1, 3) := by decide +kernel
theorem dX0_init_37 : decode cX0_init 37 = .ok (.goto (-16), 3) := by decide +kernel
theorem dX0_init_40 : decode cX0_init 40 = .ok (.return_, 1) := by decide +kernel
theorem dX0_isOn_0 : decode cX0_isOn 0 = .ok (.iload_n 1, 1) := by decide +kernel
theorem dX0_isOn_1 : decode cX0_isOn 1 = .ok (.invokestatic 19, 3) := by decide +kernel
theorem dX0_isOn_4 : decode cX0_isOn 4 = .ok (.ifCond .eq 18, 3) := by decide +kernel
theorem dX0_isOn_7 : decode cX0_isOn 7 = .ok (.aload_n 0, 1) := by decide +kernel
theorem dX0_isOn_8 : decode cX0_isOn 8 = .ok (.getfield 9, 3) := by decide +kernel
theorem dX0_isOn_11 : decode cX0_isOn 11 = .ok (.iload_n 1, 1) := by decide +kernel
theorem dX0_isOn_12 : decode cX0_isOn 12 = .ok (.ishr, 1) := by decide +kernel
theorem dX0_isOn_13 : decode cX0_isOn 13 = .ok (.iconst 1, 1) := by decide +kernel
theorem dX0_isOn_14 : decode cX0_isOn 14 = .ok (.iand, 1) := by decide +kernel
theorem dX0_isOn_15 : decode cX0_isOn 15 = .ok (.ifCond .eq 7, 3) := by decide +kernel
theorem dX0_isOn_18 : decode cX0_isOn 18 = .ok (.iconst 1, 1) := by decide +kernel
theorem dX0_isOn_19 : decode cX0_isOn 19 = .ok (.goto 4, 3) := by decide +kernel
theorem dX0_isOn_22 : decode cX0_isOn 22 = .ok (.iconst 0, 1) := by decide +kernel
theorem dX0_isOn_23 : decode cX0_isOn 23 = .ok (.ireturn, 1) := by decide +kernel
theorem dX0_tellShift_0 : decode cX0_tellShift 0 = .ok (.aload_n 0, 1) := by decide +kernel
theorem dX0_tellShift_1 : decode cX0_tellShift 1 = .ok (.iload_n 2, 1) := by decide +kernel
theorem dX0_tellShift_2 : decode cX0_tellShift 2 = .ok (.ifCond .eq 14, 3) := by decide +kernel
theorem dX0_tellShift_5 : decode cX0_tellShift 5 = .ok (.aload_n 0, 1) := by decide +kernel
theorem dX0_tellShift_6 : decode cX0_tellShift 6 = .ok (.getfield 9, 3) := by decide +kernel
theorem dX0_tellShift_9 : decode cX0_tellShift 9 = .ok (.iconst 1, 1) := by decide +kernel
theorem dX0_tellShift_10 : decode cX0_tellShift 10 = .ok (.iload_n 1, 1) := by decide +kernel
theorem dX0_tellShift_11 : decode cX0_tellShift 11 = .ok (.ishl, 1) := by decide +kernel
theorem dX0_tellShift_12 : decode cX0_tellShift 12 = .ok (.ior, 1) := by decide +kernel
theorem dX0_tellShift_13 : decode cX0_tellShift 13 = .ok (.goto 13, 3) := by decide +kernel
theorem dX0_tellShift_16 : decode cX0_tellShift 16 = .ok (.aload_n 0, 1) := by decide +kernel
theorem dX0_tellShift_17 : decode cX0_tellShift 17 = .ok (.getfield 9, 3) := by decide +kernel
theorem dX0_tellShift_20 : decode cX0_tellShift 20 = .ok (.iconst 1, 1) := by decide +kernel
theorem dX0_tellShift_21 : decode cX0_tellShift 21 = .ok (.iload_n 1, 1) := by decide +kernel
theorem dX0_tellShift_22 : decode cX0_tellShift 22 = .ok (.ishl, 1) := by decide +kernel
theorem dX0_tellShift_23 : decode cX0_tellShift 23 = .ok (.iconst (-1), 1) := by decide +kernel
theorem dX0_tellShift_24 : decode cX0_tellShift 24 = .ok (.ixor, 1) := by decide +kernel
theorem dX0_tellShift_25 : decode cX0_tellShift 25 = .ok (.iand, 1) := by decide +kernel
theorem dX0_tellShift_26 : decode cX0_tellShift 26 = .ok (.putfield 9, 3) := by decide +kernel
theorem dX0_tellShift_29 : decode cX0_tellShift 29 = .ok (.return_, 1) := by decide +kernel
theorem dX0_insideFor_0 : decode cX0_insideFor 0 = .ok (.iconst 0, 1) := by decide +kernel
theorem dX0_insideFor_1 : decode cX0_insideFor 1 = .ok (.istore_n 2, 1) := by decide +kernel
theorem dX0_insideFor_2 : decode cX0_insideFor 2 = .ok (.iconst 0, 1) := by decide +kernel
theorem dX0_insideFor_3 : decode cX0_insideFor 3 = .ok (.istore_n 3, 1) := by decide +kernel
theorem dX0_insideFor_4 : decode cX0_insideFor 4 = .ok (.iload_n 3, 1) := by decide +kernel
theorem dX0_insideFor_5 : decode cX0_insideFor 5 = .ok (.bipush 8, 2) := by decide +kernel
theorem dX0_insideFor_7 : decode cX0_insideFor 7 = .ok (.if_icmp .ge 27, 3) := by decide +kernel
theorem dX0_insideFor_10 : decode cX0_insideFor 10 = .ok (.iload_n 2, 1) := by decide +kernel
theorem dX0_insideFor_11 : decode cX0_insideFor 11 = .ok (.aload_n 0, 1) := by decide +kernel
theorem dX0_insideFor_12 : decode cX0_insideFor 12 = .ok (.getfield 15, 3) := by decide +kernel
theorem dX0_insideFor_15 : decode cX0_insideFor 15 = .ok (.iload_n 3, 1) := by decide +kernel
theorem dX0_insideFor_16 : decode cX0_insideFor 16 = .ok (.iaload, 1) := by decide +kernel
theorem dX0_insideFor_17 : decode cX0_insideFor 17 = .ok (.iload_n 1, 1) := by decide +kernel
theorem dX0_insideFor_18 : decode cX0_insideFor 18 = .ok (.if_icmp .ne 7, 3) := by decide +kernel
theorem dX0_insideFor_21 : decode cX0_insideFor 21 = .ok (.iconst 1, 1) := by decide +kernel
theorem dX0_insideFor_22 : decode cX0_insideFor 22 = .ok (.goto 4, 3) := by decide +kernel
theorem dX0_insideFor_25 : decode cX0_insideFor 25 = .ok (.iconst 0, 1) := by decide +kernel
theorem dX0_insideFor_26 : decode cX0_insideFor 26 = .ok (.iadd, 1) := by decide +kernel
theorem dX0_insideFor_27 : decode cX0_insideFor 27 = .ok (.istore_n 2, 1) := by decide +kernel
theorem dX0_insideFor_28 : decode cX0_insideFor 28 = .ok (.iinc 3 1, 3) := by decide +kernel
theorem dX0_insideFor_31 : decode cX0_insideFor 31 = .ok (.goto (-27), 3) := by decide +kernel
theorem dX0_insideFor_34 : decode cX0_insideFor 34 = .ok (.iload_n 2, 1) := by decide +kernel
theorem dX0_insideFor_35 : decode cX0_insideFor 35 = .ok (.ireturn, 1) := by decide +kernel
theorem dX0_allInside_0 : decode cX0_allInside 0 = .ok (.bipush 8, 2) := by decide +kernel
theorem dX0_allInside_2 : decode cX0_allInside 2 = .ok (.aload_n 0, 1) := by decide +kernel
theorem dX0_allInside_3 : decode cX0_allInside 3 = .ok (.iconst (-1), 1) := by decide +kernel
theorem dX0_allInside_4 : decode cX0_allInside 4 = .ok (.invokevirtual 23, 3) := by decide +kernel
theorem dX0_allInside_7 : decode cX0_allInside 7 = .ok (.isub, 1) := by decide +kernel
theorem dX0_allInside_8 : decode cX0_allInside 8 = .ok (.ireturn, 1) := by decide +kernel
theorem dX0_comeOut_0 : decode cX0_comeOut 0 = .ok (.aload_n 0, 1) := by decide +kernel
theorem dX0_comeOut_1 : decode cX0_comeOut 1 = .ok (.invokevirtual 27, 3) := by decide +kernel
theorem dX0_comeOut_4 : decode cX0_comeOut 4 = .ok (.istore_n 1, 1) := by decide +kernel
theorem dX0_comeOut_5 : decode cX0_comeOut 5 = .ok (.iconst 0, 1) := by decide +kernel
theorem dX0_comeOut_6 : decode cX0_comeOut 6 = .ok (.istore_n 2, 1) := by decide +kernel
theorem dX0_comeOut_7 : decode cX0_comeOut 7 = .ok (.iload_n 2, 1) := by decide +kernel
theorem dX0_comeOut_8 : decode cX0_comeOut 8 = .ok (.bipush 8, 2) := by decide +kernel
theorem dX0_comeOut_10 : decode cX0_comeOut 10 = .ok (.if_icmp .ge 16, 3) := by decide +kernel
theorem dX0_comeOut_13 : decode cX0_comeOut 13 = .ok (.aload_n 0, 1) := by decide +kernel
theorem dX0_comeOut_14 : decode cX0_comeOut 14 = .ok (.getfield 15, 3) := by decide +kernel
theorem dX0_comeOut_17 : decode cX0_comeOut 17 = .ok (.iload_n 2, 1) := by decide +kernel
theorem dX0_comeOut_18 : decode cX0_comeOut 18 = .ok (.iconst (-1), 1) := by decide +kernel
theorem dX0_comeOut_19 : decode cX0_comeOut 19 = .ok (.iastore, 1) := by decide +kernel
theorem dX0_comeOut_20 : decode cX0_comeOut 20 = .ok (.iinc 2 1, 3) := by decide +kernel
theorem dX0_comeOut_23 : decode cX0_comeOut 23 = .ok (.goto (-16), 3) := by decide +kernel
theorem dX0_comeOut_26 : decode cX0_comeOut 26 = .ok (.iload_n 1, 1) := by decide +kernel
theorem dX0_comeOut_27 : decode cX0_comeOut 27 = .ok (.ireturn, 1) := by decide +kernel
theorem dX1_init_0 : decode cX1_init 0 = .ok (.aload_n 0, 1) := by decide +kernel
theorem dX1_init_1 : decode cX1_init 1 = .ok (.invokespecial 3, 3) := by decide +kernel
theorem dX1_init_4 : decode cX1_init 4 = .ok (.aload_n 0, 1) := by decide +kernel
theorem dX1_init_5 : decode cX1_init 5 = .ok (.sipush 301, 3) := by decide +kernel
theorem dX1_init_8 : decode cX1_init 8 = .ok (.newarray .int, 2) := by decide +kernel
theorem dX1_init_10 : decode cX1_init 10 = .ok (.putfield 9, 3) := by decide +kernel
theorem dX1_init_13 : decode cX1_init 13 = .ok (.aload_n 0, 1) := by decide +kernel
theorem dX1_init_14 : decode cX1_init 14 = .ok (.sipush 301, 3) := by decide +kernel
theorem dX1_init_17 : decode cX1_init 17 = .ok (.newarray .int, 2) := by decide +kernel
theorem dX1_init_19 : decode cX1_init 19 = .ok (.putfield 15, 3) := by decide +kernel
theorem dX1_init_22 : decode cX1_init 22 = .ok (.return_, 1) := by decide +kernel
theorem dX1_keep_0 : decode cX1_keep 0 = .ok (.iload_n 1, 1) := by decide +kernel
theorem dX1_keep_1 : decode cX1_keep 1 = .ok (.istore 5, 2) := by decide +kernel
theorem dX1_keep_3 : decode cX1_keep 3 = .ok (.iload 5, 2) := by decide +kernel
theorem dX1_keep_5 : decode cX1_keep 5 = .ok (.iload_n 2, 1) := by decide +kernel
theorem dX1_keep_6 : decode cX1_keep 6 = .ok (.if_icmp .ge 26, 3) := by decide +kernel
theorem dX1_keep_9 : decode cX1_keep 9 = .ok (.aload_n 0, 1) := by decide +kernel
theorem dX1_keep_10 : decode cX1_keep 10 = .ok (.getfield 9, 3) := by decide +kernel
theorem dX1_keep_13 : decode cX1_keep 13 = .ok (.iload 5, 2) := by decide +kernel
theorem dX1_keep_15 : decode cX1_keep 15 = .ok (.iload_n 3, 1) := by decide +kernel
theorem dX1_keep_16 : decode cX1_keep 16 = .ok (.iastore, 1) := by decide +kernel
theorem dX1_keep_17 : decode cX1_keep 17 = .ok (.aload_n 0, 1) := by decide +kernel
theorem dX1_keep_18 : decode cX1_keep 18 = .ok (.getfield 15, 3) := by decide +kernel
theorem dX1_keep_21 : decode cX1_keep 21 = .ok (.iload 5, 2) := by decide +kernel
theorem dX1_keep_23 : decode cX1_keep 23 = .ok (.iload 4, 2) := by decide +kernel
theorem dX1_keep_25 : decode cX1_keep 25 = .ok (.iastore, 1) := by decide +kernel
theorem dX1_keep_26 : decode cX1_keep 26 = .ok (.iinc 5 1, 3) := by decide +kernel
theorem dX1_keep_29 : decode cX1_keep 29 = .ok (.goto (-26), 3) := by decide +kernel
theorem dX1_keep_32 : decode cX1_keep 32 = .ok (.return_, 1) := by decide +kernel
theorem dX2_init_0 : decode cX2_init 0 = .ok (.aload_n 0, 1) := by decide +kernel
theorem dX2_init_1 : decode cX2_init 1 = .ok (.invokespecial 3, 3) := by decide +kernel
theorem dX2_init_4 : decode cX2_init 4 = .ok (.aload_n 0, 1) := by decide +kernel
theorem dX2_init_5 : decode cX2_init 5 = .ok (.bipush 12, 2) := by decide +kernel
theorem dX2_init_7 : decode cX2_init 7 = .ok (.newarray .int, 2) := by decide +kernel
theorem dX2_init_9 : decode cX2_init 9 = .ok (.putfield 9, 3) := by decide +kernel
theorem dX2_init_12 : decode cX2_init 12 = .ok (.aload_n 0, 1) := by decide +kernel
theorem dX2_init_13 : decode cX2_init 13 = .ok (.bipush 12, 2) := by decide +kernel
theorem dX2_init_15 : decode cX2_init 15 = .ok (.newarray .int, 2) := by decide +kernel
theorem dX2_init_17 : decode cX2_init 17 = .ok (.putfield 15, 3) := by decide +kernel
theorem dX2_init_20 : decode cX2_init 20 = .ok (.aload_n 0, 1) := by decide +kernel
theorem dX2_init_21 : decode cX2_init 21 = .ok (.bipush 12, 2) := by decide +kernel
theorem dX2_init_23 : decode cX2_init 23 = .ok (.newarray .int, 2) := by decide +kernel
theorem dX2_init_25 : decode cX2_init 25 = .ok (.putfield 18, 3) := by decide +kernel
theorem dX2_init_28 : decode cX2_init 28 = .ok (.aload_n 0, 1) := by decide +kernel
theorem dX2_init_29 : decode cX2_init 29 = .ok (.bipush 12, 2) := by decide +kernel
theorem dX2_init_31 : decode cX2_init 31 = .ok (.newarray .int, 2) := by decide +kernel
theorem dX2_init_33 : decode cX2_init 33 = .ok (.putfield 21, 3) := by decide +kernel
theorem dX2_init_36 : decode cX2_init 36 = .ok (.aload_n 0, 1) := by decide +kernel
theorem dX2_init_37 : decode cX2_init 37 = .ok (.bipush 12, 2) := by decide +kernel
theorem dX2_init_39 : decode cX2_init 39 = .ok (.newarray .int, 2) := by decide +kernel
theorem dX2_init_41 : decode cX2_init 41 = .ok (.putfield 24, 3) := by decide +kernel
theorem dX2_init_44 : decode cX2_init 44 = .ok (.aload_n 0, 1) := by decide +kernel
theorem dX2_init_45 : decode cX2_init 45 = .ok (.iconst 3, 1) := by decide +kernel
theorem dX2_init_46 : decode cX2_init 46 = .ok (.newarray .int, 2) := by decide +kernel
theorem dX2_init_48 : decode cX2_init 48 = .ok (.putfield 27, 3) := by decide +kernel
theorem dX2_init_51 : decode cX2_init 51 = .ok (.aload_n 0, 1) := by decide +kernel
theorem dX2_init_52 : decode cX2_init 52 = .ok (.iconst 0, 1) := by decide +kernel
theorem dX2_init_53 : decode cX2_init 53 = .ok (.putfield 30, 3) := by decide +kernel
theorem dX2_init_56 : decode cX2_init 56 = .ok (.aload_n 0, 1) := by decide +kernel
theorem dX2_init_57 : decode cX2_init 57 = .ok (.iconst 0, 1) := by decide +kernel
theorem dX2_init_58 : decode cX2_init 58 = .ok (.putfield 34, 3) := by decide +kernel
theorem dX2_init_61 : decode cX2_init 61 = .ok (.aload_n 0, 1) := by decide +kernel
theorem dX2_init_62 : decode cX2_init 62 = .ok (.iconst 0, 1) := by decide +kernel
theorem dX2_init_63 : decode cX2_init 63 = .ok (.putfield 37, 3) := by decide +kernel
theorem dX2_init_66 : decode cX2_init 66 = .ok (.aload_n 0, 1) := by decide +kernel
theorem dX2_init_67 : decode cX2_init 67 = .ok (.iconst 0, 1) := by decide +kernel
theorem dX2_init_68 : decode cX2_init 68 = .ok (.putfield 40, 3) := by decide +kernel
theorem dX2_init_71 : decode cX2_init 71 = .ok (.return_, 1) := by decide +kernel
theorem dX2_lay_0 : decode cX2_lay 0 = .ok (.aload_n 0, 1) := by decide +kernel
theorem dX2_lay_1 : decode cX2_lay 1 = .ok (.getfield 30, 3) := by decide +kernel
theorem dX2_lay_4 : decode cX2_lay 4 = .ok (.istore 5, 2) := by decide +kernel
theorem dX2_lay_6 : decode cX2_lay 6 = .ok (.aload_n 0, 1) := by decide +kernel
theorem dX2_lay_7 : decode cX2_lay 7 = .ok (.getfield 9, 3) := by decide +kernel
theorem dX2_lay_10 : decode cX2_lay 10 = .ok (.iload 5, 2) := by decide +kernel
theorem dX2_lay_12 : decode cX2_lay 12 = .ok (.iload_n 1, 1) := by decide +kernel
theorem dX2_lay_13 : decode cX2_lay 13 = .ok (.iastore, 1) := by decide +kernel
theorem dX2_lay_14 : decode cX2_lay 14 = .ok (.aload_n 0, 1) := by decide +kernel
theorem dX2_lay_15 : decode cX2_lay 15 = .ok (.getfield 15, 3) := by decide +kernel
theorem dX2_lay_18 : decode cX2_lay 18 = .ok (.iload 5, 2) := by decide +kernel
theorem dX2_lay_20 : decode cX2_lay 20 = .ok (.iload_n 2, 1) := by decide +kernel
theorem dX2_lay_21 : decode cX2_lay 21 = .ok (.iastore, 1) := by decide +kernel
theorem dX2_lay_22 : decode cX2_lay 22 = .ok (.aload_n 0, 1) := by decide +kernel
theorem dX2_lay_23 : decode cX2_lay 23 = .ok (.getfield 18, 3) := by decide +kernel
theorem dX2_lay_26 : decode cX2_lay 26 = .ok (.iload 5, 2) := by decide +kernel
theorem dX2_lay_28 : decode cX2_lay 28 = .ok (.iconst 1, 1) := by decide +kernel
theorem dX2_lay_29 : decode cX2_lay 29 = .ok (.iload_n 1, 1) := by decide +kernel
theorem dX2_lay_30 : decode cX2_lay 30 = .ok (.ishl, 1) := by decide +kernel
theorem dX2_lay_31 : decode cX2_lay 31 = .ok (.iconst 1, 1) := by decide +kernel
theorem dX2_lay_32 : decode cX2_lay 32 = .ok (.iload_n 2, 1) := by decide +kernel
theorem dX2_lay_33 : decode cX2_lay 33 = .ok (.ishl, 1) := by decide +kernel
theorem dX2_lay_34 : decode cX2_lay 34 = .ok (.ior, 1) := by decide +kernel
theorem dX2_lay_35 : decode cX2_lay 35 = .ok (.iastore, 1) := by decide +kernel
theorem dX2_lay_36 : decode cX2_lay 36 = .ok (.aload_n 0, 1) := by decide +kernel
theorem dX2_lay_37 : decode cX2_lay 37 = .ok (.getfield 21, 3) := by decide +kernel
theorem dX2_lay_40 : decode cX2_lay 40 = .ok (.iload 5, 2) := by decide +kernel
theorem dX2_lay_42 : decode cX2_lay 42 = .ok (.iload_n 3, 1) := by decide +kernel
theorem dX2_lay_43 : decode cX2_lay 43 = .ok (.iastore, 1) := by decide +kernel
theorem dX2_lay_44 : decode cX2_lay 44 = .ok (.aload_n 0, 1) := by decide +kernel
theorem dX2_lay_45 : decode cX2_lay 45 = .ok (.getfield 24, 3) := by decide +kernel
theorem dX2_lay_48 : decode cX2_lay 48 = .ok (.iload 5, 2) := by decide +kernel
theorem dX2_lay_50 : decode cX2_lay 50 = .ok (.iload 4, 2) := by decide +kernel
theorem dX2_lay_52 : decode cX2_lay 52 = .ok (.iastore, 1) := by decide +kernel
theorem dX2_lay_53 : decode cX2_lay 53 = .ok (.aload_n 0, 1) := by decide +kernel
theorem dX2_lay_54 : decode cX2_lay 54 = .ok (.dup, 1) := by decide +kernel
theorem dX2_lay_55 : decode cX2_lay 55 = .ok (.getfield 34, 3) := by decide +kernel
theorem dX2_lay_58 : decode cX2_lay 58 = .ok (.iload_n 3, 1) := by decide +kernel
theorem dX2_lay_59 : decode cX2_lay 59 = .ok (.ifCond .ne 10, 3) := by decide +kernel
theorem dX2_lay_62 : decode cX2_lay 62 = .ok (.iconst 1, 1) := by decide +kernel
theorem dX2_lay_63 : decode cX2_lay 63 = .ok (.iload 5, 2) := by decide +kernel
theorem dX2_lay_65 : decode cX2_lay 65 = .ok (.ishl, 1) := by decide +kernel
theorem dX2_lay_66 : decode cX2_lay 66 = .ok (.goto 4, 3) := by decide +kernel
theorem dX2_lay_69 : decode cX2_lay 69 = .ok (.iconst 0, 1) := by decide +kernel
theorem dX2_lay_70 : decode cX2_lay 70 = .ok (.ior, 1) := by decide +kernel
theorem dX2_lay_71 : decode cX2_lay 71 = .ok (.putfield 34, 3) := by decide +kernel
theorem dX2_lay_74 : decode cX2_lay 74 = .ok (.aload_n 0, 1) := by decide +kernel
theorem dX2_lay_75 : decode cX2_lay 75 = .ok (.dup, 1) := by decide +kernel
theorem dX2_lay_76 : decode cX2_lay 76 = .ok (.getfield 37, 3) := by decide +kernel
theorem dX2_lay_79 : decode cX2_lay 79 = .ok (.iload_n 3, 1) := by decide +kernel
theorem dX2_lay_80 : decode cX2_lay 80 = .ok (.iconst 1, 1) := by decide +kernel
theorem dX2_lay_81 : decode cX2_lay 81 = .ok (.if_icmp .ne 10, 3) := by decide +kernel
theorem dX2_lay_84 : decode cX2_lay 84 = .ok (.iconst 1, 1) := by decide +kernel
theorem dX2_lay_85 : decode cX2_lay 85 = .ok (.iload 5, 2) := by decide +kernel
theorem dX2_lay_87 : decode cX2_lay 87 = .ok (.ishl, 1) := by decide +kernel
theorem dX2_lay_88 : decode cX2_lay 88 = .ok (.goto 4, 3) := by decide +kernel
theorem dX2_lay_91 : decode cX2_lay 91 = .ok (.iconst 0, 1) := by decide +kernel
theorem dX2_lay_92 : decode cX2_lay 92 = .ok (.ior, 1) := by decide +kernel
theorem dX2_lay_93 : decode cX2_lay 93 = .ok (.putfield 37, 3) := by decide +kernel
theorem dX2_lay_96 : decode cX2_lay 96 = .ok (.aload_n 0, 1) := by decide +kernel
theorem dX2_lay_97 : decode cX2_lay 97 = .ok (.dup, 1) := by decide +kernel
theorem dX2_lay_98 : decode cX2_lay 98 = .ok (.getfield 30, 3) := by decide +kernel
theorem dX2_lay_101 : decode cX2_lay 101 = .ok (.iconst 1, 1) := by decide +kernel
theorem dX2_lay_102 : decode cX2_lay 102 = .ok (.iadd, 1) := by decide +kernel
theorem dX2_lay_103 : decode cX2_lay 103 = .ok (.putfield 30, 3) := by decide +kernel
theorem dX2_lay_106 : decode cX2_lay 106 = .ok (.iload 5, 2) := by decide +kernel
theorem dX2_lay_108 : decode cX2_lay 108 = .ok (.ireturn, 1) := by decide +kernel
theorem dX2_has_0 : decode cX2_has 0 = .ok (.iload_n 1, 1) := by decide +kernel
theorem dX2_has_1 : decode cX2_has 1 = .ok (.ifCond .lt 15, 3) := by decide +kernel
theorem dX2_has_4 : decode cX2_has 4 = .ok (.iload_n 1, 1) := by decide +kernel
theorem dX2_has_5 : decode cX2_has 5 = .ok (.aload_n 0, 1) := by decide +kernel
theorem dX2_has_6 : decode cX2_has 6 = .ok (.getfield 30, 3) := by decide +kernel
theorem dX2_has_9 : decode cX2_has 9 = .ok (.if_icmp .ge 7, 3) := by decide +kernel
theorem dX2_has_12 : decode cX2_has 12 = .ok (.iconst 1, 1) := by decide +kernel
theorem dX2_has_13 : decode cX2_has 13 = .ok (.goto 4, 3) := by decide +kernel
theorem dX2_has_16 : decode cX2_has 16 = .ok (.iconst 0, 1) := by decide +kernel
theorem dX2_has_17 : decode cX2_has 17 = .ok (.ireturn, 1) := by decide +kernel
theorem dX2_hasFitting_0 : decode cX2_hasFitting 0 = .ok (.aload_n 0, 1) := by decide +kernel
theorem dX2_hasFitting_1 : decode cX2_hasFitting 1 = .ok (.iload_n 1, 1) := by decide +kernel
theorem dX2_hasFitting_2 : decode cX2_hasFitting 2 = .ok (.invokevirtual 43, 3) := by decide +kernel
theorem dX2_hasFitting_5 : decode cX2_hasFitting 5 = .ok (.ifCond .eq 17, 3) := by decide +kernel
theorem dX2_hasFitting_8 : decode cX2_hasFitting 8 = .ok (.aload_n 0, 1) := by decide +kernel
theorem dX2_hasFitting_9 : decode cX2_hasFitting 9 = .ok (.getfield 21, 3) := by decide +kernel
theorem dX2_hasFitting_12 : decode cX2_hasFitting 12 = .ok (.iload_n 1, 1) := by decide +kernel
theorem dX2_hasFitting_13 : decode cX2_hasFitting 13 = .ok (.iaload, 1) := by decide +kernel
theorem dX2_hasFitting_14 : decode cX2_hasFitting 14 = .ok (.iconst 2, 1) := by decide +kernel
theorem dX2_hasFitting_15 : decode cX2_hasFitting 15 = .ok (.if_icmp .eq 7, 3) := by decide +kernel
theorem dX2_hasFitting_18 : decode cX2_hasFitting 18 = .ok (.iconst 1, 1) := by decide +kernel
theorem dX2_hasFitting_19 : decode cX2_hasFitting 19 = .ok (.goto 4, 3) := by decide +kernel
theorem dX2_hasFitting_22 : decode cX2_hasFitting 22 = .ok (.iconst 0, 1) := by decide +kernel
theorem dX2_hasFitting_23 : decode cX2_hasFitting 23 = .ok (.ireturn, 1) := by decide +kernel
theorem dX2_allPipes_0 : decode cX2_allPipes 0 = .ok (.iconst 1, 1) := by decide +kernel
theorem dX2_allPipes_1 : decode cX2_allPipes 1 = .ok (.aload_n 0, 1) := by decide +kernel
theorem dX2_allPipes_2 : decode cX2_allPipes 2 = .ok (.getfield 30, 3) := by decide +kernel
theorem dX2_allPipes_5 : decode cX2_allPipes 5 = .ok (.ishl, 1) := by decide +kernel
theorem dX2_allPipes_6 : decode cX2_allPipes 6 = .ok (.iconst 1, 1) := by decide +kernel
theorem dX2_allPipes_7 : decode cX2_allPipes 7 = .ok (.isub, 1) := by decide +kernel
theorem dX2_allPipes_8 : decode cX2_allPipes 8 = .ok (.ireturn, 1) := by decide +kernel
theorem dX2_allFittings_0 : decode cX2_allFittings 0 = .ok (.aload_n 0, 1) := by decide +kernel
theorem dX2_allFittings_1 : decode cX2_allFittings 1 = .ok (.getfield 34, 3) := by decide +kernel
theorem dX2_allFittings_4 : decode cX2_allFittings 4 = .ok (.aload_n 0, 1) := by decide +kernel
theorem dX2_allFittings_5 : decode cX2_allFittings 5 = .ok (.getfield 37, 3) := by decide +kernel
theorem dX2_allFittings_8 : decode cX2_allFittings 8 = .ok (.ior, 1) := by decide +kernel
theorem dX2_allFittings_9 : decode cX2_allFittings 9 = .ok (.ireturn, 1) := by decide +kernel
theorem dX2_knownAt_0 : decode cX2_knownAt 0 = .ok (.iconst 0, 1) := by decide +kernel
theorem dX2_knownAt_1 : decode cX2_knownAt 1 = .ok (.istore_n 2, 1) := by decide +kernel
theorem dX2_knownAt_2 : decode cX2_knownAt 2 = .ok (.iconst 0, 1) := by decide +kernel
theorem dX2_knownAt_3 : decode cX2_knownAt 3 = .ok (.istore_n 3, 1) := by decide +kernel
theorem dX2_knownAt_4 : decode cX2_knownAt 4 = .ok (.iload_n 3, 1) := by decide +kernel
theorem dX2_knownAt_5 : decode cX2_knownAt 5 = .ok (.aload_n 0, 1) := by decide +kernel
theorem dX2_knownAt_6 : decode cX2_knownAt 6 = .ok (.getfield 30, 3) := by decide +kernel
theorem dX2_knownAt_9 : decode cX2_knownAt 9 = .ok (.if_icmp .ge 29, 3) := by decide +kernel
theorem dX2_knownAt_12 : decode cX2_knownAt 12 = .ok (.iload_n 2, 1) := by decide +kernel
theorem dX2_knownAt_13 : decode cX2_knownAt 13 = .ok (.aload_n 0, 1) := by decide +kernel
theorem dX2_knownAt_14 : decode cX2_knownAt 14 = .ok (.getfield 24, 3) := by decide +kernel
theorem dX2_knownAt_17 : decode cX2_knownAt 17 = .ok (.iload_n 3, 1) := by decide +kernel
theorem dX2_knownAt_18 : decode cX2_knownAt 18 = .ok (.iaload, 1) := by decide +kernel
theorem dX2_knownAt_19 : decode cX2_knownAt 19 = .ok (.iload_n 1, 1) := by decide +kernel
theorem dX2_knownAt_20 : decode cX2_knownAt 20 = .ok (.if_icmp .gt 9, 3) := by decide +kernel
theorem dX2_knownAt_23 : decode cX2_knownAt 23 = .ok (.iconst 1, 1) := by decide +kernel
theorem dX2_knownAt_24 : decode cX2_knownAt 24 = .ok (.iload_n 3, 1) := by decide +kernel
theorem dX2_knownAt_25 : decode cX2_knownAt 25 = .ok (.ishl, 1) := by decide +kernel
theorem dX2_knownAt_26 : decode cX2_knownAt 26 = .ok (.goto 4, 3) := by decide +kernel
theorem dX2_knownAt_29 : decode cX2_knownAt 29 = .ok (.iconst 0, 1) := by decide +kernel
theorem dX2_knownAt_30 : decode cX2_knownAt 30 = .ok (.ior, 1) := by decide +kernel
theorem dX2_knownAt_31 : decode cX2_knownAt 31 = .ok (.istore_n 2, 1) := by decide +kernel
theorem dX2_knownAt_32 : decode cX2_knownAt 32 = .ok (.iinc 3 1, 3) := by decide +kernel
theorem dX2_knownAt_35 : decode cX2_knownAt 35 = .ok (.goto (-31), 3) := by decide +kernel
theorem dX2_knownAt_38 : decode cX2_knownAt 38 = .ok (.iload_n 2, 1) := by decide +kernel
theorem dX2_knownAt_39 : decode cX2_knownAt 39 = .ok (.ireturn, 1) := by decide +kernel
theorem dX2_tellSource_0 : decode cX2_tellSource 0 = .ok (.aload_n 0, 1) := by decide +kernel
theorem dX2_tellSource_1 : decode cX2_tellSource 1 = .ok (.getfield 27, 3) := by decide +kernel
theorem dX2_tellSource_4 : decode cX2_tellSource 4 = .ok (.iload_n 2, 1) := by decide +kernel
theorem dX2_tellSource_5 : decode cX2_tellSource 5 = .ok (.iaload, 1) := by decide +kernel
theorem dX2_tellSource_6 : decode cX2_tellSource 6 = .ok (.istore 4, 2) := by decide +kernel
theorem dX2_tellSource_8 : decode cX2_tellSource 8 = .ok (.aload_n 0, 1) := by decide +kernel
theorem dX2_tellSource_9 : decode cX2_tellSource 9 = .ok (.getfield 27, 3) := by decide +kernel
theorem dX2_tellSource_12 : decode cX2_tellSource 12 = .ok (.iload_n 2, 1) := by decide +kernel
theorem dX2_tellSource_13 : decode cX2_tellSource 13 = .ok (.iload_n 3, 1) := by decide +kernel
theorem dX2_tellSource_14 : decode cX2_tellSource 14 = .ok (.ifCond .eq 12, 3) := by decide +kernel
theorem dX2_tellSource_17 : decode cX2_tellSource 17 = .ok (.iload 4, 2) := by decide +kernel
theorem dX2_tellSource_19 : decode cX2_tellSource 19 = .ok (.iconst 1, 1) := by decide +kernel
theorem dX2_tellSource_20 : decode cX2_tellSource 20 = .ok (.iload_n 1, 1) := by decide +kernel
theorem dX2_tellSource_21 : decode cX2_tellSource 21 = .ok (.ishl, 1) := by decide +kernel
theorem dX2_tellSource_22 : decode cX2_tellSource 22 = .ok (.ior, 1) := by decide +kernel
theorem dX2_tellSource_23 : decode cX2_tellSource 23 = .ok (.goto 11, 3) := by decide +kernel
theorem dX2_tellSource_26 : decode cX2_tellSource 26 = .ok (.iload 4, 2) := by decide +kernel
theorem dX2_tellSource_28 : decode cX2_tellSource 28 = .ok (.iconst 1, 1) := by decide +kernel
theorem dX2_tellSource_29 : decode cX2_tellSource 29 = .ok (.iload_n 1, 1) := by decide +kernel
theorem dX2_tellSource_30 : decode cX2_tellSource 30 = .ok (.ishl, 1) := by decide +kernel
theorem dX2_tellSource_31 : decode cX2_tellSource 31 = .ok (.iconst (-1), 1) := by decide +kernel
theorem dX2_tellSource_32 : decode cX2_tellSource 32 = .ok (.ixor, 1) := by decide +kernel
theorem dX2_tellSource_33 : decode cX2_tellSource 33 = .ok (.iand, 1) := by decide +kernel
theorem dX2_tellSource_34 : decode cX2_tellSource 34 = .ok (.iastore, 1) := by decide +kernel
theorem dX2_tellSource_35 : decode cX2_tellSource 35 = .ok (.aload_n 0, 1) := by decide +kernel
theorem dX2_tellSource_36 : decode cX2_tellSource 36 = .ok (.getfield 27, 3) := by decide +kernel
theorem dX2_tellSource_39 : decode cX2_tellSource 39 = .ok (.iload_n 2, 1) := by decide +kernel
theorem dX2_tellSource_40 : decode cX2_tellSource 40 = .ok (.iaload, 1) := by decide +kernel
theorem dX2_tellSource_41 : decode cX2_tellSource 41 = .ok (.iload 4, 2) := by decide +kernel
theorem dX2_tellSource_43 : decode cX2_tellSource 43 = .ok (.if_icmp .eq 7, 3) := by decide +kernel
theorem dX2_tellSource_46 : decode cX2_tellSource 46 = .ok (.iconst 1, 1) := by decide +kernel
theorem dX2_tellSource_47 : decode cX2_tellSource 47 = .ok (.goto 4, 3) := by decide +kernel
theorem dX2_tellSource_50 : decode cX2_tellSource 50 = .ok (.iconst 0, 1) := by decide +kernel
theorem dX2_tellSource_51 : decode cX2_tellSource 51 = .ok (.ireturn, 1) := by decide +kernel
theorem dX2_turnByHand_0 : decode cX2_turnByHand 0 = .ok (.aload_n 0, 1) := by decide +kernel
theorem dX2_turnByHand_1 : decode cX2_turnByHand 1 = .ok (.getfield 40, 3) := by decide +kernel
theorem dX2_turnByHand_4 : decode cX2_turnByHand 4 = .ok (.istore_n 3, 1) := by decide +kernel
theorem dX2_turnByHand_5 : decode cX2_turnByHand 5 = .ok (.aload_n 0, 1) := by decide +kernel
theorem dX2_turnByHand_6 : decode cX2_turnByHand 6 = .ok (.iload_n 2, 1) := by decide +kernel
theorem dX2_turnByHand_7 : decode cX2_turnByHand 7 = .ok (.ifCond .eq 11, 3) := by decide +kernel
theorem dX2_turnByHand_10 : decode cX2_turnByHand 10 = .ok (.iload_n 3, 1) := by decide +kernel
theorem dX2_turnByHand_11 : decode cX2_turnByHand 11 = .ok (.iconst 1, 1) := by decide +kernel
theorem dX2_turnByHand_12 : decode cX2_turnByHand 12 = .ok (.iload_n 1, 1) := by decide +kernel
theorem dX2_turnByHand_13 : decode cX2_turnByHand 13 = .ok (.ishl, 1) := by decide +kernel
theorem dX2_turnByHand_14 : decode cX2_turnByHand 14 = .ok (.ior, 1) := by decide +kernel
theorem dX2_turnByHand_15 : decode cX2_turnByHand 15 = .ok (.goto 10, 3) := by decide +kernel
theorem dX2_turnByHand_18 : decode cX2_turnByHand 18 = .ok (.iload_n 3, 1) := by decide +kernel
theorem dX2_turnByHand_19 : decode cX2_turnByHand 19 = .ok (.iconst 1, 1) := by decide +kernel
theorem dX2_turnByHand_20 : decode cX2_turnByHand 20 = .ok (.iload_n 1, 1) := by decide +kernel
theorem dX2_turnByHand_21 : decode cX2_turnByHand 21 = .ok (.ishl, 1) := by decide +kernel
theorem dX2_turnByHand_22 : decode cX2_turnByHand 22 = .ok (.iconst (-1), 1) := by decide +kernel
theorem dX2_turnByHand_23 : decode cX2_turnByHand 23 = .ok (.ixor, 1) := by decide +kernel
theorem dX2_turnByHand_24 : decode cX2_turnByHand 24 = .ok (.iand, 1) := by decide +kernel
theorem dX2_turnByHand_25 : decode cX2_turnByHand 25 = .ok (.putfield 40, 3) := by decide +kernel
theorem dX2_turnByHand_28 : decode cX2_turnByHand 28 = .ok (.aload_n 0, 1) := by decide +kernel
theorem dX2_turnByHand_29 : decode cX2_turnByHand 29 = .ok (.getfield 40, 3) := by decide +kernel
theorem dX2_turnByHand_32 : decode cX2_turnByHand 32 = .ok (.iload_n 3, 1) := by decide +kernel
theorem dX2_turnByHand_33 : decode cX2_turnByHand 33 = .ok (.if_icmp .eq 7, 3) := by decide +kernel
theorem dX2_turnByHand_36 : decode cX2_turnByHand 36 = .ok (.iconst 1, 1) := by decide +kernel
theorem dX2_turnByHand_37 : decode cX2_turnByHand 37 = .ok (.goto 4, 3) := by decide +kernel
theorem dX2_turnByHand_40 : decode cX2_turnByHand 40 = .ok (.iconst 0, 1) := by decide +kernel
theorem dX2_turnByHand_41 : decode cX2_turnByHand 41 = .ok (.ireturn, 1) := by decide +kernel
theorem dX2_stepOver_0 : decode cX2_stepOver 0 = .ok (.iload_n 1, 1) := by decide +kernel
theorem dX2_stepOver_1 : decode cX2_stepOver 1 = .ok (.istore_n 3, 1) := by decide +kernel
theorem dX2_stepOver_2 : decode cX2_stepOver 2 = .ok (.iconst 0, 1) := by decide +kernel
theorem dX2_stepOver_3 : decode cX2_stepOver 3 = .ok (.istore 4, 2) := by decide +kernel
theorem dX2_stepOver_5 : decode cX2_stepOver 5 = .ok (.iload 4, 2) := by decide +kernel
theorem dX2_stepOver_7 : decode cX2_stepOver 7 = .ok (.aload_n 0, 1) := by decide +kernel
theorem dX2_stepOver_8 : decode cX2_stepOver 8 = .ok (.getfield 30, 3) := by decide +kernel
theorem dX2_stepOver_11 : decode cX2_stepOver 11 = .ok (.if_icmp .ge 40, 3) := by decide +kernel
theorem dX2_stepOver_14 : decode cX2_stepOver 14 = .ok (.iload_n 2, 1) := by decide +kernel
theorem dX2_stepOver_15 : decode cX2_stepOver 15 = .ok (.iload 4, 2) := by decide +kernel
theorem dX2_stepOver_17 : decode cX2_stepOver 17 = .ok (.ishr, 1) := by decide +kernel
theorem dX2_stepOver_18 : decode cX2_stepOver 18 = .ok (.iconst 1, 1) := by decide +kernel
theorem dX2_stepOver_19 : decode cX2_stepOver 19 = .ok (.iand, 1) := by decide +kernel
theorem dX2_stepOver_20 : decode cX2_stepOver 20 = .ok (.ifCond .eq 25, 3) := by decide +kernel
theorem dX2_stepOver_23 : decode cX2_stepOver 23 = .ok (.aload_n 0, 1) := by decide +kernel
theorem dX2_stepOver_24 : decode cX2_stepOver 24 = .ok (.getfield 18, 3) := by decide +kernel
theorem dX2_stepOver_27 : decode cX2_stepOver 27 = .ok (.iload 4, 2) := by decide +kernel
theorem dX2_stepOver_29 : decode cX2_stepOver 29 = .ok (.iaload, 1) := by decide +kernel
theorem dX2_stepOver_30 : decode cX2_stepOver 30 = .ok (.iload_n 1, 1) := by decide +kernel
theorem dX2_stepOver_31 : decode cX2_stepOver 31 = .ok (.iand, 1) := by decide +kernel
theorem dX2_stepOver_32 : decode cX2_stepOver 32 = .ok (.ifCond .eq 13, 3) := by decide +kernel
theorem dX2_stepOver_35 : decode cX2_stepOver 35 = .ok (.iload_n 3, 1) := by decide +kernel
theorem dX2_stepOver_36 : decode cX2_stepOver 36 = .ok (.aload_n 0, 1) := by decide +kernel
theorem dX2_stepOver_37 : decode cX2_stepOver 37 = .ok (.getfield 18, 3) := by decide +kernel
theorem dX2_stepOver_40 : decode cX2_stepOver 40 = .ok (.iload 4, 2) := by decide +kernel
theorem dX2_stepOver_42 : decode cX2_stepOver 42 = .ok (.iaload, 1) := by decide +kernel
theorem dX2_stepOver_43 : decode cX2_stepOver 43 = .ok (.ior, 1) := by decide +kernel
theorem dX2_stepOver_44 : decode cX2_stepOver 44 = .ok (.istore_n 3, 1) := by decide +kernel
theorem dX2_stepOver_45 : decode cX2_stepOver 45 = .ok (.iinc 4 1, 3) := by decide +kernel
theorem dX2_stepOver_48 : decode cX2_stepOver 48 = .ok (.goto (-43), 3) := by decide +kernel
theorem dX2_stepOver_51 : decode cX2_stepOver 51 = .ok (.iload_n 3, 1) := by decide +kernel
theorem dX2_stepOver_52 : decode cX2_stepOver 52 = .ok (.ireturn, 1) := by decide +kernel
theorem dX2_spread_0 : decode cX2_spread 0 = .ok (.iload_n 1, 1) := by decide +kernel
theorem dX2_spread_1 : decode cX2_spread 1 = .ok (.istore_n 3, 1) := by decide +kernel
theorem dX2_spread_2 : decode cX2_spread 2 = .ok (.iconst 0, 1) := by decide +kernel
theorem dX2_spread_3 : decode cX2_spread 3 = .ok (.istore 4, 2) := by decide +kernel
theorem dX2_spread_5 : decode cX2_spread 5 = .ok (.iload 4, 2) := by decide +kernel
theorem dX2_spread_7 : decode cX2_spread 7 = .ok (.bipush 10, 2) := by decide +kernel
theorem dX2_spread_9 : decode cX2_spread 9 = .ok (.if_icmp .ge 70, 3) := by decide +kernel
theorem dX2_spread_12 : decode cX2_spread 12 = .ok (.iload_n 3, 1) := by decide +kernel
theorem dX2_spread_13 : decode cX2_spread 13 = .ok (.istore 5, 2) := by decide +kernel
theorem dX2_spread_15 : decode cX2_spread 15 = .ok (.iconst 0, 1) := by decide +kernel
theorem dX2_spread_16 : decode cX2_spread 16 = .ok (.istore 6, 2) := by decide +kernel
theorem dX2_spread_18 : decode cX2_spread 18 = .ok (.iload 6, 2) := by decide +kernel
theorem dX2_spread_20 : decode cX2_spread 20 = .ok (.aload_n 0, 1) := by decide +kernel
theorem dX2_spread_21 : decode cX2_spread 21 = .ok (.getfield 30, 3) := by decide +kernel
theorem dX2_spread_24 : decode cX2_spread 24 = .ok (.if_icmp .ge 40, 3) := by decide +kernel
theorem dX2_spread_27 : decode cX2_spread 27 = .ok (.iload_n 2, 1) := by decide +kernel
theorem dX2_spread_28 : decode cX2_spread 28 = .ok (.iload 6, 2) := by decide +kernel
theorem dX2_spread_30 : decode cX2_spread 30 = .ok (.ishr, 1) := by decide +kernel
theorem dX2_spread_31 : decode cX2_spread 31 = .ok (.iconst 1, 1) := by decide +kernel
theorem dX2_spread_32 : decode cX2_spread 32 = .ok (.iand, 1) := by decide +kernel
theorem dX2_spread_33 : decode cX2_spread 33 = .ok (.ifCond .eq 25, 3) := by decide +kernel
theorem dX2_spread_36 : decode cX2_spread 36 = .ok (.aload_n 0, 1) := by decide +kernel
theorem dX2_spread_37 : decode cX2_spread 37 = .ok (.getfield 18, 3) := by decide +kernel
theorem dX2_spread_40 : decode cX2_spread 40 = .ok (.iload 6, 2) := by decide +kernel
theorem dX2_spread_42 : decode cX2_spread 42 = .ok (.iaload, 1) := by decide +kernel
theorem dX2_spread_43 : decode cX2_spread 43 = .ok (.iload_n 3, 1) := by decide +kernel
theorem dX2_spread_44 : decode cX2_spread 44 = .ok (.iand, 1) := by decide +kernel
theorem dX2_spread_45 : decode cX2_spread 45 = .ok (.ifCond .eq 13, 3) := by decide +kernel
theorem dX2_spread_48 : decode cX2_spread 48 = .ok (.iload_n 3, 1) := by decide +kernel
theorem dX2_spread_49 : decode cX2_spread 49 = .ok (.aload_n 0, 1) := by decide +kernel
theorem dX2_spread_50 : decode cX2_spread 50 = .ok (.getfield 18, 3) := by decide +kernel
theorem dX2_spread_53 : decode cX2_spread 53 = .ok (.iload 6, 2) := by decide +kernel
theorem dX2_spread_55 : decode cX2_spread 55 = .ok (.iaload, 1) := by decide +kernel
theorem dX2_spread_56 : decode cX2_spread 56 = .ok (.ior, 1) := by decide +kernel
theorem dX2_spread_57 : decode cX2_spread 57 = .ok (.istore_n 3, 1) := by decide +kernel
theorem dX2_spread_58 : decode cX2_spread 58 = .ok (.iinc 6 1, 3) := by decide +kernel
theorem dX2_spread_61 : decode cX2_spread 61 = .ok (.goto (-43), 3) := by decide +kernel
theorem dX2_spread_64 : decode cX2_spread 64 = .ok (.iload_n 3, 1) := by decide +kernel
theorem dX2_spread_65 : decode cX2_spread 65 = .ok (.iload 5, 2) := by decide +kernel
theorem dX2_spread_67 : decode cX2_spread 67 = .ok (.if_icmp .ne 6, 3) := by decide +kernel
theorem dX2_spread_70 : decode cX2_spread 70 = .ok (.goto 9, 3) := by decide +kernel
theorem dX2_spread_73 : decode cX2_spread 73 = .ok (.iinc 4 1, 3) := by decide +kernel
theorem dX2_spread_76 : decode cX2_spread 76 = .ok (.goto (-71), 3) := by decide +kernel
theorem dX2_spread_79 : decode cX2_spread 79 = .ok (.iload_n 3, 1) := by decide +kernel
theorem dX2_spread_80 : decode cX2_spread 80 = .ok (.ireturn, 1) := by decide +kernel
theorem dX2_sourcesOf_0 : decode cX2_sourcesOf 0 = .ok (.iconst 0, 1) := by decide +kernel
theorem dX2_sourcesOf_1 : decode cX2_sourcesOf 1 = .ok (.istore_n 2, 1) := by decide +kernel
theorem dX2_sourcesOf_2 : decode cX2_sourcesOf 2 = .ok (.iconst 0, 1) := by decide +kernel
theorem dX2_sourcesOf_3 : decode cX2_sourcesOf 3 = .ok (.istore_n 3, 1) := by decide +kernel
theorem dX2_sourcesOf_4 : decode cX2_sourcesOf 4 = .ok (.iload_n 3, 1) := by decide +kernel
theorem dX2_sourcesOf_5 : decode cX2_sourcesOf 5 = .ok (.iconst 3, 1) := by decide +kernel
theorem dX2_sourcesOf_6 : decode cX2_sourcesOf 6 = .ok (.if_icmp .ge 30, 3) := by decide +kernel
theorem dX2_sourcesOf_9 : decode cX2_sourcesOf 9 = .ok (.iload_n 2, 1) := by decide +kernel
theorem dX2_sourcesOf_10 : decode cX2_sourcesOf 10 = .ok (.iload_n 1, 1) := by decide +kernel
theorem dX2_sourcesOf_11 : decode cX2_sourcesOf 11 = .ok (.iload_n 3, 1) := by decide +kernel
theorem dX2_sourcesOf_12 : decode cX2_sourcesOf 12 = .ok (.ishr, 1) := by decide +kernel
theorem dX2_sourcesOf_13 : decode cX2_sourcesOf 13 = .ok (.iconst 1, 1) := by decide +kernel
theorem dX2_sourcesOf_14 : decode cX2_sourcesOf 14 = .ok (.iand, 1) := by decide +kernel
theorem dX2_sourcesOf_15 : decode cX2_sourcesOf 15 = .ok (.ifCond .eq 12, 3) := by decide +kernel
theorem dX2_sourcesOf_18 : decode cX2_sourcesOf 18 = .ok (.aload_n 0, 1) := by decide +kernel
theorem dX2_sourcesOf_19 : decode cX2_sourcesOf 19 = .ok (.getfield 27, 3) := by decide +kernel
theorem dX2_sourcesOf_22 : decode cX2_sourcesOf 22 = .ok (.iload_n 3, 1) := by decide +kernel
theorem dX2_sourcesOf_23 : decode cX2_sourcesOf 23 = .ok (.iaload, 1) := by decide +kernel
theorem dX2_sourcesOf_24 : decode cX2_sourcesOf 24 = .ok (.goto 4, 3) := by decide +kernel
theorem dX2_sourcesOf_27 : decode cX2_sourcesOf 27 = .ok (.iconst 0, 1) := by decide +kernel
theorem dX2_sourcesOf_28 : decode cX2_sourcesOf 28 = .ok (.ior, 1) := by decide +kernel
theorem dX2_sourcesOf_29 : decode cX2_sourcesOf 29 = .ok (.istore_n 2, 1) := by decide +kernel
theorem dX2_sourcesOf_30 : decode cX2_sourcesOf 30 = .ok (.iinc 3 1, 3) := by decide +kernel
theorem dX2_sourcesOf_33 : decode cX2_sourcesOf 33 = .ok (.goto (-29), 3) := by decide +kernel
theorem dX2_sourcesOf_36 : decode cX2_sourcesOf 36 = .ok (.iload_n 2, 1) := by decide +kernel
theorem dX2_sourcesOf_37 : decode cX2_sourcesOf 37 = .ok (.ireturn, 1) := by decide +kernel
theorem dX2_isSafe_0 : decode cX2_isSafe 0 = .ok (.iload_n 3, 1) := by decide +kernel
theorem dX2_isSafe_1 : decode cX2_isSafe 1 = .ok (.iload_n 2, 1) := by decide +kernel
theorem dX2_isSafe_2 : decode cX2_isSafe 2 = .ok (.iconst (-1), 1) := by decide +kernel
theorem dX2_isSafe_3 : decode cX2_isSafe 3 = .ok (.ixor, 1) := by decide +kernel
theorem dX2_isSafe_4 : decode cX2_isSafe 4 = .ok (.iand, 1) := by decide +kernel
theorem dX2_isSafe_5 : decode cX2_isSafe 5 = .ok (.istore 5, 2) := by decide +kernel
theorem dX2_isSafe_7 : decode cX2_isSafe 7 = .ok (.aload_n 0, 1) := by decide +kernel
theorem dX2_isSafe_8 : decode cX2_isSafe 8 = .ok (.iconst 1, 1) := by decide +kernel
theorem dX2_isSafe_9 : decode cX2_isSafe 9 = .ok (.iload_n 1, 1) := by decide +kernel
theorem dX2_isSafe_10 : decode cX2_isSafe 10 = .ok (.ishl, 1) := by decide +kernel
theorem dX2_isSafe_11 : decode cX2_isSafe 11 = .ok (.iload 5, 2) := by decide +kernel
theorem dX2_isSafe_13 : decode cX2_isSafe 13 = .ok (.invokevirtual 47, 3) := by decide +kernel
theorem dX2_isSafe_16 : decode cX2_isSafe 16 = .ok (.istore 6, 2) := by decide +kernel
theorem dX2_isSafe_18 : decode cX2_isSafe 18 = .ok (.iload 6, 2) := by decide +kernel
theorem dX2_isSafe_20 : decode cX2_isSafe 20 = .ok (.aload_n 0, 1) := by decide +kernel
theorem dX2_isSafe_21 : decode cX2_isSafe 21 = .ok (.bipush 7, 2) := by decide +kernel
theorem dX2_isSafe_23 : decode cX2_isSafe 23 = .ok (.invokevirtual 51, 3) := by decide +kernel
theorem dX2_isSafe_26 : decode cX2_isSafe 26 = .ok (.iand, 1) := by decide +kernel
theorem dX2_isSafe_27 : decode cX2_isSafe 27 = .ok (.ifCond .eq 5, 3) := by decide +kernel
theorem dX2_isSafe_30 : decode cX2_isSafe 30 = .ok (.iconst 0, 1) := by decide +kernel
theorem dX2_isSafe_31 : decode cX2_isSafe 31 = .ok (.ireturn, 1) := by decide +kernel
theorem dX2_isSafe_32 : decode cX2_isSafe 32 = .ok (.iload 4, 2) := by decide +kernel
theorem dX2_isSafe_34 : decode cX2_isSafe 34 = .ok (.ifCond .ne 5, 3) := by decide +kernel
theorem dX2_isSafe_37 : decode cX2_isSafe 37 = .ok (.iconst 1, 1) := by decide +kernel
theorem dX2_isSafe_38 : decode cX2_isSafe 38 = .ok (.ireturn, 1) := by decide +kernel
theorem dX2_isSafe_39 : decode cX2_isSafe 39 = .ok (.aload_n 0, 1) := by decide +kernel
theorem dX2_isSafe_40 : decode cX2_isSafe 40 = .ok (.iload 6, 2) := by decide +kernel
theorem dX2_isSafe_42 : decode cX2_isSafe 42 = .ok (.iload_n 3, 1) := by decide +kernel
theorem dX2_isSafe_43 : decode cX2_isSafe 43 = .ok (.iload_n 2, 1) := by decide +kernel
theorem dX2_isSafe_44 : decode cX2_isSafe 44 = .ok (.iand, 1) := by decide +kernel
theorem dX2_isSafe_45 : decode cX2_isSafe 45 = .ok (.aload_n 0, 1) := by decide +kernel
theorem dX2_isSafe_46 : decode cX2_isSafe 46 = .ok (.getfield 34, 3) := by decide +kernel
theorem dX2_isSafe_49 : decode cX2_isSafe 49 = .ok (.iand, 1) := by decide +kernel
theorem dX2_isSafe_50 : decode cX2_isSafe 50 = .ok (.invokevirtual 55, 3) := by decide +kernel
theorem dX2_isSafe_53 : decode cX2_isSafe 53 = .ok (.istore 7, 2) := by decide +kernel
theorem dX2_isSafe_55 : decode cX2_isSafe 55 = .ok (.aload_n 0, 1) := by decide +kernel
theorem dX2_isSafe_56 : decode cX2_isSafe 56 = .ok (.iload 7, 2) := by decide +kernel
theorem dX2_isSafe_58 : decode cX2_isSafe 58 = .ok (.iload 5, 2) := by decide +kernel
theorem dX2_isSafe_60 : decode cX2_isSafe 60 = .ok (.invokevirtual 47, 3) := by decide +kernel
theorem dX2_isSafe_63 : decode cX2_isSafe 63 = .ok (.aload_n 0, 1) := by decide +kernel
theorem dX2_isSafe_64 : decode cX2_isSafe 64 = .ok (.iload 4, 2) := by decide +kernel
theorem dX2_isSafe_66 : decode cX2_isSafe 66 = .ok (.invokevirtual 51, 3) := by decide +kernel
theorem dX2_isSafe_69 : decode cX2_isSafe 69 = .ok (.iand, 1) := by decide +kernel
theorem dX2_isSafe_70 : decode cX2_isSafe 70 = .ok (.ifCond .ne 7, 3) := by decide +kernel
theorem dX2_isSafe_73 : decode cX2_isSafe 73 = .ok (.iconst 1, 1) := by decide +kernel
theorem dX2_isSafe_74 : decode cX2_isSafe 74 = .ok (.goto 4, 3) := by decide +kernel
theorem dX2_isSafe_77 : decode cX2_isSafe 77 = .ok (.iconst 0, 1) := by decide +kernel
theorem dX2_isSafe_78 : decode cX2_isSafe 78 = .ok (.ireturn, 1) := by decide +kernel
theorem dX2_fewestBarriers_0 : decode cX2_fewestBarriers 0 = .ok (.aload_n 0, 1) := by decide +kernel
theorem dX2_fewestBarriers_1 : decode cX2_fewestBarriers 1 = .ok (.invokevirtual 58, 3) := by decide +kernel
theorem dX2_fewestBarriers_4 : decode cX2_fewestBarriers 4 = .ok (.iload_n 3, 1) := by decide +kernel
theorem dX2_fewestBarriers_5 : decode cX2_fewestBarriers 5 = .ok (.iconst (-1), 1) := by decide +kernel
theorem dX2_fewestBarriers_6 : decode cX2_fewestBarriers 6 = .ok (.ixor, 1) := by decide +kernel
theorem dX2_fewestBarriers_7 : decode cX2_fewestBarriers 7 = .ok (.iand, 1) := by decide +kernel
theorem dX2_fewestBarriers_8 : decode cX2_fewestBarriers 8 = .ok (.istore 4, 2) := by decide +kernel
theorem dX2_fewestBarriers_10 : decode cX2_fewestBarriers 10 = .ok (.iconst 0, 1) := by decide +kernel
theorem dX2_fewestBarriers_11 : decode cX2_fewestBarriers 11 = .ok (.istore 5, 2) := by decide +kernel
theorem dX2_fewestBarriers_13 : decode cX2_fewestBarriers 13 = .ok (.aload_n 0, 1) := by decide +kernel
theorem dX2_fewestBarriers_14 : decode cX2_fewestBarriers 14 = .ok (.iconst 1, 1) := by decide +kernel
theorem dX2_fewestBarriers_15 : decode cX2_fewestBarriers 15 = .ok (.iload_n 1, 1) := by decide +kernel
theorem dX2_fewestBarriers_16 : decode cX2_fewestBarriers 16 = .ok (.ishl, 1) := by decide +kernel
theorem dX2_fewestBarriers_17 : decode cX2_fewestBarriers 17 = .ok (.iload 4, 2) := by decide +kernel
theorem dX2_fewestBarriers_19 : decode cX2_fewestBarriers 19 = .ok (.invokevirtual 47, 3) := by decide +kernel
theorem dX2_fewestBarriers_22 : decode cX2_fewestBarriers 22 = .ok (.istore 6, 2) := by decide +kernel
theorem dX2_fewestBarriers_24 : decode cX2_fewestBarriers 24 = .ok (.iconst 0, 1) := by decide +kernel
theorem dX2_fewestBarriers_25 : decode cX2_fewestBarriers 25 = .ok (.istore 7, 2) := by decide +kernel
theorem dX2_fewestBarriers_27 : decode cX2_fewestBarriers 27 = .ok (.iload 7, 2) := by decide +kernel
theorem dX2_fewestBarriers_29 : decode cX2_fewestBarriers 29 = .ok (.bipush 18, 2) := by decide +kernel
theorem dX2_fewestBarriers_31 : decode cX2_fewestBarriers 31 = .ok (.if_icmp .gt 62, 3) := by decide +kernel
theorem dX2_fewestBarriers_34 : decode cX2_fewestBarriers 34 = .ok (.iload 6, 2) := by decide +kernel
theorem dX2_fewestBarriers_36 : decode cX2_fewestBarriers 36 = .ok (.iload_n 2, 1) := by decide +kernel
theorem dX2_fewestBarriers_37 : decode cX2_fewestBarriers 37 = .ok (.ishr, 1) := by decide +kernel
theorem dX2_fewestBarriers_38 : decode cX2_fewestBarriers 38 = .ok (.iconst 1, 1) := by decide +kernel
theorem dX2_fewestBarriers_39 : decode cX2_fewestBarriers 39 = .ok (.iand, 1) := by decide +kernel
theorem dX2_fewestBarriers_40 : decode cX2_fewestBarriers 40 = .ok (.ifCond .eq 6, 3) := by decide +kernel
theorem dX2_fewestBarriers_43 : decode cX2_fewestBarriers 43 = .ok (.iload 7, 2) := by decide +kernel
theorem dX2_fewestBarriers_45 : decode cX2_fewestBarriers 45 = .ok (.ireturn, 1) := by decide +kernel
theorem dX2_fewestBarriers_46 : decode cX2_fewestBarriers 46 = .ok (.aload_n 0, 1) := by decide +kernel
theorem dX2_fewestBarriers_47 : decode cX2_fewestBarriers 47 = .ok (.iload 6, 2) := by decide +kernel
theorem dX2_fewestBarriers_49 : decode cX2_fewestBarriers 49 = .ok (.iload_n 3, 1) := by decide +kernel
theorem dX2_fewestBarriers_50 : decode cX2_fewestBarriers 50 = .ok (.aload_n 0, 1) := by decide +kernel
theorem dX2_fewestBarriers_51 : decode cX2_fewestBarriers 51 = .ok (.getfield 34, 3) := by decide +kernel
theorem dX2_fewestBarriers_54 : decode cX2_fewestBarriers 54 = .ok (.iand, 1) := by decide +kernel
theorem dX2_fewestBarriers_55 : decode cX2_fewestBarriers 55 = .ok (.invokevirtual 55, 3) := by decide +kernel
theorem dX2_fewestBarriers_58 : decode cX2_fewestBarriers 58 = .ok (.aload_n 0, 1) := by decide +kernel
theorem dX2_fewestBarriers_59 : decode cX2_fewestBarriers 59 = .ok (.iload 5, 2) := by decide +kernel
theorem dX2_fewestBarriers_61 : decode cX2_fewestBarriers 61 = .ok (.iload_n 3, 1) := by decide +kernel
theorem dX2_fewestBarriers_62 : decode cX2_fewestBarriers 62 = .ok (.aload_n 0, 1) := by decide +kernel
theorem dX2_fewestBarriers_63 : decode cX2_fewestBarriers 63 = .ok (.getfield 37, 3) := by decide +kernel
theorem dX2_fewestBarriers_66 : decode cX2_fewestBarriers 66 = .ok (.iand, 1) := by decide +kernel
theorem dX2_fewestBarriers_67 : decode cX2_fewestBarriers 67 = .ok (.invokevirtual 55, 3) := by decide +kernel
theorem dX2_fewestBarriers_70 : decode cX2_fewestBarriers 70 = .ok (.ior, 1) := by decide +kernel
theorem dX2_fewestBarriers_71 : decode cX2_fewestBarriers 71 = .ok (.istore 8, 2) := by decide +kernel
theorem dX2_fewestBarriers_73 : decode cX2_fewestBarriers 73 = .ok (.iload 6, 2) := by decide +kernel
theorem dX2_fewestBarriers_75 : decode cX2_fewestBarriers 75 = .ok (.istore 5, 2) := by decide +kernel
theorem dX2_fewestBarriers_77 : decode cX2_fewestBarriers 77 = .ok (.aload_n 0, 1) := by decide +kernel
theorem dX2_fewestBarriers_78 : decode cX2_fewestBarriers 78 = .ok (.iload 8, 2) := by decide +kernel
theorem dX2_fewestBarriers_80 : decode cX2_fewestBarriers 80 = .ok (.iload 4, 2) := by decide +kernel
theorem dX2_fewestBarriers_82 : decode cX2_fewestBarriers 82 = .ok (.invokevirtual 47, 3) := by decide +kernel
theorem dX2_fewestBarriers_85 : decode cX2_fewestBarriers 85 = .ok (.istore 6, 2) := by decide +kernel
theorem dX2_fewestBarriers_87 : decode cX2_fewestBarriers 87 = .ok (.iinc 7 1, 3) := by decide +kernel
theorem dX2_fewestBarriers_90 : decode cX2_fewestBarriers 90 = .ok (.goto (-63), 3) := by decide +kernel
theorem dX2_fewestBarriers_93 : decode cX2_fewestBarriers 93 = .ok (.bipush (-3), 2) := by decide +kernel
theorem dX2_fewestBarriers_95 : decode cX2_fewestBarriers 95 = .ok (.ireturn, 1) := by decide +kernel
theorem dX2_pipesApart_0 : decode cX2_pipesApart 0 = .ok (.iconst 1, 1) := by decide +kernel
theorem dX2_pipesApart_1 : decode cX2_pipesApart 1 = .ok (.iload_n 1, 1) := by decide +kernel
theorem dX2_pipesApart_2 : decode cX2_pipesApart 2 = .ok (.ishl, 1) := by decide +kernel
theorem dX2_pipesApart_3 : decode cX2_pipesApart 3 = .ok (.istore_n 3, 1) := by decide +kernel
theorem dX2_pipesApart_4 : decode cX2_pipesApart 4 = .ok (.iconst 0, 1) := by decide +kernel
theorem dX2_pipesApart_5 : decode cX2_pipesApart 5 = .ok (.istore 4, 2) := by decide +kernel
theorem dX2_pipesApart_7 : decode cX2_pipesApart 7 = .ok (.iload 4, 2) := by decide +kernel
theorem dX2_pipesApart_9 : decode cX2_pipesApart 9 = .ok (.bipush 10, 2) := by decide +kernel
theorem dX2_pipesApart_11 : decode cX2_pipesApart 11 = .ok (.if_icmp .ge 30, 3) := by decide +kernel
theorem dX2_pipesApart_14 : decode cX2_pipesApart 14 = .ok (.iload_n 3, 1) := by decide +kernel
theorem dX2_pipesApart_15 : decode cX2_pipesApart 15 = .ok (.iload_n 2, 1) := by decide +kernel
theorem dX2_pipesApart_16 : decode cX2_pipesApart 16 = .ok (.ishr, 1) := by decide +kernel
theorem dX2_pipesApart_17 : decode cX2_pipesApart 17 = .ok (.iconst 1, 1) := by decide +kernel
theorem dX2_pipesApart_18 : decode cX2_pipesApart 18 = .ok (.iand, 1) := by decide +kernel
theorem dX2_pipesApart_19 : decode cX2_pipesApart 19 = .ok (.ifCond .eq 6, 3) := by decide +kernel
theorem dX2_pipesApart_22 : decode cX2_pipesApart 22 = .ok (.iload 4, 2) := by decide +kernel
theorem dX2_pipesApart_24 : decode cX2_pipesApart 24 = .ok (.ireturn, 1) := by decide +kernel
theorem dX2_pipesApart_25 : decode cX2_pipesApart 25 = .ok (.aload_n 0, 1) := by decide +kernel
theorem dX2_pipesApart_26 : decode cX2_pipesApart 26 = .ok (.iload_n 3, 1) := by decide +kernel
theorem dX2_pipesApart_27 : decode cX2_pipesApart 27 = .ok (.aload_n 0, 1) := by decide +kernel
theorem dX2_pipesApart_28 : decode cX2_pipesApart 28 = .ok (.invokevirtual 58, 3) := by decide +kernel
theorem dX2_pipesApart_31 : decode cX2_pipesApart 31 = .ok (.invokevirtual 55, 3) := by decide +kernel
theorem dX2_pipesApart_34 : decode cX2_pipesApart 34 = .ok (.istore_n 3, 1) := by decide +kernel
theorem dX2_pipesApart_35 : decode cX2_pipesApart 35 = .ok (.iinc 4 1, 3) := by decide +kernel
theorem dX2_pipesApart_38 : decode cX2_pipesApart 38 = .ok (.goto (-31), 3) := by decide +kernel
theorem dX2_pipesApart_41 : decode cX2_pipesApart 41 = .ok (.bipush (-3), 2) := by decide +kernel
theorem dX2_pipesApart_43 : decode cX2_pipesApart 43 = .ok (.ireturn, 1) := by decide +kernel
theorem dX2_hoursOf_0 : decode cX2_hoursOf 0 = .ok (.iconst 1, 1) := by decide +kernel
theorem dX2_hoursOf_1 : decode cX2_hoursOf 1 = .ok (.iload_n 1, 1) := by decide +kernel
theorem dX2_hoursOf_2 : decode cX2_hoursOf 2 = .ok (.aload_n 0, 1) := by decide +kernel
theorem dX2_hoursOf_3 : decode cX2_hoursOf 3 = .ok (.getfield 34, 3) := by decide +kernel
theorem dX2_hoursOf_6 : decode cX2_hoursOf 6 = .ok (.iand, 1) := by decide +kernel
theorem dX2_hoursOf_7 : decode cX2_hoursOf 7 = .ok (.invokestatic 62, 3) := by decide +kernel
theorem dX2_hoursOf_10 : decode cX2_hoursOf 10 = .ok (.imul, 1) := by decide +kernel
theorem dX2_hoursOf_11 : decode cX2_hoursOf 11 = .ok (.iconst 3, 1) := by decide +kernel
theorem dX2_hoursOf_12 : decode cX2_hoursOf 12 = .ok (.iload_n 1, 1) := by decide +kernel
theorem dX2_hoursOf_13 : decode cX2_hoursOf 13 = .ok (.aload_n 0, 1) := by decide +kernel
theorem dX2_hoursOf_14 : decode cX2_hoursOf 14 = .ok (.getfield 37, 3) := by decide +kernel
theorem dX2_hoursOf_17 : decode cX2_hoursOf 17 = .ok (.iand, 1) := by decide +kernel
theorem dX2_hoursOf_18 : decode cX2_hoursOf 18 = .ok (.invokestatic 62, 3) := by decide +kernel
theorem dX2_hoursOf_21 : decode cX2_hoursOf 21 = .ok (.imul, 1) := by decide +kernel
theorem dX2_hoursOf_22 : decode cX2_hoursOf 22 = .ok (.iadd, 1) := by decide +kernel
theorem dX2_hoursOf_23 : decode cX2_hoursOf 23 = .ok (.ireturn, 1) := by decide +kernel
theorem dX2_leastSetFor_0 : decode cX2_leastSetFor 0 = .ok (.aload_n 0, 1) := by decide +kernel
theorem dX2_leastSetFor_1 : decode cX2_leastSetFor 1 = .ok (.iload_n 1, 1) := by decide +kernel
theorem dX2_leastSetFor_2 : decode cX2_leastSetFor 2 = .ok (.iconst 0, 1) := by decide +kernel
theorem dX2_leastSetFor_3 : decode cX2_leastSetFor 3 = .ok (.aload_n 0, 1) := by decide +kernel
theorem dX2_leastSetFor_4 : decode cX2_leastSetFor 4 = .ok (.invokevirtual 58, 3) := by decide +kernel
theorem dX2_leastSetFor_7 : decode cX2_leastSetFor 7 = .ok (.iload_n 2, 1) := by decide +kernel
theorem dX2_leastSetFor_8 : decode cX2_leastSetFor 8 = .ok (.invokevirtual 67, 3) := by decide +kernel
theorem dX2_leastSetFor_11 : decode cX2_leastSetFor 11 = .ok (.ifCond .eq 5, 3) := by decide +kernel
theorem dX2_leastSetFor_14 : decode cX2_leastSetFor 14 = .ok (.iconst 0, 1) := by decide +kernel
theorem dX2_leastSetFor_15 : decode cX2_leastSetFor 15 = .ok (.ireturn, 1) := by decide +kernel
theorem dX2_leastSetFor_16 : decode cX2_leastSetFor 16 = .ok (.aload_n 0, 1) := by decide +kernel
theorem dX2_leastSetFor_17 : decode cX2_leastSetFor 17 = .ok (.iload_n 1, 1) := by decide +kernel
theorem dX2_leastSetFor_18 : decode cX2_leastSetFor 18 = .ok (.aload_n 0, 1) := by decide +kernel
theorem dX2_leastSetFor_19 : decode cX2_leastSetFor 19 = .ok (.invokevirtual 71, 3) := by decide +kernel
theorem dX2_leastSetFor_22 : decode cX2_leastSetFor 22 = .ok (.aload_n 0, 1) := by decide +kernel
theorem dX2_leastSetFor_23 : decode cX2_leastSetFor 23 = .ok (.invokevirtual 58, 3) := by decide +kernel
theorem dX2_leastSetFor_26 : decode cX2_leastSetFor 26 = .ok (.iload_n 2, 1) := by decide +kernel
theorem dX2_leastSetFor_27 : decode cX2_leastSetFor 27 = .ok (.invokevirtual 67, 3) := by decide +kernel
theorem dX2_leastSetFor_30 : decode cX2_leastSetFor 30 = .ok (.ifCond .ne 6, 3) := by decide +kernel
theorem dX2_leastSetFor_33 : decode cX2_leastSetFor 33 = .ok (.bipush (-3), 2) := by decide +kernel
theorem dX2_leastSetFor_35 : decode cX2_leastSetFor 35 = .ok (.ireturn, 1) := by decide +kernel
theorem dX2_leastSetFor_36 : decode cX2_leastSetFor 36 = .ok (.aload_n 0, 1) := by decide +kernel
theorem dX2_leastSetFor_37 : decode cX2_leastSetFor 37 = .ok (.iload_n 1, 1) := by decide +kernel
theorem dX2_leastSetFor_38 : decode cX2_leastSetFor 38 = .ok (.iload_n 2, 1) := by decide +kernel
theorem dX2_leastSetFor_39 : decode cX2_leastSetFor 39 = .ok (.iconst 0, 1) := by decide +kernel
theorem dX2_leastSetFor_40 : decode cX2_leastSetFor 40 = .ok (.iconst 0, 1) := by decide +kernel
theorem dX2_leastSetFor_41 : decode cX2_leastSetFor 41 = .ok (.aload_n 0, 1) := by decide +kernel
theorem dX2_leastSetFor_42 : decode cX2_leastSetFor 42 = .ok (.iload_n 1, 1) := by decide +kernel
theorem dX2_leastSetFor_43 : decode cX2_leastSetFor 43 = .ok (.iload_n 2, 1) := by decide +kernel
theorem dX2_leastSetFor_44 : decode cX2_leastSetFor 44 = .ok (.invokevirtual 74, 3) := by decide +kernel
theorem dX2_leastSetFor_47 : decode cX2_leastSetFor 47 = .ok (.invokestatic 77, 3) := by decide +kernel
theorem dX2_leastSetFor_50 : decode cX2_leastSetFor 50 = .ok (.ireturn, 1) := by decide +kernel
theorem dX2_thinned_0 : decode cX2_thinned 0 = .ok (.aload_n 0, 1) := by decide +kernel
theorem dX2_thinned_1 : decode cX2_thinned 1 = .ok (.invokevirtual 71, 3) := by decide +kernel
theorem dX2_thinned_4 : decode cX2_thinned 4 = .ok (.istore_n 3, 1) := by decide +kernel
theorem dX2_thinned_5 : decode cX2_thinned 5 = .ok (.aload_n 0, 1) := by decide +kernel
theorem dX2_thinned_6 : decode cX2_thinned 6 = .ok (.getfield 30, 3) := by decide +kernel
theorem dX2_thinned_9 : decode cX2_thinned 9 = .ok (.iconst 1, 1) := by decide +kernel
theorem dX2_thinned_10 : decode cX2_thinned 10 = .ok (.isub, 1) := by decide +kernel
theorem dX2_thinned_11 : decode cX2_thinned 11 = .ok (.istore 4, 2) := by decide +kernel
theorem dX2_thinned_13 : decode cX2_thinned 13 = .ok (.iload 4, 2) := by decide +kernel
theorem dX2_thinned_15 : decode cX2_thinned 15 = .ok (.ifCond .lt 43, 3) := by decide +kernel
theorem dX2_thinned_18 : decode cX2_thinned 18 = .ok (.iload_n 3, 1) := by decide +kernel
theorem dX2_thinned_19 : decode cX2_thinned 19 = .ok (.iconst 1, 1) := by decide +kernel
theorem dX2_thinned_20 : decode cX2_thinned 20 = .ok (.iload 4, 2) := by decide +kernel
theorem dX2_thinned_22 : decode cX2_thinned 22 = .ok (.ishl, 1) := by decide +kernel
theorem dX2_thinned_23 : decode cX2_thinned 23 = .ok (.iconst (-1), 1) := by decide +kernel
theorem dX2_thinned_24 : decode cX2_thinned 24 = .ok (.ixor, 1) := by decide +kernel
theorem dX2_thinned_25 : decode cX2_thinned 25 = .ok (.iand, 1) := by decide +kernel
theorem dX2_thinned_26 : decode cX2_thinned 26 = .ok (.istore 5, 2) := by decide +kernel
theorem dX2_thinned_28 : decode cX2_thinned 28 = .ok (.iload 5, 2) := by decide +kernel
theorem dX2_thinned_30 : decode cX2_thinned 30 = .ok (.iload_n 3, 1) := by decide +kernel
theorem dX2_thinned_31 : decode cX2_thinned 31 = .ok (.if_icmp .eq 21, 3) := by decide +kernel
theorem dX2_thinned_34 : decode cX2_thinned 34 = .ok (.aload_n 0, 1) := by decide +kernel
theorem dX2_thinned_35 : decode cX2_thinned 35 = .ok (.iload_n 1, 1) := by decide +kernel
theorem dX2_thinned_36 : decode cX2_thinned 36 = .ok (.iload 5, 2) := by decide +kernel
theorem dX2_thinned_38 : decode cX2_thinned 38 = .ok (.aload_n 0, 1) := by decide +kernel
theorem dX2_thinned_39 : decode cX2_thinned 39 = .ok (.invokevirtual 58, 3) := by decide +kernel
theorem dX2_thinned_42 : decode cX2_thinned 42 = .ok (.iload_n 2, 1) := by decide +kernel
theorem dX2_thinned_43 : decode cX2_thinned 43 = .ok (.invokevirtual 67, 3) := by decide +kernel
theorem dX2_thinned_46 : decode cX2_thinned 46 = .ok (.ifCond .eq 6, 3) := by decide +kernel
theorem dX2_thinned_49 : decode cX2_thinned 49 = .ok (.iload 5, 2) := by decide +kernel
theorem dX2_thinned_51 : decode cX2_thinned 51 = .ok (.istore_n 3, 1) := by decide +kernel
theorem dX2_thinned_52 : decode cX2_thinned 52 = .ok (.iinc 4 (-1), 3) := by decide +kernel
theorem dX2_thinned_55 : decode cX2_thinned 55 = .ok (.goto (-42), 3) := by decide +kernel
theorem dX2_thinned_58 : decode cX2_thinned 58 = .ok (.iload_n 3, 1) := by decide +kernel
theorem dX2_thinned_59 : decode cX2_thinned 59 = .ok (.ireturn, 1) := by decide +kernel
theorem dX2_leastSetFrom_0 : decode cX2_leastSetFrom 0 = .ok (.iload 5, 2) := by decide +kernel
theorem dX2_leastSetFrom_2 : decode cX2_leastSetFrom 2 = .ok (.istore 6, 2) := by decide +kernel
theorem dX2_leastSetFrom_4 : decode cX2_leastSetFrom 4 = .ok (.iload 4, 2) := by decide +kernel
theorem dX2_leastSetFrom_6 : decode cX2_leastSetFrom 6 = .ok (.istore 7, 2) := by decide +kernel
theorem dX2_leastSetFrom_8 : decode cX2_leastSetFrom 8 = .ok (.iload 7, 2) := by decide +kernel
theorem dX2_leastSetFrom_10 : decode cX2_leastSetFrom 10 = .ok (.aload_n 0, 1) := by decide +kernel
theorem dX2_leastSetFrom_11 : decode cX2_leastSetFrom 11 = .ok (.getfield 30, 3) := by decide +kernel
theorem dX2_leastSetFrom_14 : decode cX2_leastSetFrom 14 = .ok (.if_icmp .ge 153, 3) := by decide +kernel
theorem dX2_leastSetFrom_17 : decode cX2_leastSetFrom 17 = .ok (.aload_n 0, 1) := by decide +kernel
theorem dX2_leastSetFrom_18 : decode cX2_leastSetFrom 18 = .ok (.iload_n 3, 1) := by decide +kernel
theorem dX2_leastSetFrom_19 : decode cX2_leastSetFrom 19 = .ok (.invokevirtual 81, 3) := by decide +kernel
theorem dX2_leastSetFrom_22 : decode cX2_leastSetFrom 22 = .ok (.aload_n 0, 1) := by decide +kernel
theorem dX2_leastSetFrom_23 : decode cX2_leastSetFrom 23 = .ok (.iload 6, 2) := by decide +kernel
theorem dX2_leastSetFrom_25 : decode cX2_leastSetFrom 25 = .ok (.invokevirtual 81, 3) := by decide +kernel
theorem dX2_leastSetFrom_28 : decode cX2_leastSetFrom 28 = .ok (.if_icmp .ge 139, 3) := by decide +kernel
theorem dX2_leastSetFrom_31 : decode cX2_leastSetFrom 31 = .ok (.iload_n 3, 1) := by decide +kernel
theorem dX2_leastSetFrom_32 : decode cX2_leastSetFrom 32 = .ok (.iconst 1, 1) := by decide +kernel
theorem dX2_leastSetFrom_33 : decode cX2_leastSetFrom 33 = .ok (.iload 7, 2) := by decide +kernel
theorem dX2_leastSetFrom_35 : decode cX2_leastSetFrom 35 = .ok (.ishl, 1) := by decide +kernel
theorem dX2_leastSetFrom_36 : decode cX2_leastSetFrom 36 = .ok (.aload_n 0, 1) := by decide +kernel
theorem dX2_leastSetFrom_37 : decode cX2_leastSetFrom 37 = .ok (.invokevirtual 71, 3) := by decide +kernel
theorem dX2_leastSetFrom_40 : decode cX2_leastSetFrom 40 = .ok (.iand, 1) := by decide +kernel
theorem dX2_leastSetFrom_41 : decode cX2_leastSetFrom 41 = .ok (.ior, 1) := by decide +kernel
theorem dX2_leastSetFrom_42 : decode cX2_leastSetFrom 42 = .ok (.istore 8, 2) := by decide +kernel
theorem dX2_leastSetFrom_44 : decode cX2_leastSetFrom 44 = .ok (.aload_n 0, 1) := by decide +kernel
theorem dX2_leastSetFrom_45 : decode cX2_leastSetFrom 45 = .ok (.iload 6, 2) := by decide +kernel
theorem dX2_leastSetFrom_47 : decode cX2_leastSetFrom 47 = .ok (.invokevirtual 81, 3) := by decide +kernel
theorem dX2_leastSetFrom_50 : decode cX2_leastSetFrom 50 = .ok (.aload_n 0, 1) := by decide +kernel
theorem dX2_leastSetFrom_51 : decode cX2_leastSetFrom 51 = .ok (.iload 8, 2) := by decide +kernel
theorem dX2_leastSetFrom_53 : decode cX2_leastSetFrom 53 = .ok (.invokevirtual 81, 3) := by decide +kernel
theorem dX2_leastSetFrom_56 : decode cX2_leastSetFrom 56 = .ok (.isub, 1) := by decide +kernel
theorem dX2_leastSetFrom_57 : decode cX2_leastSetFrom 57 = .ok (.istore 9, 2) := by decide +kernel
theorem dX2_leastSetFrom_59 : decode cX2_leastSetFrom 59 = .ok (.iload 8, 2) := by decide +kernel
theorem dX2_leastSetFrom_61 : decode cX2_leastSetFrom 61 = .ok (.iload_n 3, 1) := by decide +kernel
theorem dX2_leastSetFrom_62 : decode cX2_leastSetFrom 62 = .ok (.if_icmp .eq 67, 3) := by decide +kernel
theorem dX2_leastSetFrom_65 : decode cX2_leastSetFrom 65 = .ok (.iload 9, 2) := by decide +kernel
theorem dX2_leastSetFrom_67 : decode cX2_leastSetFrom 67 = .ok (.ifCond .lt 62, 3) := by decide +kernel
theorem dX2_leastSetFrom_70 : decode cX2_leastSetFrom 70 = .ok (.aload_n 0, 1) := by decide +kernel
theorem dX2_leastSetFrom_71 : decode cX2_leastSetFrom 71 = .ok (.iload_n 1, 1) := by decide +kernel
theorem dX2_leastSetFrom_72 : decode cX2_leastSetFrom 72 = .ok (.iload 8, 2) := by decide +kernel
theorem dX2_leastSetFrom_74 : decode cX2_leastSetFrom 74 = .ok (.aload_n 0, 1) := by decide +kernel
theorem dX2_leastSetFrom_75 : decode cX2_leastSetFrom 75 = .ok (.invokevirtual 58, 3) := by decide +kernel
theorem dX2_leastSetFrom_78 : decode cX2_leastSetFrom 78 = .ok (.iload_n 2, 1) := by decide +kernel
theorem dX2_leastSetFrom_79 : decode cX2_leastSetFrom 79 = .ok (.invokevirtual 67, 3) := by decide +kernel
theorem dX2_leastSetFrom_82 : decode cX2_leastSetFrom 82 = .ok (.ifCond .eq 26, 3) := by decide +kernel
theorem dX2_leastSetFrom_85 : decode cX2_leastSetFrom 85 = .ok (.aload_n 0, 1) := by decide +kernel
theorem dX2_leastSetFrom_86 : decode cX2_leastSetFrom 86 = .ok (.iload 8, 2) := by decide +kernel
theorem dX2_leastSetFrom_88 : decode cX2_leastSetFrom 88 = .ok (.iload 6, 2) := by decide +kernel
theorem dX2_leastSetFrom_90 : decode cX2_leastSetFrom 90 = .ok (.invokevirtual 84, 3) := by decide +kernel
theorem dX2_leastSetFrom_93 : decode cX2_leastSetFrom 93 = .ok (.ifCond .eq 8, 3) := by decide +kernel
theorem dX2_leastSetFrom_96 : decode cX2_leastSetFrom 96 = .ok (.iload 8, 2) := by decide +kernel
theorem dX2_leastSetFrom_98 : decode cX2_leastSetFrom 98 = .ok (.goto 5, 3) := by decide +kernel
theorem dX2_leastSetFrom_101 : decode cX2_leastSetFrom 101 = .ok (.iload 6, 2) := by decide +kernel
theorem dX2_leastSetFrom_103 : decode cX2_leastSetFrom 103 = .ok (.istore 6, 2) := by decide +kernel
theorem dX2_leastSetFrom_105 : decode cX2_leastSetFrom 105 = .ok (.goto 24, 3) := by decide +kernel
theorem dX2_leastSetFrom_108 : decode cX2_leastSetFrom 108 = .ok (.iload 9, 2) := by decide +kernel
theorem dX2_leastSetFrom_110 : decode cX2_leastSetFrom 110 = .ok (.ifCond .le 19, 3) := by decide +kernel
theorem dX2_leastSetFrom_113 : decode cX2_leastSetFrom 113 = .ok (.aload_n 0, 1) := by decide +kernel
theorem dX2_leastSetFrom_114 : decode cX2_leastSetFrom 114 = .ok (.iload_n 1, 1) := by decide +kernel
theorem dX2_leastSetFrom_115 : decode cX2_leastSetFrom 115 = .ok (.iload_n 2, 1) := by decide +kernel
theorem dX2_leastSetFrom_116 : decode cX2_leastSetFrom 116 = .ok (.iload 8, 2) := by decide +kernel
theorem dX2_leastSetFrom_118 : decode cX2_leastSetFrom 118 = .ok (.iload 7, 2) := by decide +kernel
theorem dX2_leastSetFrom_120 : decode cX2_leastSetFrom 120 = .ok (.iconst 1, 1) := by decide +kernel
theorem dX2_leastSetFrom_121 : decode cX2_leastSetFrom 121 = .ok (.iadd, 1) := by decide +kernel
theorem dX2_leastSetFrom_122 : decode cX2_leastSetFrom 122 = .ok (.iload 6, 2) := by decide +kernel
theorem dX2_leastSetFrom_124 : decode cX2_leastSetFrom 124 = .ok (.invokestatic 77, 3) := by decide +kernel
theorem dX2_leastSetFrom_127 : decode cX2_leastSetFrom 127 = .ok (.istore 6, 2) := by decide +kernel
theorem dX2_leastSetFrom_129 : decode cX2_leastSetFrom 129 = .ok (.aload_n 0, 1) := by decide +kernel
theorem dX2_leastSetFrom_130 : decode cX2_leastSetFrom 130 = .ok (.invokevirtual 71, 3) := by decide +kernel
theorem dX2_leastSetFrom_133 : decode cX2_leastSetFrom 133 = .ok (.bipush (-2), 2) := by decide +kernel
theorem dX2_leastSetFrom_135 : decode cX2_leastSetFrom 135 = .ok (.iload 7, 2) := by decide +kernel
theorem dX2_leastSetFrom_137 : decode cX2_leastSetFrom 137 = .ok (.ishl, 1) := by decide +kernel
theorem dX2_leastSetFrom_138 : decode cX2_leastSetFrom 138 = .ok (.iand, 1) := by decide +kernel
theorem dX2_leastSetFrom_139 : decode cX2_leastSetFrom 139 = .ok (.istore 10, 2) := by decide +kernel
theorem dX2_leastSetFrom_141 : decode cX2_leastSetFrom 141 = .ok (.aload_n 0, 1) := by decide +kernel
theorem dX2_leastSetFrom_142 : decode cX2_leastSetFrom 142 = .ok (.iload_n 1, 1) := by decide +kernel
theorem dX2_leastSetFrom_143 : decode cX2_leastSetFrom 143 = .ok (.iload_n 3, 1) := by decide +kernel
theorem dX2_leastSetFrom_144 : decode cX2_leastSetFrom 144 = .ok (.iload 10, 2) := by decide +kernel
theorem dX2_leastSetFrom_146 : decode cX2_leastSetFrom 146 = .ok (.ior, 1) := by decide +kernel
theorem dX2_leastSetFrom_147 : decode cX2_leastSetFrom 147 = .ok (.aload_n 0, 1) := by decide +kernel
theorem dX2_leastSetFrom_148 : decode cX2_leastSetFrom 148 = .ok (.invokevirtual 58, 3) := by decide +kernel
theorem dX2_leastSetFrom_151 : decode cX2_leastSetFrom 151 = .ok (.iload_n 2, 1) := by decide +kernel
theorem dX2_leastSetFrom_152 : decode cX2_leastSetFrom 152 = .ok (.invokevirtual 67, 3) := by decide +kernel
theorem dX2_leastSetFrom_155 : decode cX2_leastSetFrom 155 = .ok (.ifCond .ne 6, 3) := by decide +kernel
theorem dX2_leastSetFrom_158 : decode cX2_leastSetFrom 158 = .ok (.goto 9, 3) := by decide +kernel
theorem dX2_leastSetFrom_161 : decode cX2_leastSetFrom 161 = .ok (.iinc 7 1, 3) := by decide +kernel
theorem dX2_leastSetFrom_164 : decode cX2_leastSetFrom 164 = .ok (.goto (-156), 3) := by decide +kernel
theorem dX2_leastSetFrom_167 : decode cX2_leastSetFrom 167 = .ok (.iload 6, 2) := by decide +kernel
theorem dX2_leastSetFrom_169 : decode cX2_leastSetFrom 169 = .ok (.ireturn, 1) := by decide +kernel
theorem dX2_isBetter_0 : decode cX2_isBetter 0 = .ok (.aload_n 0, 1) := by decide +kernel
theorem dX2_isBetter_1 : decode cX2_isBetter 1 = .ok (.iload_n 1, 1) := by decide +kernel
theorem dX2_isBetter_2 : decode cX2_isBetter 2 = .ok (.invokevirtual 81, 3) := by decide +kernel
theorem dX2_isBetter_5 : decode cX2_isBetter 5 = .ok (.aload_n 0, 1) := by decide +kernel
theorem dX2_isBetter_6 : decode cX2_isBetter 6 = .ok (.iload_n 2, 1) := by decide +kernel
theorem dX2_isBetter_7 : decode cX2_isBetter 7 = .ok (.invokevirtual 81, 3) := by decide +kernel
theorem dX2_isBetter_10 : decode cX2_isBetter 10 = .ok (.if_icmp .eq 22, 3) := by decide +kernel
theorem dX2_isBetter_13 : decode cX2_isBetter 13 = .ok (.aload_n 0, 1) := by decide +kernel
theorem dX2_isBetter_14 : decode cX2_isBetter 14 = .ok (.iload_n 1, 1) := by decide +kernel
theorem dX2_isBetter_15 : decode cX2_isBetter 15 = .ok (.invokevirtual 81, 3) := by decide +kernel
theorem dX2_isBetter_18 : decode cX2_isBetter 18 = .ok (.aload_n 0, 1) := by decide +kernel
theorem dX2_isBetter_19 : decode cX2_isBetter 19 = .ok (.iload_n 2, 1) := by decide +kernel
theorem dX2_isBetter_20 : decode cX2_isBetter 20 = .ok (.invokevirtual 81, 3) := by decide +kernel
theorem dX2_isBetter_23 : decode cX2_isBetter 23 = .ok (.if_icmp .ge 7, 3) := by decide +kernel
theorem dX2_isBetter_26 : decode cX2_isBetter 26 = .ok (.iconst 1, 1) := by decide +kernel
theorem dX2_isBetter_27 : decode cX2_isBetter 27 = .ok (.goto 4, 3) := by decide +kernel
theorem dX2_isBetter_30 : decode cX2_isBetter 30 = .ok (.iconst 0, 1) := by decide +kernel
theorem dX2_isBetter_31 : decode cX2_isBetter 31 = .ok (.ireturn, 1) := by decide +kernel
theorem dX2_isBetter_32 : decode cX2_isBetter 32 = .ok (.iload_n 1, 1) := by decide +kernel
theorem dX2_isBetter_33 : decode cX2_isBetter 33 = .ok (.invokestatic 62, 3) := by decide +kernel
theorem dX2_isBetter_36 : decode cX2_isBetter 36 = .ok (.iload_n 2, 1) := by decide +kernel
theorem dX2_isBetter_37 : decode cX2_isBetter 37 = .ok (.invokestatic 62, 3) := by decide +kernel
theorem dX2_isBetter_40 : decode cX2_isBetter 40 = .ok (.if_icmp .eq 20, 3) := by decide +kernel
theorem dX2_isBetter_43 : decode cX2_isBetter 43 = .ok (.iload_n 1, 1) := by decide +kernel
theorem dX2_isBetter_44 : decode cX2_isBetter 44 = .ok (.invokestatic 62, 3) := by decide +kernel
theorem dX2_isBetter_47 : decode cX2_isBetter 47 = .ok (.iload_n 2, 1) := by decide +kernel
theorem dX2_isBetter_48 : decode cX2_isBetter 48 = .ok (.invokestatic 62, 3) := by decide +kernel
theorem dX2_isBetter_51 : decode cX2_isBetter 51 = .ok (.if_icmp .ge 7, 3) := by decide +kernel
theorem dX2_isBetter_54 : decode cX2_isBetter 54 = .ok (.iconst 1, 1) := by decide +kernel
theorem dX2_isBetter_55 : decode cX2_isBetter 55 = .ok (.goto 4, 3) := by decide +kernel
theorem dX2_isBetter_58 : decode cX2_isBetter 58 = .ok (.iconst 0, 1) := by decide +kernel
theorem dX2_isBetter_59 : decode cX2_isBetter 59 = .ok (.ireturn, 1) := by decide +kernel
theorem dX2_isBetter_60 : decode cX2_isBetter 60 = .ok (.iload_n 1, 1) := by decide +kernel
theorem dX2_isBetter_61 : decode cX2_isBetter 61 = .ok (.iload_n 2, 1) := by decide +kernel
theorem dX2_isBetter_62 : decode cX2_isBetter 62 = .ok (.ixor, 1) := by decide +kernel
theorem dX2_isBetter_63 : decode cX2_isBetter 63 = .ok (.istore_n 3, 1) := by decide +kernel
theorem dX2_isBetter_64 : decode cX2_isBetter 64 = .ok (.iload_n 3, 1) := by decide +kernel
theorem dX2_isBetter_65 : decode cX2_isBetter 65 = .ok (.iload_n 3, 1) := by decide +kernel
theorem dX2_isBetter_66 : decode cX2_isBetter 66 = .ok (.ineg, 1) := by decide +kernel
theorem dX2_isBetter_67 : decode cX2_isBetter 67 = .ok (.iand, 1) := by decide +kernel
theorem dX2_isBetter_68 : decode cX2_isBetter 68 = .ok (.istore 4, 2) := by decide +kernel
theorem dX2_isBetter_70 : decode cX2_isBetter 70 = .ok (.iload_n 1, 1) := by decide +kernel
theorem dX2_isBetter_71 : decode cX2_isBetter 71 = .ok (.iload 4, 2) := by decide +kernel
theorem dX2_isBetter_73 : decode cX2_isBetter 73 = .ok (.iand, 1) := by decide +kernel
theorem dX2_isBetter_74 : decode cX2_isBetter 74 = .ok (.ifCond .eq 7, 3) := by decide +kernel
theorem dX2_isBetter_77 : decode cX2_isBetter 77 = .ok (.iconst 1, 1) := by decide +kernel
theorem dX2_isBetter_78 : decode cX2_isBetter 78 = .ok (.goto 4, 3) := by decide +kernel
theorem dX2_isBetter_81 : decode cX2_isBetter 81 = .ok (.iconst 0, 1) := by decide +kernel
theorem dX2_isBetter_82 : decode cX2_isBetter 82 = .ok (.ireturn, 1) := by decide +kernel
theorem dX3_init_0 : decode cX3_init 0 = .ok (.aload_n 0, 1) := by decide +kernel
theorem dX3_init_1 : decode cX3_init 1 = .ok (.invokespecial 3, 3) := by decide +kernel
theorem dX3_init_4 : decode cX3_init 4 = .ok (.aload_n 0, 1) := by decide +kernel
theorem dX3_init_5 : decode cX3_init 5 = .ok (.bipush 7, 2) := by decide +kernel
theorem dX3_init_7 : decode cX3_init 7 = .ok (.newarray .int, 2) := by decide +kernel
theorem dX3_init_9 : decode cX3_init 9 = .ok (.putfield 9, 3) := by decide +kernel
theorem dX3_init_12 : decode cX3_init 12 = .ok (.aload_n 0, 1) := by decide +kernel
theorem dX3_init_13 : decode cX3_init 13 = .ok (.bipush 7, 2) := by decide +kernel
theorem dX3_init_15 : decode cX3_init 15 = .ok (.newarray .int, 2) := by decide +kernel
theorem dX3_init_17 : decode cX3_init 17 = .ok (.putfield 15, 3) := by decide +kernel
theorem dX3_init_20 : decode cX3_init 20 = .ok (.aload_n 0, 1) := by decide +kernel
theorem dX3_init_21 : decode cX3_init 21 = .ok (.bipush 7, 2) := by decide +kernel
theorem dX3_init_23 : decode cX3_init 23 = .ok (.newarray .int, 2) := by decide +kernel
theorem dX3_init_25 : decode cX3_init 25 = .ok (.putfield 18, 3) := by decide +kernel
theorem dX3_init_28 : decode cX3_init 28 = .ok (.aload_n 0, 1) := by decide +kernel
theorem dX3_init_29 : decode cX3_init 29 = .ok (.bipush 7, 2) := by decide +kernel
theorem dX3_init_31 : decode cX3_init 31 = .ok (.newarray .int, 2) := by decide +kernel
theorem dX3_init_33 : decode cX3_init 33 = .ok (.putfield 21, 3) := by decide +kernel
theorem dX3_init_36 : decode cX3_init 36 = .ok (.aload_n 0, 1) := by decide +kernel
theorem dX3_init_37 : decode cX3_init 37 = .ok (.bipush 7, 2) := by decide +kernel
theorem dX3_init_39 : decode cX3_init 39 = .ok (.newarray .int, 2) := by decide +kernel
theorem dX3_init_41 : decode cX3_init 41 = .ok (.putfield 24, 3) := by decide +kernel
theorem dX3_init_44 : decode cX3_init 44 = .ok (.aload_n 0, 1) := by decide +kernel
theorem dX3_init_45 : decode cX3_init 45 = .ok (.bipush 7, 2) := by decide +kernel
theorem dX3_init_47 : decode cX3_init 47 = .ok (.newarray .int, 2) := by decide +kernel
theorem dX3_init_49 : decode cX3_init 49 = .ok (.putfield 27, 3) := by decide +kernel
theorem dX3_init_52 : decode cX3_init 52 = .ok (.aload_n 0, 1) := by decide +kernel
theorem dX3_init_53 : decode cX3_init 53 = .ok (.bipush 7, 2) := by decide +kernel
theorem dX3_init_55 : decode cX3_init 55 = .ok (.newarray .int, 2) := by decide +kernel
theorem dX3_init_57 : decode cX3_init 57 = .ok (.putfield 30, 3) := by decide +kernel
theorem dX3_init_60 : decode cX3_init 60 = .ok (.aload_n 0, 1) := by decide +kernel
theorem dX3_init_61 : decode cX3_init 61 = .ok (.bipush 7, 2) := by decide +kernel
theorem dX3_init_63 : decode cX3_init 63 = .ok (.newarray .int, 2) := by decide +kernel
theorem dX3_init_65 : decode cX3_init 65 = .ok (.putfield 33, 3) := by decide +kernel
theorem dX3_init_68 : decode cX3_init 68 = .ok (.aload_n 0, 1) := by decide +kernel
theorem dX3_init_69 : decode cX3_init 69 = .ok (.iconst 0, 1) := by decide +kernel
theorem dX3_init_70 : decode cX3_init 70 = .ok (.putfield 36, 3) := by decide +kernel
theorem dX3_init_73 : decode cX3_init 73 = .ok (.return_, 1) := by decide +kernel
theorem dX3_write_0 : decode cX3_write 0 = .ok (.aload_n 0, 1) := by decide +kernel
theorem dX3_write_1 : decode cX3_write 1 = .ok (.getfield 36, 3) := by decide +kernel
theorem dX3_write_4 : decode cX3_write 4 = .ok (.istore 4, 2) := by decide +kernel
theorem dX3_write_6 : decode cX3_write 6 = .ok (.aload_n 0, 1) := by decide +kernel
theorem dX3_write_7 : decode cX3_write 7 = .ok (.getfield 9, 3) := by decide +kernel
theorem dX3_write_10 : decode cX3_write 10 = .ok (.iload 4, 2) := by decide +kernel
theorem dX3_write_12 : decode cX3_write 12 = .ok (.iload_n 1, 1) := by decide +kernel
theorem dX3_write_13 : decode cX3_write 13 = .ok (.iastore, 1) := by decide +kernel
theorem dX3_write_14 : decode cX3_write 14 = .ok (.aload_n 0, 1) := by decide +kernel
theorem dX3_write_15 : decode cX3_write 15 = .ok (.getfield 15, 3) := by decide +kernel
theorem dX3_write_18 : decode cX3_write 18 = .ok (.iload 4, 2) := by decide +kernel
theorem dX3_write_20 : decode cX3_write 20 = .ok (.iload_n 2, 1) := by decide +kernel
theorem dX3_write_21 : decode cX3_write 21 = .ok (.iastore, 1) := by decide +kernel
theorem dX3_write_22 : decode cX3_write 22 = .ok (.aload_n 0, 1) := by decide +kernel
theorem dX3_write_23 : decode cX3_write 23 = .ok (.getfield 18, 3) := by decide +kernel
theorem dX3_write_26 : decode cX3_write 26 = .ok (.iload 4, 2) := by decide +kernel
theorem dX3_write_28 : decode cX3_write 28 = .ok (.iload_n 3, 1) := by decide +kernel
theorem dX3_write_29 : decode cX3_write 29 = .ok (.iastore, 1) := by decide +kernel
theorem dX3_write_30 : decode cX3_write 30 = .ok (.aload_n 0, 1) := by decide +kernel
theorem dX3_write_31 : decode cX3_write 31 = .ok (.getfield 21, 3) := by decide +kernel
theorem dX3_write_34 : decode cX3_write 34 = .ok (.iload 4, 2) := by decide +kernel
theorem dX3_write_36 : decode cX3_write 36 = .ok (.iconst 0, 1) := by decide +kernel
theorem dX3_write_37 : decode cX3_write 37 = .ok (.iastore, 1) := by decide +kernel
theorem dX3_write_38 : decode cX3_write 38 = .ok (.aload_n 0, 1) := by decide +kernel
theorem dX3_write_39 : decode cX3_write 39 = .ok (.getfield 24, 3) := by decide +kernel
theorem dX3_write_42 : decode cX3_write 42 = .ok (.iload 4, 2) := by decide +kernel
theorem dX3_write_44 : decode cX3_write 44 = .ok (.iconst (-1), 1) := by decide +kernel
theorem dX3_write_45 : decode cX3_write 45 = .ok (.iastore, 1) := by decide +kernel
theorem dX3_write_46 : decode cX3_write 46 = .ok (.aload_n 0, 1) := by decide +kernel
theorem dX3_write_47 : decode cX3_write 47 = .ok (.getfield 27, 3) := by decide +kernel
theorem dX3_write_50 : decode cX3_write 50 = .ok (.iload 4, 2) := by decide +kernel
theorem dX3_write_52 : decode cX3_write 52 = .ok (.bipush (-3), 2) := by decide +kernel
theorem dX3_write_54 : decode cX3_write 54 = .ok (.iastore, 1) := by decide +kernel
theorem dX3_write_55 : decode cX3_write 55 = .ok (.aload_n 0, 1) := by decide +kernel
theorem dX3_write_56 : decode cX3_write 56 = .ok (.getfield 30, 3) := by decide +kernel
theorem dX3_write_59 : decode cX3_write 59 = .ok (.iload 4, 2) := by decide +kernel
theorem dX3_write_61 : decode cX3_write 61 = .ok (.bipush (-3), 2) := by decide +kernel
theorem dX3_write_63 : decode cX3_write 63 = .ok (.iastore, 1) := by decide +kernel
theorem dX3_write_64 : decode cX3_write 64 = .ok (.aload_n 0, 1) := by decide +kernel
theorem dX3_write_65 : decode cX3_write 65 = .ok (.getfield 33, 3) := by decide +kernel
theorem dX3_write_68 : decode cX3_write 68 = .ok (.iload 4, 2) := by decide +kernel
theorem dX3_write_70 : decode cX3_write 70 = .ok (.bipush (-3), 2) := by decide +kernel
theorem dX3_write_72 : decode cX3_write 72 = .ok (.iastore, 1) := by decide +kernel
theorem dX3_write_73 : decode cX3_write 73 = .ok (.aload_n 0, 1) := by decide +kernel
theorem dX3_write_74 : decode cX3_write 74 = .ok (.dup, 1) := by decide +kernel
theorem dX3_write_75 : decode cX3_write 75 = .ok (.getfield 36, 3) := by decide +kernel
theorem dX3_write_78 : decode cX3_write 78 = .ok (.iconst 1, 1) := by decide +kernel
theorem dX3_write_79 : decode cX3_write 79 = .ok (.iadd, 1) := by decide +kernel
theorem dX3_write_80 : decode cX3_write 80 = .ok (.putfield 36, 3) := by decide +kernel
theorem dX3_write_83 : decode cX3_write 83 = .ok (.iload 4, 2) := by decide +kernel
theorem dX3_write_85 : decode cX3_write 85 = .ok (.ireturn, 1) := by decide +kernel
theorem dX3_has_0 : decode cX3_has 0 = .ok (.iload_n 1, 1) := by decide +kernel
theorem dX3_has_1 : decode cX3_has 1 = .ok (.ifCond .lt 15, 3) := by decide +kernel
theorem dX3_has_4 : decode cX3_has 4 = .ok (.iload_n 1, 1) := by decide +kernel
theorem dX3_has_5 : decode cX3_has 5 = .ok (.aload_n 0, 1) := by decide +kernel
theorem dX3_has_6 : decode cX3_has 6 = .ok (.getfield 36, 3) := by decide +kernel
theorem dX3_has_9 : decode cX3_has 9 = .ok (.if_icmp .ge 7, 3) := by decide +kernel
theorem dX3_has_12 : decode cX3_has 12 = .ok (.iconst 1, 1) := by decide +kernel
theorem dX3_has_13 : decode cX3_has 13 = .ok (.goto 4, 3) := by decide +kernel
theorem dX3_has_16 : decode cX3_has 16 = .ok (.iconst 0, 1) := by decide +kernel
theorem dX3_has_17 : decode cX3_has 17 = .ok (.ireturn, 1) := by decide +kernel
theorem dX3_inState_0 : decode cX3_inState 0 = .ok (.iconst 0, 1) := by decide +kernel
theorem dX3_inState_1 : decode cX3_inState 1 = .ok (.istore_n 2, 1) := by decide +kernel
theorem dX3_inState_2 : decode cX3_inState 2 = .ok (.iconst 0, 1) := by decide +kernel
theorem dX3_inState_3 : decode cX3_inState 3 = .ok (.istore_n 3, 1) := by decide +kernel
theorem dX3_inState_4 : decode cX3_inState 4 = .ok (.iload_n 3, 1) := by decide +kernel
theorem dX3_inState_5 : decode cX3_inState 5 = .ok (.aload_n 0, 1) := by decide +kernel
theorem dX3_inState_6 : decode cX3_inState 6 = .ok (.getfield 36, 3) := by decide +kernel
theorem dX3_inState_9 : decode cX3_inState 9 = .ok (.if_icmp .ge 29, 3) := by decide +kernel
theorem dX3_inState_12 : decode cX3_inState 12 = .ok (.iload_n 2, 1) := by decide +kernel
theorem dX3_inState_13 : decode cX3_inState 13 = .ok (.aload_n 0, 1) := by decide +kernel
theorem dX3_inState_14 : decode cX3_inState 14 = .ok (.getfield 21, 3) := by decide +kernel
theorem dX3_inState_17 : decode cX3_inState 17 = .ok (.iload_n 3, 1) := by decide +kernel
theorem dX3_inState_18 : decode cX3_inState 18 = .ok (.iaload, 1) := by decide +kernel
theorem dX3_inState_19 : decode cX3_inState 19 = .ok (.iload_n 1, 1) := by decide +kernel
theorem dX3_inState_20 : decode cX3_inState 20 = .ok (.if_icmp .ne 9, 3) := by decide +kernel
theorem dX3_inState_23 : decode cX3_inState 23 = .ok (.iconst 1, 1) := by decide +kernel
theorem dX3_inState_24 : decode cX3_inState 24 = .ok (.iload_n 3, 1) := by decide +kernel
theorem dX3_inState_25 : decode cX3_inState 25 = .ok (.ishl, 1) := by decide +kernel
theorem dX3_inState_26 : decode cX3_inState 26 = .ok (.goto 4, 3) := by decide +kernel
theorem dX3_inState_29 : decode cX3_inState 29 = .ok (.iconst 0, 1) := by decide +kernel
theorem dX3_inState_30 : decode cX3_inState 30 = .ok (.ior, 1) := by decide +kernel
theorem dX3_inState_31 : decode cX3_inState 31 = .ok (.istore_n 2, 1) := by decide +kernel
theorem dX3_inState_32 : decode cX3_inState 32 = .ok (.iinc 3 1, 3) := by decide +kernel
theorem dX3_inState_35 : decode cX3_inState 35 = .ok (.goto (-31), 3) := by decide +kernel
theorem dX3_inState_38 : decode cX3_inState 38 = .ok (.iload_n 2, 1) := by decide +kernel
theorem dX3_inState_39 : decode cX3_inState 39 = .ok (.ireturn, 1) := by decide +kernel
theorem dX3_locksOf_0 : decode cX3_locksOf 0 = .ok (.aload_n 0, 1) := by decide +kernel
theorem dX3_locksOf_1 : decode cX3_locksOf 1 = .ok (.getfield 21, 3) := by decide +kernel
theorem dX3_locksOf_4 : decode cX3_locksOf 4 = .ok (.iload_n 1, 1) := by decide +kernel
theorem dX3_locksOf_5 : decode cX3_locksOf 5 = .ok (.iaload, 1) := by decide +kernel
theorem dX3_locksOf_6 : decode cX3_locksOf 6 = .ok (.iconst 1, 1) := by decide +kernel
theorem dX3_locksOf_7 : decode cX3_locksOf 7 = .ok (.if_icmp .lt 22, 3) := by decide +kernel
theorem dX3_locksOf_10 : decode cX3_locksOf 10 = .ok (.aload_n 0, 1) := by decide +kernel
theorem dX3_locksOf_11 : decode cX3_locksOf 11 = .ok (.getfield 21, 3) := by decide +kernel
theorem dX3_locksOf_14 : decode cX3_locksOf 14 = .ok (.iload_n 1, 1) := by decide +kernel
theorem dX3_locksOf_15 : decode cX3_locksOf 15 = .ok (.iaload, 1) := by decide +kernel
theorem dX3_locksOf_16 : decode cX3_locksOf 16 = .ok (.iconst 5, 1) := by decide +kernel
theorem dX3_locksOf_17 : decode cX3_locksOf 17 = .ok (.if_icmp .ge 12, 3) := by decide +kernel
theorem dX3_locksOf_20 : decode cX3_locksOf 20 = .ok (.aload_n 0, 1) := by decide +kernel
theorem dX3_locksOf_21 : decode cX3_locksOf 21 = .ok (.getfield 18, 3) := by decide +kernel
theorem dX3_locksOf_24 : decode cX3_locksOf 24 = .ok (.iload_n 1, 1) := by decide +kernel
theorem dX3_locksOf_25 : decode cX3_locksOf 25 = .ok (.iaload, 1) := by decide +kernel
theorem dX3_locksOf_26 : decode cX3_locksOf 26 = .ok (.goto 4, 3) := by decide +kernel
theorem dX3_locksOf_29 : decode cX3_locksOf 29 = .ok (.iconst 0, 1) := by decide +kernel
theorem dX3_locksOf_30 : decode cX3_locksOf 30 = .ok (.ireturn, 1) := by decide +kernel
theorem dX3_lockedPipes_0 : decode cX3_lockedPipes 0 = .ok (.iconst 0, 1) := by decide +kernel
theorem dX3_lockedPipes_1 : decode cX3_lockedPipes 1 = .ok (.istore_n 1, 1) := by decide +kernel
theorem dX3_lockedPipes_2 : decode cX3_lockedPipes 2 = .ok (.iconst 0, 1) := by decide +kernel
theorem dX3_lockedPipes_3 : decode cX3_lockedPipes 3 = .ok (.istore_n 2, 1) := by decide +kernel
theorem dX3_lockedPipes_4 : decode cX3_lockedPipes 4 = .ok (.iload_n 2, 1) := by decide +kernel
theorem dX3_lockedPipes_5 : decode cX3_lockedPipes 5 = .ok (.aload_n 0, 1) := by decide +kernel
theorem dX3_lockedPipes_6 : decode cX3_lockedPipes 6 = .ok (.getfield 36, 3) := by decide +kernel
theorem dX3_lockedPipes_9 : decode cX3_lockedPipes 9 = .ok (.if_icmp .ge 17, 3) := by decide +kernel
theorem dX3_lockedPipes_12 : decode cX3_lockedPipes 12 = .ok (.iload_n 1, 1) := by decide +kernel
theorem dX3_lockedPipes_13 : decode cX3_lockedPipes 13 = .ok (.aload_n 0, 1) := by decide +kernel
theorem dX3_lockedPipes_14 : decode cX3_lockedPipes 14 = .ok (.iload_n 2, 1) := by decide +kernel
theorem dX3_lockedPipes_15 : decode cX3_lockedPipes 15 = .ok (.invokevirtual 40, 3) := by decide +kernel
theorem dX3_lockedPipes_18 : decode cX3_lockedPipes 18 = .ok (.ior, 1) := by decide +kernel
theorem dX3_lockedPipes_19 : decode cX3_lockedPipes 19 = .ok (.istore_n 1, 1) := by decide +kernel
theorem dX3_lockedPipes_20 : decode cX3_lockedPipes 20 = .ok (.iinc 2 1, 3) := by decide +kernel
theorem dX3_lockedPipes_23 : decode cX3_lockedPipes 23 = .ok (.goto (-19), 3) := by decide +kernel
theorem dX3_lockedPipes_26 : decode cX3_lockedPipes 26 = .ok (.iload_n 1, 1) := by decide +kernel
theorem dX3_lockedPipes_27 : decode cX3_lockedPipes 27 = .ok (.ireturn, 1) := by decide +kernel
theorem dX3_locksOn_0 : decode cX3_locksOn 0 = .ok (.iconst 0, 1) := by decide +kernel
theorem dX3_locksOn_1 : decode cX3_locksOn 1 = .ok (.istore_n 2, 1) := by decide +kernel
theorem dX3_locksOn_2 : decode cX3_locksOn 2 = .ok (.iconst 0, 1) := by decide +kernel
theorem dX3_locksOn_3 : decode cX3_locksOn 3 = .ok (.istore_n 3, 1) := by decide +kernel
theorem dX3_locksOn_4 : decode cX3_locksOn 4 = .ok (.iload_n 3, 1) := by decide +kernel
theorem dX3_locksOn_5 : decode cX3_locksOn 5 = .ok (.aload_n 0, 1) := by decide +kernel
theorem dX3_locksOn_6 : decode cX3_locksOn 6 = .ok (.getfield 36, 3) := by decide +kernel
theorem dX3_locksOn_9 : decode cX3_locksOn 9 = .ok (.if_icmp .ge 21, 3) := by decide +kernel
theorem dX3_locksOn_12 : decode cX3_locksOn 12 = .ok (.iload_n 2, 1) := by decide +kernel
theorem dX3_locksOn_13 : decode cX3_locksOn 13 = .ok (.aload_n 0, 1) := by decide +kernel
theorem dX3_locksOn_14 : decode cX3_locksOn 14 = .ok (.iload_n 3, 1) := by decide +kernel
theorem dX3_locksOn_15 : decode cX3_locksOn 15 = .ok (.invokevirtual 40, 3) := by decide +kernel
theorem dX3_locksOn_18 : decode cX3_locksOn 18 = .ok (.iload_n 1, 1) := by decide +kernel
theorem dX3_locksOn_19 : decode cX3_locksOn 19 = .ok (.ishr, 1) := by decide +kernel
theorem dX3_locksOn_20 : decode cX3_locksOn 20 = .ok (.iconst 1, 1) := by decide +kernel
theorem dX3_locksOn_21 : decode cX3_locksOn 21 = .ok (.iand, 1) := by decide +kernel
theorem dX3_locksOn_22 : decode cX3_locksOn 22 = .ok (.iadd, 1) := by decide +kernel
theorem dX3_locksOn_23 : decode cX3_locksOn 23 = .ok (.istore_n 2, 1) := by decide +kernel
theorem dX3_locksOn_24 : decode cX3_locksOn 24 = .ok (.iinc 3 1, 3) := by decide +kernel
theorem dX3_locksOn_27 : decode cX3_locksOn 27 = .ok (.goto (-23), 3) := by decide +kernel
theorem dX3_locksOn_30 : decode cX3_locksOn 30 = .ok (.iload_n 2, 1) := by decide +kernel
theorem dX3_locksOn_31 : decode cX3_locksOn 31 = .ok (.ireturn, 1) := by decide +kernel
theorem dX3_allLocks_0 : decode cX3_allLocks 0 = .ok (.iconst 0, 1) := by decide +kernel
theorem dX3_allLocks_1 : decode cX3_allLocks 1 = .ok (.istore_n 1, 1) := by decide +kernel
theorem dX3_allLocks_2 : decode cX3_allLocks 2 = .ok (.iconst 0, 1) := by decide +kernel
theorem dX3_allLocks_3 : decode cX3_allLocks 3 = .ok (.istore_n 2, 1) := by decide +kernel
theorem dX3_allLocks_4 : decode cX3_allLocks 4 = .ok (.iload_n 2, 1) := by decide +kernel
theorem dX3_allLocks_5 : decode cX3_allLocks 5 = .ok (.aload_n 0, 1) := by decide +kernel
theorem dX3_allLocks_6 : decode cX3_allLocks 6 = .ok (.getfield 36, 3) := by decide +kernel
theorem dX3_allLocks_9 : decode cX3_allLocks 9 = .ok (.if_icmp .ge 20, 3) := by decide +kernel
theorem dX3_allLocks_12 : decode cX3_allLocks 12 = .ok (.iload_n 1, 1) := by decide +kernel
theorem dX3_allLocks_13 : decode cX3_allLocks 13 = .ok (.aload_n 0, 1) := by decide +kernel
theorem dX3_allLocks_14 : decode cX3_allLocks 14 = .ok (.iload_n 2, 1) := by decide +kernel
theorem dX3_allLocks_15 : decode cX3_allLocks 15 = .ok (.invokevirtual 40, 3) := by decide +kernel
theorem dX3_allLocks_18 : decode cX3_allLocks 18 = .ok (.invokestatic 44, 3) := by decide +kernel
theorem dX3_allLocks_21 : decode cX3_allLocks 21 = .ok (.iadd, 1) := by decide +kernel
theorem dX3_allLocks_22 : decode cX3_allLocks 22 = .ok (.istore_n 1, 1) := by decide +kernel
theorem dX3_allLocks_23 : decode cX3_allLocks 23 = .ok (.iinc 2 1, 3) := by decide +kernel
theorem dX3_allLocks_26 : decode cX3_allLocks 26 = .ok (.goto (-22), 3) := by decide +kernel
theorem dX3_allLocks_29 : decode cX3_allLocks 29 = .ok (.iload_n 1, 1) := by decide +kernel
theorem dX3_allLocks_30 : decode cX3_allLocks 30 = .ok (.ireturn, 1) := by decide +kernel
theorem dX3_noteTest_0 : decode cX3_noteTest 0 = .ok (.aload_n 0, 1) := by decide +kernel
theorem dX3_noteTest_1 : decode cX3_noteTest 1 = .ok (.getfield 27, 3) := by decide +kernel
theorem dX3_noteTest_4 : decode cX3_noteTest 4 = .ok (.iload_n 1, 1) := by decide +kernel
theorem dX3_noteTest_5 : decode cX3_noteTest 5 = .ok (.iload_n 2, 1) := by decide +kernel
theorem dX3_noteTest_6 : decode cX3_noteTest 6 = .ok (.iastore, 1) := by decide +kernel
theorem dX3_noteTest_7 : decode cX3_noteTest 7 = .ok (.aload_n 0, 1) := by decide +kernel
theorem dX3_noteTest_8 : decode cX3_noteTest 8 = .ok (.getfield 30, 3) := by decide +kernel
theorem dX3_noteTest_11 : decode cX3_noteTest 11 = .ok (.iload_n 1, 1) := by decide +kernel
theorem dX3_noteTest_12 : decode cX3_noteTest 12 = .ok (.iload_n 3, 1) := by decide +kernel
theorem dX3_noteTest_13 : decode cX3_noteTest 13 = .ok (.iastore, 1) := by decide +kernel
theorem dX3_noteTest_14 : decode cX3_noteTest 14 = .ok (.aload_n 0, 1) := by decide +kernel
theorem dX3_noteTest_15 : decode cX3_noteTest 15 = .ok (.getfield 21, 3) := by decide +kernel
theorem dX3_noteTest_18 : decode cX3_noteTest 18 = .ok (.iload_n 1, 1) := by decide +kernel
theorem dX3_noteTest_19 : decode cX3_noteTest 19 = .ok (.iaload, 1) := by decide +kernel
theorem dX3_noteTest_20 : decode cX3_noteTest 20 = .ok (.iconst 1, 1) := by decide +kernel
theorem dX3_noteTest_21 : decode cX3_noteTest 21 = .ok (.if_icmp .ne 10, 3) := by decide +kernel
theorem dX3_noteTest_24 : decode cX3_noteTest 24 = .ok (.aload_n 0, 1) := by decide +kernel
theorem dX3_noteTest_25 : decode cX3_noteTest 25 = .ok (.getfield 21, 3) := by decide +kernel
theorem dX3_noteTest_28 : decode cX3_noteTest 28 = .ok (.iload_n 1, 1) := by decide +kernel
theorem dX3_noteTest_29 : decode cX3_noteTest 29 = .ok (.iconst 2, 1) := by decide +kernel
theorem dX3_noteTest_30 : decode cX3_noteTest 30 = .ok (.iastore, 1) := by decide +kernel
theorem dX3_noteTest_31 : decode cX3_noteTest 31 = .ok (.return_, 1) := by decide +kernel
theorem dX3_hasGoodTest_0 : decode cX3_hasGoodTest 0 = .ok (.aload_n 0, 1) := by decide +kernel
theorem dX3_hasGoodTest_1 : decode cX3_hasGoodTest 1 = .ok (.getfield 27, 3) := by decide +kernel
theorem dX3_hasGoodTest_4 : decode cX3_hasGoodTest 4 = .ok (.iload_n 1, 1) := by decide +kernel
theorem dX3_hasGoodTest_5 : decode cX3_hasGoodTest 5 = .ok (.iaload, 1) := by decide +kernel
theorem dX3_hasGoodTest_6 : decode cX3_hasGoodTest 6 = .ok (.bipush (-3), 2) := by decide +kernel
theorem dX3_hasGoodTest_8 : decode cX3_hasGoodTest 8 = .ok (.if_icmp .eq 30, 3) := by decide +kernel
theorem dX3_hasGoodTest_11 : decode cX3_hasGoodTest 11 = .ok (.aload_n 0, 1) := by decide +kernel
theorem dX3_hasGoodTest_12 : decode cX3_hasGoodTest 12 = .ok (.getfield 27, 3) := by decide +kernel
theorem dX3_hasGoodTest_15 : decode cX3_hasGoodTest 15 = .ok (.iload_n 1, 1) := by decide +kernel
theorem dX3_hasGoodTest_16 : decode cX3_hasGoodTest 16 = .ok (.iaload, 1) := by decide +kernel
theorem dX3_hasGoodTest_17 : decode cX3_hasGoodTest 17 = .ok (.bipush 10, 2) := by decide +kernel
theorem dX3_hasGoodTest_19 : decode cX3_hasGoodTest 19 = .ok (.if_icmp .gt 19, 3) := by decide +kernel
theorem dX3_hasGoodTest_22 : decode cX3_hasGoodTest 22 = .ok (.iload_n 2, 1) := by decide +kernel
theorem dX3_hasGoodTest_23 : decode cX3_hasGoodTest 23 = .ok (.aload_n 0, 1) := by decide +kernel
theorem dX3_hasGoodTest_24 : decode cX3_hasGoodTest 24 = .ok (.getfield 30, 3) := by decide +kernel
theorem dX3_hasGoodTest_27 : decode cX3_hasGoodTest 27 = .ok (.iload_n 1, 1) := by decide +kernel
theorem dX3_hasGoodTest_28 : decode cX3_hasGoodTest 28 = .ok (.iaload, 1) := by decide +kernel
theorem dX3_hasGoodTest_29 : decode cX3_hasGoodTest 29 = .ok (.isub, 1) := by decide +kernel
theorem dX3_hasGoodTest_30 : decode cX3_hasGoodTest 30 = .ok (.iload_n 3, 1) := by decide +kernel
theorem dX3_hasGoodTest_31 : decode cX3_hasGoodTest 31 = .ok (.if_icmp .gt 7, 3) := by decide +kernel
theorem dX3_hasGoodTest_34 : decode cX3_hasGoodTest 34 = .ok (.iconst 1, 1) := by decide +kernel
theorem dX3_hasGoodTest_35 : decode cX3_hasGoodTest 35 = .ok (.goto 4, 3) := by decide +kernel
theorem dX3_hasGoodTest_38 : decode cX3_hasGoodTest 38 = .ok (.iconst 0, 1) := by decide +kernel
theorem dX3_hasGoodTest_39 : decode cX3_hasGoodTest 39 = .ok (.ireturn, 1) := by decide +kernel
theorem dX3_endLive_0 : decode cX3_endLive 0 = .ok (.aload_n 0, 1) := by decide +kernel
theorem dX3_endLive_1 : decode cX3_endLive 1 = .ok (.getfield 21, 3) := by decide +kernel
theorem dX3_endLive_4 : decode cX3_endLive 4 = .ok (.iload_n 1, 1) := by decide +kernel
theorem dX3_endLive_5 : decode cX3_endLive 5 = .ok (.iconst 4, 1) := by decide +kernel
theorem dX3_endLive_6 : decode cX3_endLive 6 = .ok (.iastore, 1) := by decide +kernel
theorem dX3_endLive_7 : decode cX3_endLive 7 = .ok (.aload_n 0, 1) := by decide +kernel
theorem dX3_endLive_8 : decode cX3_endLive 8 = .ok (.getfield 33, 3) := by decide +kernel
theorem dX3_endLive_11 : decode cX3_endLive 11 = .ok (.iload_n 1, 1) := by decide +kernel
theorem dX3_endLive_12 : decode cX3_endLive 12 = .ok (.iload_n 2, 1) := by decide +kernel
theorem dX3_endLive_13 : decode cX3_endLive 13 = .ok (.iastore, 1) := by decide +kernel
theorem dX3_endLive_14 : decode cX3_endLive 14 = .ok (.return_, 1) := by decide +kernel
theorem dX3_endAllLive_0 : decode cX3_endAllLive 0 = .ok (.iconst 0, 1) := by decide +kernel
theorem dX3_endAllLive_1 : decode cX3_endAllLive 1 = .ok (.istore_n 2, 1) := by decide +kernel
theorem dX3_endAllLive_2 : decode cX3_endAllLive 2 = .ok (.iload_n 2, 1) := by decide +kernel
theorem dX3_endAllLive_3 : decode cX3_endAllLive 3 = .ok (.aload_n 0, 1) := by decide +kernel
theorem dX3_endAllLive_4 : decode cX3_endAllLive 4 = .ok (.getfield 36, 3) := by decide +kernel
theorem dX3_endAllLive_7 : decode cX3_endAllLive 7 = .ok (.if_icmp .ge 25, 3) := by decide +kernel
theorem dX3_endAllLive_10 : decode cX3_endAllLive 10 = .ok (.aload_n 0, 1) := by decide +kernel
theorem dX3_endAllLive_11 : decode cX3_endAllLive 11 = .ok (.getfield 21, 3) := by decide +kernel
theorem dX3_endAllLive_14 : decode cX3_endAllLive 14 = .ok (.iload_n 2, 1) := by decide +kernel
theorem dX3_endAllLive_15 : decode cX3_endAllLive 15 = .ok (.iaload, 1) := by decide +kernel
theorem dX3_endAllLive_16 : decode cX3_endAllLive 16 = .ok (.iconst 3, 1) := by decide +kernel
theorem dX3_endAllLive_17 : decode cX3_endAllLive 17 = .ok (.if_icmp .ne 9, 3) := by decide +kernel
theorem dX3_endAllLive_20 : decode cX3_endAllLive 20 = .ok (.aload_n 0, 1) := by decide +kernel
theorem dX3_endAllLive_21 : decode cX3_endAllLive 21 = .ok (.iload_n 2, 1) := by decide +kernel
theorem dX3_endAllLive_22 : decode cX3_endAllLive 22 = .ok (.iload_n 1, 1) := by decide +kernel
theorem dX3_endAllLive_23 : decode cX3_endAllLive 23 = .ok (.invokevirtual 49, 3) := by decide +kernel
theorem dX3_endAllLive_26 : decode cX3_endAllLive 26 = .ok (.iinc 2 1, 3) := by decide +kernel
theorem dX3_endAllLive_29 : decode cX3_endAllLive 29 = .ok (.goto (-27), 3) := by decide +kernel
theorem dX3_endAllLive_32 : decode cX3_endAllLive 32 = .ok (.return_, 1) := by decide +kernel
theorem dX3_holdsLive_0 : decode cX3_holdsLive 0 = .ok (.iconst 0, 1) := by decide +kernel
theorem dX3_holdsLive_1 : decode cX3_holdsLive 1 = .ok (.istore_n 2, 1) := by decide +kernel
theorem dX3_holdsLive_2 : decode cX3_holdsLive 2 = .ok (.iload_n 2, 1) := by decide +kernel
theorem dX3_holdsLive_3 : decode cX3_holdsLive 3 = .ok (.aload_n 0, 1) := by decide +kernel
theorem dX3_holdsLive_4 : decode cX3_holdsLive 4 = .ok (.getfield 36, 3) := by decide +kernel
theorem dX3_holdsLive_7 : decode cX3_holdsLive 7 = .ok (.if_icmp .ge 31, 3) := by decide +kernel
theorem dX3_holdsLive_10 : decode cX3_holdsLive 10 = .ok (.aload_n 0, 1) := by decide +kernel
theorem dX3_holdsLive_11 : decode cX3_holdsLive 11 = .ok (.getfield 21, 3) := by decide +kernel
theorem dX3_holdsLive_14 : decode cX3_holdsLive 14 = .ok (.iload_n 2, 1) := by decide +kernel
theorem dX3_holdsLive_15 : decode cX3_holdsLive 15 = .ok (.iaload, 1) := by decide +kernel
theorem dX3_holdsLive_16 : decode cX3_holdsLive 16 = .ok (.iconst 3, 1) := by decide +kernel
theorem dX3_holdsLive_17 : decode cX3_holdsLive 17 = .ok (.if_icmp .ne 15, 3) := by decide +kernel
theorem dX3_holdsLive_20 : decode cX3_holdsLive 20 = .ok (.aload_n 0, 1) := by decide +kernel
theorem dX3_holdsLive_21 : decode cX3_holdsLive 21 = .ok (.getfield 24, 3) := by decide +kernel
theorem dX3_holdsLive_24 : decode cX3_holdsLive 24 = .ok (.iload_n 2, 1) := by decide +kernel
theorem dX3_holdsLive_25 : decode cX3_holdsLive 25 = .ok (.iaload, 1) := by decide +kernel
theorem dX3_holdsLive_26 : decode cX3_holdsLive 26 = .ok (.iload_n 1, 1) := by decide +kernel
theorem dX3_holdsLive_27 : decode cX3_holdsLive 27 = .ok (.if_icmp .ne 5, 3) := by decide +kernel
theorem dX3_holdsLive_30 : decode cX3_holdsLive 30 = .ok (.iconst 1, 1) := by decide +kernel
theorem dX3_holdsLive_31 : decode cX3_holdsLive 31 = .ok (.ireturn, 1) := by decide +kernel
theorem dX3_holdsLive_32 : decode cX3_holdsLive 32 = .ok (.iinc 2 1, 3) := by decide +kernel
theorem dX3_holdsLive_35 : decode cX3_holdsLive 35 = .ok (.goto (-33), 3) := by decide +kernel
theorem dX3_holdsLive_38 : decode cX3_holdsLive 38 = .ok (.iconst 0, 1) := by decide +kernel
theorem dX3_holdsLive_39 : decode cX3_holdsLive 39 = .ok (.ireturn, 1) := by decide +kernel
theorem dX4_init_0 : decode cX4_init 0 = .ok (.aload_n 0, 1) := by decide +kernel
theorem dX4_init_1 : decode cX4_init 1 = .ok (.invokespecial 3, 3) := by decide +kernel
theorem dX4_init_4 : decode cX4_init 4 = .ok (.aload_n 0, 1) := by decide +kernel
theorem dX4_init_5 : decode cX4_init 5 = .ok (.bipush 7, 2) := by decide +kernel
theorem dX4_init_7 : decode cX4_init 7 = .ok (.newarray .int, 2) := by decide +kernel
theorem dX4_init_9 : decode cX4_init 9 = .ok (.putfield 9, 3) := by decide +kernel
theorem dX4_init_12 : decode cX4_init 12 = .ok (.aload_n 0, 1) := by decide +kernel
theorem dX4_init_13 : decode cX4_init 13 = .ok (.bipush 84, 2) := by decide +kernel
theorem dX4_init_15 : decode cX4_init 15 = .ok (.newarray .int, 2) := by decide +kernel
theorem dX4_init_17 : decode cX4_init 17 = .ok (.putfield 15, 3) := by decide +kernel
theorem dX4_init_20 : decode cX4_init 20 = .ok (.aload_n 0, 1) := by decide +kernel
theorem dX4_init_21 : decode cX4_init 21 = .ok (.bipush 84, 2) := by decide +kernel
theorem dX4_init_23 : decode cX4_init 23 = .ok (.newarray .int, 2) := by decide +kernel
theorem dX4_init_25 : decode cX4_init 25 = .ok (.putfield 18, 3) := by decide +kernel
theorem dX4_init_28 : decode cX4_init 28 = .ok (.aload_n 0, 1) := by decide +kernel
theorem dX4_init_29 : decode cX4_init 29 = .ok (.iconst 0, 1) := by decide +kernel
theorem dX4_init_30 : decode cX4_init 30 = .ok (.putfield 21, 3) := by decide +kernel
theorem dX4_init_33 : decode cX4_init 33 = .ok (.aload_n 0, 1) := by decide +kernel
theorem dX4_init_34 : decode cX4_init 34 = .ok (.iconst 0, 1) := by decide +kernel
theorem dX4_init_35 : decode cX4_init 35 = .ok (.putfield 25, 3) := by decide +kernel
theorem dX4_init_38 : decode cX4_init 38 = .ok (.aload_n 0, 1) := by decide +kernel
theorem dX4_init_39 : decode cX4_init 39 = .ok (.iconst 0, 1) := by decide +kernel
theorem dX4_init_40 : decode cX4_init 40 = .ok (.putfield 28, 3) := by decide +kernel
theorem dX4_init_43 : decode cX4_init 43 = .ok (.aload_n 0, 1) := by decide +kernel
theorem dX4_init_44 : decode cX4_init 44 = .ok (.iconst 0, 1) := by decide +kernel
theorem dX4_init_45 : decode cX4_init 45 = .ok (.putfield 31, 3) := by decide +kernel
theorem dX4_init_48 : decode cX4_init 48 = .ok (.aload_n 0, 1) := by decide +kernel
theorem dX4_init_49 : decode cX4_init 49 = .ok (.bipush 7, 2) := by decide +kernel
theorem dX4_init_51 : decode cX4_init 51 = .ok (.newarray .int, 2) := by decide +kernel
theorem dX4_init_53 : decode cX4_init 53 = .ok (.putfield 35, 3) := by decide +kernel
theorem dX4_init_56 : decode cX4_init 56 = .ok (.aload_n 0, 1) := by decide +kernel
theorem dX4_init_57 : decode cX4_init 57 = .ok (.bipush 7, 2) := by decide +kernel
theorem dX4_init_59 : decode cX4_init 59 = .ok (.newarray .int, 2) := by decide +kernel
theorem dX4_init_61 : decode cX4_init 61 = .ok (.putfield 38, 3) := by decide +kernel
theorem dX4_init_64 : decode cX4_init 64 = .ok (.aload_n 0, 1) := by decide +kernel
theorem dX4_init_65 : decode cX4_init 65 = .ok (.sipush 896, 3) := by decide +kernel
theorem dX4_init_68 : decode cX4_init 68 = .ok (.newarray .int, 2) := by decide +kernel
theorem dX4_init_70 : decode cX4_init 70 = .ok (.putfield 41, 3) := by decide +kernel
theorem dX4_init_73 : decode cX4_init 73 = .ok (.return_, 1) := by decide +kernel
theorem dX4_tell_0 : decode cX4_tell 0 = .ok (.aload_n 0, 1) := by decide +kernel
theorem dX4_tell_1 : decode cX4_tell 1 = .ok (.aload_n 1, 1) := by decide +kernel
theorem dX4_tell_2 : decode cX4_tell 2 = .ok (.iload_n 2, 1) := by decide +kernel
theorem dX4_tell_3 : decode cX4_tell 3 = .ok (.invokevirtual 44, 3) := by decide +kernel
theorem dX4_tell_6 : decode cX4_tell 6 = .ok (.iconst 0, 1) := by decide +kernel
theorem dX4_tell_7 : decode cX4_tell 7 = .ok (.istore_n 3, 1) := by decide +kernel
theorem dX4_tell_8 : decode cX4_tell 8 = .ok (.iload_n 3, 1) := by decide +kernel
theorem dX4_tell_9 : decode cX4_tell 9 = .ok (.iconst 1, 1) := by decide +kernel
theorem dX4_tell_10 : decode cX4_tell 10 = .ok (.aload_n 0, 1) := by decide +kernel
theorem dX4_tell_11 : decode cX4_tell 11 = .ok (.getfield 21, 3) := by decide +kernel
theorem dX4_tell_14 : decode cX4_tell 14 = .ok (.ishl, 1) := by decide +kernel
theorem dX4_tell_15 : decode cX4_tell 15 = .ok (.if_icmp .ge 55, 3) := by decide +kernel
theorem dX4_tell_18 : decode cX4_tell 18 = .ok (.iconst 0, 1) := by decide +kernel
theorem dX4_tell_19 : decode cX4_tell 19 = .ok (.istore 4, 2) := by decide +kernel
theorem dX4_tell_21 : decode cX4_tell 21 = .ok (.iload 4, 2) := by decide +kernel
theorem dX4_tell_23 : decode cX4_tell 23 = .ok (.aload_n 0, 1) := by decide +kernel
theorem dX4_tell_24 : decode cX4_tell 24 = .ok (.getfield 21, 3) := by decide +kernel
theorem dX4_tell_27 : decode cX4_tell 27 = .ok (.if_icmp .ge 37, 3) := by decide +kernel
theorem dX4_tell_30 : decode cX4_tell 30 = .ok (.iload_n 3, 1) := by decide +kernel
theorem dX4_tell_31 : decode cX4_tell 31 = .ok (.iload 4, 2) := by decide +kernel
theorem dX4_tell_33 : decode cX4_tell 33 = .ok (.ishr, 1) := by decide +kernel
theorem dX4_tell_34 : decode cX4_tell 34 = .ok (.iconst 1, 1) := by decide +kernel
theorem dX4_tell_35 : decode cX4_tell 35 = .ok (.iand, 1) := by decide +kernel
theorem dX4_tell_36 : decode cX4_tell 36 = .ok (.ifCond .ne 22, 3) := by decide +kernel
theorem dX4_tell_39 : decode cX4_tell 39 = .ok (.aload_n 0, 1) := by decide +kernel
theorem dX4_tell_40 : decode cX4_tell 40 = .ok (.getfield 41, 3) := by decide +kernel
theorem dX4_tell_43 : decode cX4_tell 43 = .ok (.iload_n 3, 1) := by decide +kernel
theorem dX4_tell_44 : decode cX4_tell 44 = .ok (.bipush 7, 2) := by decide +kernel
theorem dX4_tell_46 : decode cX4_tell 46 = .ok (.imul, 1) := by decide +kernel
theorem dX4_tell_47 : decode cX4_tell 47 = .ok (.iload 4, 2) := by decide +kernel
theorem dX4_tell_49 : decode cX4_tell 49 = .ok (.iadd, 1) := by decide +kernel
theorem dX4_tell_50 : decode cX4_tell 50 = .ok (.aload_n 0, 1) := by decide +kernel
theorem dX4_tell_51 : decode cX4_tell 51 = .ok (.iload_n 3, 1) := by decide +kernel
theorem dX4_tell_52 : decode cX4_tell 52 = .ok (.iload 4, 2) := by decide +kernel
theorem dX4_tell_54 : decode cX4_tell 54 = .ok (.invokevirtual 48, 3) := by decide +kernel
theorem dX4_tell_57 : decode cX4_tell 57 = .ok (.iastore, 1) := by decide +kernel
theorem dX4_tell_58 : decode cX4_tell 58 = .ok (.iinc 4 1, 3) := by decide +kernel
theorem dX4_tell_61 : decode cX4_tell 61 = .ok (.goto (-40), 3) := by decide +kernel
theorem dX4_tell_64 : decode cX4_tell 64 = .ok (.iinc 3 1, 3) := by decide +kernel
theorem dX4_tell_67 : decode cX4_tell 67 = .ok (.goto (-59), 3) := by decide +kernel
theorem dX4_tell_70 : decode cX4_tell 70 = .ok (.aload_n 0, 1) := by decide +kernel
theorem dX4_tell_71 : decode cX4_tell 71 = .ok (.iconst 0, 1) := by decide +kernel
theorem dX4_tell_72 : decode cX4_tell 72 = .ok (.putfield 25, 3) := by decide +kernel
theorem dX4_tell_75 : decode cX4_tell 75 = .ok (.aload_n 0, 1) := by decide +kernel
theorem dX4_tell_76 : decode cX4_tell 76 = .ok (.iconst 1, 1) := by decide +kernel
theorem dX4_tell_77 : decode cX4_tell 77 = .ok (.putfield 31, 3) := by decide +kernel
theorem dX4_tell_80 : decode cX4_tell 80 = .ok (.aload_n 0, 1) := by decide +kernel
theorem dX4_tell_81 : decode cX4_tell 81 = .ok (.invokevirtual 52, 3) := by decide +kernel
theorem dX4_tell_84 : decode cX4_tell 84 = .ok (.istore_n 3, 1) := by decide +kernel
theorem dX4_tell_85 : decode cX4_tell 85 = .ok (.aload_n 0, 1) := by decide +kernel
theorem dX4_tell_86 : decode cX4_tell 86 = .ok (.getfield 15, 3) := by decide +kernel
theorem dX4_tell_89 : decode cX4_tell 89 = .ok (.iconst 0, 1) := by decide +kernel
theorem dX4_tell_90 : decode cX4_tell 90 = .ok (.aload_n 0, 1) := by decide +kernel
theorem dX4_tell_91 : decode cX4_tell 91 = .ok (.getfield 18, 3) := by decide +kernel
theorem dX4_tell_94 : decode cX4_tell 94 = .ok (.iconst 0, 1) := by decide +kernel
theorem dX4_tell_95 : decode cX4_tell 95 = .ok (.aload_n 0, 1) := by decide +kernel
theorem dX4_tell_96 : decode cX4_tell 96 = .ok (.getfield 15, 3) := by decide +kernel
theorem dX4_tell_99 : decode cX4_tell 99 = .ok (.arraylength, 1) := by decide +kernel
theorem dX4_tell_100 : decode cX4_tell 100 = .ok (.invokestatic 56, 3) := by decide +kernel
theorem dX4_tell_103 : decode cX4_tell 103 = .ok (.aload_n 0, 1) := by decide +kernel
theorem dX4_tell_104 : decode cX4_tell 104 = .ok (.aload_n 0, 1) := by decide +kernel
theorem dX4_tell_105 : decode cX4_tell 105 = .ok (.getfield 25, 3) := by decide +kernel
theorem dX4_tell_108 : decode cX4_tell 108 = .ok (.putfield 28, 3) := by decide +kernel
theorem dX4_tell_111 : decode cX4_tell 111 = .ok (.iload_n 3, 1) := by decide +kernel
theorem dX4_tell_112 : decode cX4_tell 112 = .ok (.ireturn, 1) := by decide +kernel
theorem dX4_gatherWorks_0 : decode cX4_gatherWorks 0 = .ok (.aload_n 0, 1) := by decide +kernel
theorem dX4_gatherWorks_1 : decode cX4_gatherWorks 1 = .ok (.iconst 0, 1) := by decide +kernel
theorem dX4_gatherWorks_2 : decode cX4_gatherWorks 2 = .ok (.putfield 21, 3) := by decide +kernel
theorem dX4_gatherWorks_5 : decode cX4_gatherWorks 5 = .ok (.iconst 0, 1) := by decide +kernel
theorem dX4_gatherWorks_6 : decode cX4_gatherWorks 6 = .ok (.istore_n 3, 1) := by decide +kernel
theorem dX4_gatherWorks_7 : decode cX4_gatherWorks 7 = .ok (.iload_n 3, 1) := by decide +kernel
theorem dX4_gatherWorks_8 : decode cX4_gatherWorks 8 = .ok (.aload_n 1, 1) := by decide +kernel
theorem dX4_gatherWorks_9 : decode cX4_gatherWorks 9 = .ok (.getfield 62, 3) := by decide +kernel
theorem dX4_gatherWorks_12 : decode cX4_gatherWorks 12 = .ok (.if_icmp .ge 57, 3) := by decide +kernel
theorem dX4_gatherWorks_15 : decode cX4_gatherWorks 15 = .ok (.aload_n 1, 1) := by decide +kernel
theorem dX4_gatherWorks_16 : decode cX4_gatherWorks 16 = .ok (.getfield 67, 3) := by decide +kernel
theorem dX4_gatherWorks_19 : decode cX4_gatherWorks 19 = .ok (.iload_n 3, 1) := by decide +kernel
theorem dX4_gatherWorks_20 : decode cX4_gatherWorks 20 = .ok (.iaload, 1) := by decide +kernel
theorem dX4_gatherWorks_21 : decode cX4_gatherWorks 21 = .ok (.ifCond .ne 42, 3) := by decide +kernel
theorem dX4_gatherWorks_24 : decode cX4_gatherWorks 24 = .ok (.aload_n 0, 1) := by decide +kernel
theorem dX4_gatherWorks_25 : decode cX4_gatherWorks 25 = .ok (.getfield 35, 3) := by decide +kernel
theorem dX4_gatherWorks_28 : decode cX4_gatherWorks 28 = .ok (.aload_n 0, 1) := by decide +kernel
theorem dX4_gatherWorks_29 : decode cX4_gatherWorks 29 = .ok (.getfield 21, 3) := by decide +kernel
theorem dX4_gatherWorks_32 : decode cX4_gatherWorks 32 = .ok (.iload_n 3, 1) := by decide +kernel
theorem dX4_gatherWorks_33 : decode cX4_gatherWorks 33 = .ok (.iastore, 1) := by decide +kernel
theorem dX4_gatherWorks_34 : decode cX4_gatherWorks 34 = .ok (.aload_n 0, 1) := by decide +kernel
theorem dX4_gatherWorks_35 : decode cX4_gatherWorks 35 = .ok (.getfield 38, 3) := by decide +kernel
theorem dX4_gatherWorks_38 : decode cX4_gatherWorks 38 = .ok (.aload_n 0, 1) := by decide +kernel
theorem dX4_gatherWorks_39 : decode cX4_gatherWorks 39 = .ok (.getfield 21, 3) := by decide +kernel
theorem dX4_gatherWorks_42 : decode cX4_gatherWorks 42 = .ok (.aload_n 1, 1) := by decide +kernel
theorem dX4_gatherWorks_43 : decode cX4_gatherWorks 43 = .ok (.getfield 70, 3) := by decide +kernel
theorem dX4_gatherWorks_46 : decode cX4_gatherWorks 46 = .ok (.iload_n 3, 1) := by decide +kernel
theorem dX4_gatherWorks_47 : decode cX4_gatherWorks 47 = .ok (.iaload, 1) := by decide +kernel
theorem dX4_gatherWorks_48 : decode cX4_gatherWorks 48 = .ok (.iload_n 2, 1) := by decide +kernel
theorem dX4_gatherWorks_49 : decode cX4_gatherWorks 49 = .ok (.iconst (-1), 1) := by decide +kernel
theorem dX4_gatherWorks_50 : decode cX4_gatherWorks 50 = .ok (.ixor, 1) := by decide +kernel
theorem dX4_gatherWorks_51 : decode cX4_gatherWorks 51 = .ok (.iand, 1) := by decide +kernel
theorem dX4_gatherWorks_52 : decode cX4_gatherWorks 52 = .ok (.iastore, 1) := by decide +kernel
theorem dX4_gatherWorks_53 : decode cX4_gatherWorks 53 = .ok (.aload_n 0, 1) := by decide +kernel
theorem dX4_gatherWorks_54 : decode cX4_gatherWorks 54 = .ok (.dup, 1) := by decide +kernel
theorem dX4_gatherWorks_55 : decode cX4_gatherWorks 55 = .ok (.getfield 21, 3) := by decide +kernel
theorem dX4_gatherWorks_58 : decode cX4_gatherWorks 58 = .ok (.iconst 1, 1) := by decide +kernel
theorem dX4_gatherWorks_59 : decode cX4_gatherWorks 59 = .ok (.iadd, 1) := by decide +kernel
theorem dX4_gatherWorks_60 : decode cX4_gatherWorks 60 = .ok (.putfield 21, 3) := by decide +kernel
theorem dX4_gatherWorks_63 : decode cX4_gatherWorks 63 = .ok (.iinc 3 1, 3) := by decide +kernel
theorem dX4_gatherWorks_66 : decode cX4_gatherWorks 66 = .ok (.goto (-59), 3) := by decide +kernel
theorem dX4_gatherWorks_69 : decode cX4_gatherWorks 69 = .ok (.return_, 1) := by decide +kernel
theorem dX4_fewestLeft_0 : decode cX4_fewestLeft 0 = .ok (.iload_n 1, 1) := by decide +kernel
theorem dX4_fewestLeft_1 : decode cX4_fewestLeft 1 = .ok (.ifCond .ne 13, 3) := by decide +kernel
theorem dX4_fewestLeft_4 : decode cX4_fewestLeft 4 = .ok (.aload_n 0, 1) := by decide +kernel
theorem dX4_fewestLeft_5 : decode cX4_fewestLeft 5 = .ok (.getfield 38, 3) := by decide +kernel
theorem dX4_fewestLeft_8 : decode cX4_fewestLeft 8 = .ok (.iload_n 2, 1) := by decide +kernel
theorem dX4_fewestLeft_9 : decode cX4_fewestLeft 9 = .ok (.iaload, 1) := by decide +kernel
theorem dX4_fewestLeft_10 : decode cX4_fewestLeft 10 = .ok (.invokestatic 73, 3) := by decide +kernel
theorem dX4_fewestLeft_13 : decode cX4_fewestLeft 13 = .ok (.ireturn, 1) := by decide +kernel
theorem dX4_fewestLeft_14 : decode cX4_fewestLeft 14 = .ok (.sipush 1000, 3) := by decide +kernel
theorem dX4_fewestLeft_17 : decode cX4_fewestLeft 17 = .ok (.istore_n 3, 1) := by decide +kernel
theorem dX4_fewestLeft_18 : decode cX4_fewestLeft 18 = .ok (.iconst 0, 1) := by decide +kernel
theorem dX4_fewestLeft_19 : decode cX4_fewestLeft 19 = .ok (.istore 4, 2) := by decide +kernel
theorem dX4_fewestLeft_21 : decode cX4_fewestLeft 21 = .ok (.iload 4, 2) := by decide +kernel
theorem dX4_fewestLeft_23 : decode cX4_fewestLeft 23 = .ok (.aload_n 0, 1) := by decide +kernel
theorem dX4_fewestLeft_24 : decode cX4_fewestLeft 24 = .ok (.getfield 21, 3) := by decide +kernel
theorem dX4_fewestLeft_27 : decode cX4_fewestLeft 27 = .ok (.if_icmp .ge 36, 3) := by decide +kernel
theorem dX4_fewestLeft_30 : decode cX4_fewestLeft 30 = .ok (.iload_n 1, 1) := by decide +kernel
theorem dX4_fewestLeft_31 : decode cX4_fewestLeft 31 = .ok (.iload 4, 2) := by decide +kernel
theorem dX4_fewestLeft_33 : decode cX4_fewestLeft 33 = .ok (.ishr, 1) := by decide +kernel
theorem dX4_fewestLeft_34 : decode cX4_fewestLeft 34 = .ok (.iconst 1, 1) := by decide +kernel
theorem dX4_fewestLeft_35 : decode cX4_fewestLeft 35 = .ok (.iand, 1) := by decide +kernel
theorem dX4_fewestLeft_36 : decode cX4_fewestLeft 36 = .ok (.ifCond .eq 21, 3) := by decide +kernel
theorem dX4_fewestLeft_39 : decode cX4_fewestLeft 39 = .ok (.iload_n 3, 1) := by decide +kernel
theorem dX4_fewestLeft_40 : decode cX4_fewestLeft 40 = .ok (.aload_n 0, 1) := by decide +kernel
theorem dX4_fewestLeft_41 : decode cX4_fewestLeft 41 = .ok (.aload_n 0, 1) := by decide +kernel
theorem dX4_fewestLeft_42 : decode cX4_fewestLeft 42 = .ok (.getfield 38, 3) := by decide +kernel
theorem dX4_fewestLeft_45 : decode cX4_fewestLeft 45 = .ok (.iload_n 2, 1) := by decide +kernel
theorem dX4_fewestLeft_46 : decode cX4_fewestLeft 46 = .ok (.iaload, 1) := by decide +kernel
theorem dX4_fewestLeft_47 : decode cX4_fewestLeft 47 = .ok (.iload 4, 2) := by decide +kernel
theorem dX4_fewestLeft_49 : decode cX4_fewestLeft 49 = .ok (.iload_n 1, 1) := by decide +kernel
theorem dX4_fewestLeft_50 : decode cX4_fewestLeft 50 = .ok (.invokevirtual 79, 3) := by decide +kernel
theorem dX4_fewestLeft_53 : decode cX4_fewestLeft 53 = .ok (.invokestatic 83, 3) := by decide +kernel
theorem dX4_fewestLeft_56 : decode cX4_fewestLeft 56 = .ok (.istore_n 3, 1) := by decide +kernel
theorem dX4_fewestLeft_57 : decode cX4_fewestLeft 57 = .ok (.iinc 4 1, 3) := by decide +kernel
theorem dX4_fewestLeft_60 : decode cX4_fewestLeft 60 = .ok (.goto (-39), 3) := by decide +kernel
theorem dX4_fewestLeft_63 : decode cX4_fewestLeft 63 = .ok (.iload_n 3, 1) := by decide +kernel
theorem dX4_fewestLeft_64 : decode cX4_fewestLeft 64 = .ok (.ireturn, 1) := by decide +kernel
theorem dX4_movesThrough_0 : decode cX4_movesThrough 0 = .ok (.iload_n 3, 1) := by decide +kernel
theorem dX4_movesThrough_1 : decode cX4_movesThrough 1 = .ok (.iconst 1, 1) := by decide +kernel
theorem dX4_movesThrough_2 : decode cX4_movesThrough 2 = .ok (.iload_n 2, 1) := by decide +kernel
theorem dX4_movesThrough_3 : decode cX4_movesThrough 3 = .ok (.ishl, 1) := by decide +kernel
theorem dX4_movesThrough_4 : decode cX4_movesThrough 4 = .ok (.iconst (-1), 1) := by decide +kernel
theorem dX4_movesThrough_5 : decode cX4_movesThrough 5 = .ok (.ixor, 1) := by decide +kernel
theorem dX4_movesThrough_6 : decode cX4_movesThrough 6 = .ok (.iand, 1) := by decide +kernel
theorem dX4_movesThrough_7 : decode cX4_movesThrough 7 = .ok (.istore 4, 2) := by decide +kernel
theorem dX4_movesThrough_9 : decode cX4_movesThrough 9 = .ok (.iload_n 1, 1) := by decide +kernel
theorem dX4_movesThrough_10 : decode cX4_movesThrough 10 = .ok (.aload_n 0, 1) := by decide +kernel
theorem dX4_movesThrough_11 : decode cX4_movesThrough 11 = .ok (.getfield 38, 3) := by decide +kernel
theorem dX4_movesThrough_14 : decode cX4_movesThrough 14 = .ok (.iload_n 2, 1) := by decide +kernel
theorem dX4_movesThrough_15 : decode cX4_movesThrough 15 = .ok (.iaload, 1) := by decide +kernel
theorem dX4_movesThrough_16 : decode cX4_movesThrough 16 = .ok (.ixor, 1) := by decide +kernel
theorem dX4_movesThrough_17 : decode cX4_movesThrough 17 = .ok (.invokestatic 73, 3) := by decide +kernel
theorem dX4_movesThrough_20 : decode cX4_movesThrough 20 = .ok (.aload_n 0, 1) := by decide +kernel
theorem dX4_movesThrough_21 : decode cX4_movesThrough 21 = .ok (.getfield 41, 3) := by decide +kernel
theorem dX4_movesThrough_24 : decode cX4_movesThrough 24 = .ok (.iload 4, 2) := by decide +kernel
theorem dX4_movesThrough_26 : decode cX4_movesThrough 26 = .ok (.bipush 7, 2) := by decide +kernel
theorem dX4_movesThrough_28 : decode cX4_movesThrough 28 = .ok (.imul, 1) := by decide +kernel
theorem dX4_movesThrough_29 : decode cX4_movesThrough 29 = .ok (.iload_n 2, 1) := by decide +kernel
theorem dX4_movesThrough_30 : decode cX4_movesThrough 30 = .ok (.iadd, 1) := by decide +kernel
theorem dX4_movesThrough_31 : decode cX4_movesThrough 31 = .ok (.iaload, 1) := by decide +kernel
theorem dX4_movesThrough_32 : decode cX4_movesThrough 32 = .ok (.iadd, 1) := by decide +kernel
theorem dX4_movesThrough_33 : decode cX4_movesThrough 33 = .ok (.ireturn, 1) := by decide +kernel
theorem dX4_layOrder_0 : decode cX4_layOrder 0 = .ok (.iconst 1, 1) := by decide +kernel
theorem dX4_layOrder_1 : decode cX4_layOrder 1 = .ok (.aload_n 0, 1) := by decide +kernel
theorem dX4_layOrder_2 : decode cX4_layOrder 2 = .ok (.getfield 21, 3) := by decide +kernel
theorem dX4_layOrder_5 : decode cX4_layOrder 5 = .ok (.ishl, 1) := by decide +kernel
theorem dX4_layOrder_6 : decode cX4_layOrder 6 = .ok (.iconst 1, 1) := by decide +kernel
theorem dX4_layOrder_7 : decode cX4_layOrder 7 = .ok (.isub, 1) := by decide +kernel
theorem dX4_layOrder_8 : decode cX4_layOrder 8 = .ok (.istore_n 1, 1) := by decide +kernel
theorem dX4_layOrder_9 : decode cX4_layOrder 9 = .ok (.iconst 0, 1) := by decide +kernel
theorem dX4_layOrder_10 : decode cX4_layOrder 10 = .ok (.istore_n 2, 1) := by decide +kernel
theorem dX4_layOrder_11 : decode cX4_layOrder 11 = .ok (.iconst 0, 1) := by decide +kernel
theorem dX4_layOrder_12 : decode cX4_layOrder 12 = .ok (.istore_n 3, 1) := by decide +kernel
theorem dX4_layOrder_13 : decode cX4_layOrder 13 = .ok (.iconst 0, 1) := by decide +kernel
theorem dX4_layOrder_14 : decode cX4_layOrder 14 = .ok (.istore 4, 2) := by decide +kernel
theorem dX4_layOrder_16 : decode cX4_layOrder 16 = .ok (.iconst 0, 1) := by decide +kernel
theorem dX4_layOrder_17 : decode cX4_layOrder 17 = .ok (.istore 5, 2) := by decide +kernel
theorem dX4_layOrder_19 : decode cX4_layOrder 19 = .ok (.iload 5, 2) := by decide +kernel
theorem dX4_layOrder_21 : decode cX4_layOrder 21 = .ok (.aload_n 0, 1) := by decide +kernel
theorem dX4_layOrder_22 : decode cX4_layOrder 22 = .ok (.getfield 21, 3) := by decide +kernel
theorem dX4_layOrder_25 : decode cX4_layOrder 25 = .ok (.if_icmp .ge 78, 3) := by decide +kernel
theorem dX4_layOrder_28 : decode cX4_layOrder 28 = .ok (.aload_n 0, 1) := by decide +kernel
theorem dX4_layOrder_29 : decode cX4_layOrder 29 = .ok (.iload 5, 2) := by decide +kernel
theorem dX4_layOrder_31 : decode cX4_layOrder 31 = .ok (.iload_n 1, 1) := by decide +kernel
theorem dX4_layOrder_32 : decode cX4_layOrder 32 = .ok (.iload_n 2, 1) := by decide +kernel
theorem dX4_layOrder_33 : decode cX4_layOrder 33 = .ok (.iload_n 3, 1) := by decide +kernel
theorem dX4_layOrder_34 : decode cX4_layOrder 34 = .ok (.invokevirtual 88, 3) := by decide +kernel
theorem dX4_layOrder_37 : decode cX4_layOrder 37 = .ok (.istore 6, 2) := by decide +kernel
theorem dX4_layOrder_39 : decode cX4_layOrder 39 = .ok (.iload_n 3, 1) := by decide +kernel
theorem dX4_layOrder_40 : decode cX4_layOrder 40 = .ok (.aload_n 0, 1) := by decide +kernel
theorem dX4_layOrder_41 : decode cX4_layOrder 41 = .ok (.iload_n 2, 1) := by decide +kernel
theorem dX4_layOrder_42 : decode cX4_layOrder 42 = .ok (.iload 6, 2) := by decide +kernel
theorem dX4_layOrder_44 : decode cX4_layOrder 44 = .ok (.iload_n 1, 1) := by decide +kernel
theorem dX4_layOrder_45 : decode cX4_layOrder 45 = .ok (.invokevirtual 79, 3) := by decide +kernel
theorem dX4_layOrder_48 : decode cX4_layOrder 48 = .ok (.iadd, 1) := by decide +kernel
theorem dX4_layOrder_49 : decode cX4_layOrder 49 = .ok (.istore 4, 2) := by decide +kernel
theorem dX4_layOrder_51 : decode cX4_layOrder 51 = .ok (.iload_n 3, 1) := by decide +kernel
theorem dX4_layOrder_52 : decode cX4_layOrder 52 = .ok (.iload_n 2, 1) := by decide +kernel
theorem dX4_layOrder_53 : decode cX4_layOrder 53 = .ok (.aload_n 0, 1) := by decide +kernel
theorem dX4_layOrder_54 : decode cX4_layOrder 54 = .ok (.getfield 38, 3) := by decide +kernel
theorem dX4_layOrder_57 : decode cX4_layOrder 57 = .ok (.iload 6, 2) := by decide +kernel
theorem dX4_layOrder_59 : decode cX4_layOrder 59 = .ok (.iaload, 1) := by decide +kernel
theorem dX4_layOrder_60 : decode cX4_layOrder 60 = .ok (.ixor, 1) := by decide +kernel
theorem dX4_layOrder_61 : decode cX4_layOrder 61 = .ok (.invokestatic 73, 3) := by decide +kernel
theorem dX4_layOrder_64 : decode cX4_layOrder 64 = .ok (.iadd, 1) := by decide +kernel
theorem dX4_layOrder_65 : decode cX4_layOrder 65 = .ok (.istore_n 3, 1) := by decide +kernel
theorem dX4_layOrder_66 : decode cX4_layOrder 66 = .ok (.aload_n 0, 1) := by decide +kernel
theorem dX4_layOrder_67 : decode cX4_layOrder 67 = .ok (.getfield 38, 3) := by decide +kernel
theorem dX4_layOrder_70 : decode cX4_layOrder 70 = .ok (.iload 6, 2) := by decide +kernel
theorem dX4_layOrder_72 : decode cX4_layOrder 72 = .ok (.iaload, 1) := by decide +kernel
theorem dX4_layOrder_73 : decode cX4_layOrder 73 = .ok (.istore_n 2, 1) := by decide +kernel
theorem dX4_layOrder_74 : decode cX4_layOrder 74 = .ok (.iload_n 1, 1) := by decide +kernel
theorem dX4_layOrder_75 : decode cX4_layOrder 75 = .ok (.iconst 1, 1) := by decide +kernel
theorem dX4_layOrder_76 : decode cX4_layOrder 76 = .ok (.iload 6, 2) := by decide +kernel
theorem dX4_layOrder_78 : decode cX4_layOrder 78 = .ok (.ishl, 1) := by decide +kernel
theorem dX4_layOrder_79 : decode cX4_layOrder 79 = .ok (.iconst (-1), 1) := by decide +kernel
theorem dX4_layOrder_80 : decode cX4_layOrder 80 = .ok (.ixor, 1) := by decide +kernel
theorem dX4_layOrder_81 : decode cX4_layOrder 81 = .ok (.iand, 1) := by decide +kernel
theorem dX4_layOrder_82 : decode cX4_layOrder 82 = .ok (.istore_n 1, 1) := by decide +kernel
theorem dX4_layOrder_83 : decode cX4_layOrder 83 = .ok (.aload_n 0, 1) := by decide +kernel
theorem dX4_layOrder_84 : decode cX4_layOrder 84 = .ok (.getfield 9, 3) := by decide +kernel
theorem dX4_layOrder_87 : decode cX4_layOrder 87 = .ok (.iload 5, 2) := by decide +kernel
theorem dX4_layOrder_89 : decode cX4_layOrder 89 = .ok (.aload_n 0, 1) := by decide +kernel
theorem dX4_layOrder_90 : decode cX4_layOrder 90 = .ok (.getfield 35, 3) := by decide +kernel
theorem dX4_layOrder_93 : decode cX4_layOrder 93 = .ok (.iload 6, 2) := by decide +kernel
theorem dX4_layOrder_95 : decode cX4_layOrder 95 = .ok (.iaload, 1) := by decide +kernel
theorem dX4_layOrder_96 : decode cX4_layOrder 96 = .ok (.iastore, 1) := by decide +kernel
theorem dX4_layOrder_97 : decode cX4_layOrder 97 = .ok (.iinc 5 1, 3) := by decide +kernel
theorem dX4_layOrder_100 : decode cX4_layOrder 100 = .ok (.goto (-81), 3) := by decide +kernel
theorem dX4_layOrder_103 : decode cX4_layOrder 103 = .ok (.iload 4, 2) := by decide +kernel
theorem dX4_layOrder_105 : decode cX4_layOrder 105 = .ok (.ireturn, 1) := by decide +kernel
theorem dX4_bestWork_0 : decode cX4_bestWork 0 = .ok (.iconst 0, 1) := by decide +kernel
theorem dX4_bestWork_1 : decode cX4_bestWork 1 = .ok (.istore 5, 2) := by decide +kernel
theorem dX4_bestWork_3 : decode cX4_bestWork 3 = .ok (.sipush 1000, 3) := by decide +kernel
theorem dX4_bestWork_6 : decode cX4_bestWork 6 = .ok (.istore 6, 2) := by decide +kernel
theorem dX4_bestWork_8 : decode cX4_bestWork 8 = .ok (.iconst 0, 1) := by decide +kernel
theorem dX4_bestWork_9 : decode cX4_bestWork 9 = .ok (.istore 7, 2) := by decide +kernel
theorem dX4_bestWork_11 : decode cX4_bestWork 11 = .ok (.iload 7, 2) := by decide +kernel
theorem dX4_bestWork_13 : decode cX4_bestWork 13 = .ok (.aload_n 0, 1) := by decide +kernel
theorem dX4_bestWork_14 : decode cX4_bestWork 14 = .ok (.getfield 21, 3) := by decide +kernel
theorem dX4_bestWork_17 : decode cX4_bestWork 17 = .ok (.if_icmp .ge 60, 3) := by decide +kernel
theorem dX4_bestWork_20 : decode cX4_bestWork 20 = .ok (.iload_n 2, 1) := by decide +kernel
theorem dX4_bestWork_21 : decode cX4_bestWork 21 = .ok (.iload 7, 2) := by decide +kernel
theorem dX4_bestWork_23 : decode cX4_bestWork 23 = .ok (.ishr, 1) := by decide +kernel
theorem dX4_bestWork_24 : decode cX4_bestWork 24 = .ok (.iconst 1, 1) := by decide +kernel
theorem dX4_bestWork_25 : decode cX4_bestWork 25 = .ok (.iand, 1) := by decide +kernel
theorem dX4_bestWork_26 : decode cX4_bestWork 26 = .ok (.ifCond .eq 45, 3) := by decide +kernel
theorem dX4_bestWork_29 : decode cX4_bestWork 29 = .ok (.iload 4, 2) := by decide +kernel
theorem dX4_bestWork_31 : decode cX4_bestWork 31 = .ok (.aload_n 0, 1) := by decide +kernel
theorem dX4_bestWork_32 : decode cX4_bestWork 32 = .ok (.iload_n 3, 1) := by decide +kernel
theorem dX4_bestWork_33 : decode cX4_bestWork 33 = .ok (.iload 7, 2) := by decide +kernel
theorem dX4_bestWork_35 : decode cX4_bestWork 35 = .ok (.iload_n 2, 1) := by decide +kernel
theorem dX4_bestWork_36 : decode cX4_bestWork 36 = .ok (.invokevirtual 79, 3) := by decide +kernel
theorem dX4_bestWork_39 : decode cX4_bestWork 39 = .ok (.iadd, 1) := by decide +kernel
theorem dX4_bestWork_40 : decode cX4_bestWork 40 = .ok (.istore 8, 2) := by decide +kernel
theorem dX4_bestWork_42 : decode cX4_bestWork 42 = .ok (.aload_n 0, 1) := by decide +kernel
theorem dX4_bestWork_43 : decode cX4_bestWork 43 = .ok (.iload_n 1, 1) := by decide +kernel
theorem dX4_bestWork_44 : decode cX4_bestWork 44 = .ok (.aload_n 0, 1) := by decide +kernel
theorem dX4_bestWork_45 : decode cX4_bestWork 45 = .ok (.getfield 35, 3) := by decide +kernel
theorem dX4_bestWork_48 : decode cX4_bestWork 48 = .ok (.iload 7, 2) := by decide +kernel
theorem dX4_bestWork_50 : decode cX4_bestWork 50 = .ok (.iaload, 1) := by decide +kernel
theorem dX4_bestWork_51 : decode cX4_bestWork 51 = .ok (.iload 8, 2) := by decide +kernel
theorem dX4_bestWork_53 : decode cX4_bestWork 53 = .ok (.invokevirtual 92, 3) := by decide +kernel
theorem dX4_bestWork_56 : decode cX4_bestWork 56 = .ok (.iload 8, 2) := by decide +kernel
theorem dX4_bestWork_58 : decode cX4_bestWork 58 = .ok (.iload 6, 2) := by decide +kernel
theorem dX4_bestWork_60 : decode cX4_bestWork 60 = .ok (.if_icmp .ge 11, 3) := by decide +kernel
theorem dX4_bestWork_63 : decode cX4_bestWork 63 = .ok (.iload 8, 2) := by decide +kernel
theorem dX4_bestWork_65 : decode cX4_bestWork 65 = .ok (.istore 6, 2) := by decide +kernel
theorem dX4_bestWork_67 : decode cX4_bestWork 67 = .ok (.iload 7, 2) := by decide +kernel
theorem dX4_bestWork_69 : decode cX4_bestWork 69 = .ok (.istore 5, 2) := by decide +kernel
theorem dX4_bestWork_71 : decode cX4_bestWork 71 = .ok (.iinc 7 1, 3) := by decide +kernel
theorem dX4_bestWork_74 : decode cX4_bestWork 74 = .ok (.goto (-63), 3) := by decide +kernel
theorem dX4_bestWork_77 : decode cX4_bestWork 77 = .ok (.iload 5, 2) := by decide +kernel
theorem dX4_bestWork_79 : decode cX4_bestWork 79 = .ok (.ireturn, 1) := by decide +kernel
theorem dX4_addRow_0 : decode cX4_addRow 0 = .ok (.aload_n 0, 1) := by decide +kernel
theorem dX4_addRow_1 : decode cX4_addRow 1 = .ok (.getfield 25, 3) := by decide +kernel
theorem dX4_addRow_4 : decode cX4_addRow 4 = .ok (.bipush 28, 2) := by decide +kernel
theorem dX4_addRow_6 : decode cX4_addRow 6 = .ok (.if_icmp .lt 4, 3) := by decide +kernel
theorem dX4_addRow_9 : decode cX4_addRow 9 = .ok (.return_, 1) := by decide +kernel
theorem dX4_addRow_10 : decode cX4_addRow 10 = .ok (.aload_n 0, 1) := by decide +kernel
theorem dX4_addRow_11 : decode cX4_addRow 11 = .ok (.getfield 15, 3) := by decide +kernel
theorem dX4_addRow_14 : decode cX4_addRow 14 = .ok (.aload_n 0, 1) := by decide +kernel
theorem dX4_addRow_15 : decode cX4_addRow 15 = .ok (.getfield 25, 3) := by decide +kernel
theorem dX4_addRow_18 : decode cX4_addRow 18 = .ok (.iconst 3, 1) := by decide +kernel
theorem dX4_addRow_19 : decode cX4_addRow 19 = .ok (.imul, 1) := by decide +kernel
theorem dX4_addRow_20 : decode cX4_addRow 20 = .ok (.iload_n 1, 1) := by decide +kernel
theorem dX4_addRow_21 : decode cX4_addRow 21 = .ok (.iastore, 1) := by decide +kernel
theorem dX4_addRow_22 : decode cX4_addRow 22 = .ok (.aload_n 0, 1) := by decide +kernel
theorem dX4_addRow_23 : decode cX4_addRow 23 = .ok (.getfield 15, 3) := by decide +kernel
theorem dX4_addRow_26 : decode cX4_addRow 26 = .ok (.aload_n 0, 1) := by decide +kernel
theorem dX4_addRow_27 : decode cX4_addRow 27 = .ok (.getfield 25, 3) := by decide +kernel
theorem dX4_addRow_30 : decode cX4_addRow 30 = .ok (.iconst 3, 1) := by decide +kernel
theorem dX4_addRow_31 : decode cX4_addRow 31 = .ok (.imul, 1) := by decide +kernel
theorem dX4_addRow_32 : decode cX4_addRow 32 = .ok (.iconst 1, 1) := by decide +kernel
theorem dX4_addRow_33 : decode cX4_addRow 33 = .ok (.iadd, 1) := by decide +kernel
theorem dX4_addRow_34 : decode cX4_addRow 34 = .ok (.iload_n 2, 1) := by decide +kernel
theorem dX4_addRow_35 : decode cX4_addRow 35 = .ok (.iastore, 1) := by decide +kernel
theorem dX4_addRow_36 : decode cX4_addRow 36 = .ok (.aload_n 0, 1) := by decide +kernel
theorem dX4_addRow_37 : decode cX4_addRow 37 = .ok (.getfield 15, 3) := by decide +kernel
theorem dX4_addRow_40 : decode cX4_addRow 40 = .ok (.aload_n 0, 1) := by decide +kernel
theorem dX4_addRow_41 : decode cX4_addRow 41 = .ok (.getfield 25, 3) := by decide +kernel
theorem dX4_addRow_44 : decode cX4_addRow 44 = .ok (.iconst 3, 1) := by decide +kernel
theorem dX4_addRow_45 : decode cX4_addRow 45 = .ok (.imul, 1) := by decide +kernel
theorem dX4_addRow_46 : decode cX4_addRow 46 = .ok (.iconst 2, 1) := by decide +kernel
theorem dX4_addRow_47 : decode cX4_addRow 47 = .ok (.iadd, 1) := by decide +kernel
theorem dX4_addRow_48 : decode cX4_addRow 48 = .ok (.iload_n 3, 1) := by decide +kernel
theorem dX4_addRow_49 : decode cX4_addRow 49 = .ok (.iastore, 1) := by decide +kernel
theorem dX4_addRow_50 : decode cX4_addRow 50 = .ok (.aload_n 0, 1) := by decide +kernel
theorem dX4_addRow_51 : decode cX4_addRow 51 = .ok (.dup, 1) := by decide +kernel
theorem dX4_addRow_52 : decode cX4_addRow 52 = .ok (.getfield 25, 3) := by decide +kernel
theorem dX4_addRow_55 : decode cX4_addRow 55 = .ok (.iconst 1, 1) := by decide +kernel
theorem dX4_addRow_56 : decode cX4_addRow 56 = .ok (.iadd, 1) := by decide +kernel
theorem dX4_addRow_57 : decode cX4_addRow 57 = .ok (.putfield 25, 3) := by decide +kernel
theorem dX4_addRow_60 : decode cX4_addRow 60 = .ok (.return_, 1) := by decide +kernel
theorem dX4_firstWrongRow_0 : decode cX4_firstWrongRow 0 = .ok (.iconst 0, 1) := by decide +kernel
theorem dX4_firstWrongRow_1 : decode cX4_firstWrongRow 1 = .ok (.istore_n 1, 1) := by decide +kernel
theorem dX4_firstWrongRow_2 : decode cX4_firstWrongRow 2 = .ok (.iload_n 1, 1) := by decide +kernel
theorem dX4_firstWrongRow_3 : decode cX4_firstWrongRow 3 = .ok (.aload_n 0, 1) := by decide +kernel
theorem dX4_firstWrongRow_4 : decode cX4_firstWrongRow 4 = .ok (.getfield 28, 3) := by decide +kernel
theorem dX4_firstWrongRow_7 : decode cX4_firstWrongRow 7 = .ok (.iconst 3, 1) := by decide +kernel
theorem dX4_firstWrongRow_8 : decode cX4_firstWrongRow 8 = .ok (.imul, 1) := by decide +kernel
theorem dX4_firstWrongRow_9 : decode cX4_firstWrongRow 9 = .ok (.if_icmp .ge 28, 3) := by decide +kernel
theorem dX4_firstWrongRow_12 : decode cX4_firstWrongRow 12 = .ok (.aload_n 0, 1) := by decide +kernel
theorem dX4_firstWrongRow_13 : decode cX4_firstWrongRow 13 = .ok (.getfield 18, 3) := by decide +kernel
theorem dX4_firstWrongRow_16 : decode cX4_firstWrongRow 16 = .ok (.iload_n 1, 1) := by decide +kernel
theorem dX4_firstWrongRow_17 : decode cX4_firstWrongRow 17 = .ok (.iaload, 1) := by decide +kernel
theorem dX4_firstWrongRow_18 : decode cX4_firstWrongRow 18 = .ok (.aload_n 0, 1) := by decide +kernel
theorem dX4_firstWrongRow_19 : decode cX4_firstWrongRow 19 = .ok (.getfield 15, 3) := by decide +kernel
theorem dX4_firstWrongRow_22 : decode cX4_firstWrongRow 22 = .ok (.iload_n 1, 1) := by decide +kernel
theorem dX4_firstWrongRow_23 : decode cX4_firstWrongRow 23 = .ok (.iaload, 1) := by decide +kernel
theorem dX4_firstWrongRow_24 : decode cX4_firstWrongRow 24 = .ok (.if_icmp .eq 7, 3) := by decide +kernel
theorem dX4_firstWrongRow_27 : decode cX4_firstWrongRow 27 = .ok (.iload_n 1, 1) := by decide +kernel
theorem dX4_firstWrongRow_28 : decode cX4_firstWrongRow 28 = .ok (.iconst 3, 1) := by decide +kernel
theorem dX4_firstWrongRow_29 : decode cX4_firstWrongRow 29 = .ok (.idiv, 1) := by decide +kernel
theorem dX4_firstWrongRow_30 : decode cX4_firstWrongRow 30 = .ok (.ireturn, 1) := by decide +kernel
theorem dX4_firstWrongRow_31 : decode cX4_firstWrongRow 31 = .ok (.iinc 1 1, 3) := by decide +kernel
theorem dX4_firstWrongRow_34 : decode cX4_firstWrongRow 34 = .ok (.goto (-32), 3) := by decide +kernel
theorem dX4_firstWrongRow_37 : decode cX4_firstWrongRow 37 = .ok (.aload_n 0, 1) := by decide +kernel
theorem dX4_firstWrongRow_38 : decode cX4_firstWrongRow 38 = .ok (.getfield 28, 3) := by decide +kernel
theorem dX4_firstWrongRow_41 : decode cX4_firstWrongRow 41 = .ok (.aload_n 0, 1) := by decide +kernel
theorem dX4_firstWrongRow_42 : decode cX4_firstWrongRow 42 = .ok (.getfield 25, 3) := by decide +kernel
theorem dX4_firstWrongRow_45 : decode cX4_firstWrongRow 45 = .ok (.if_icmp .ge 10, 3) := by decide +kernel
theorem dX4_firstWrongRow_48 : decode cX4_firstWrongRow 48 = .ok (.aload_n 0, 1) := by decide +kernel
theorem dX4_firstWrongRow_49 : decode cX4_firstWrongRow 49 = .ok (.getfield 28, 3) := by decide +kernel
theorem dX4_firstWrongRow_52 : decode cX4_firstWrongRow 52 = .ok (.goto 4, 3) := by decide +kernel
theorem dX4_firstWrongRow_55 : decode cX4_firstWrongRow 55 = .ok (.iconst (-1), 1) := by decide +kernel
theorem dX4_firstWrongRow_56 : decode cX4_firstWrongRow 56 = .ok (.ireturn, 1) := by decide +kernel
theorem dX5_init_0 : decode cX5_init 0 = .ok (.aload_n 0, 1) := by decide +kernel
theorem dX5_init_1 : decode cX5_init 1 = .ok (.invokespecial 3, 3) := by decide +kernel
theorem dX5_init_4 : decode cX5_init 4 = .ok (.aload_n 0, 1) := by decide +kernel
theorem dX5_init_5 : decode cX5_init 5 = .ok (.new 9, 3) := by decide +kernel
theorem dX5_init_8 : decode cX5_init 8 = .ok (.dup, 1) := by decide +kernel
theorem dX5_init_9 : decode cX5_init 9 = .ok (.invokespecial 11, 3) := by decide +kernel
theorem dX5_init_12 : decode cX5_init 12 = .ok (.putfield 12, 3) := by decide +kernel
theorem dX5_init_15 : decode cX5_init 15 = .ok (.aload_n 0, 1) := by decide +kernel
theorem dX5_init_16 : decode cX5_init 16 = .ok (.new 18, 3) := by decide +kernel
theorem dX5_init_19 : decode cX5_init 19 = .ok (.dup, 1) := by decide +kernel
theorem dX5_init_20 : decode cX5_init 20 = .ok (.invokespecial 20, 3) := by decide +kernel
theorem dX5_init_23 : decode cX5_init 23 = .ok (.putfield 21, 3) := by decide +kernel
theorem dX5_init_26 : decode cX5_init 26 = .ok (.aload_n 0, 1) := by decide +kernel
theorem dX5_init_27 : decode cX5_init 27 = .ok (.new 25, 3) := by decide +kernel
theorem dX5_init_30 : decode cX5_init 30 = .ok (.dup, 1) := by decide +kernel
theorem dX5_init_31 : decode cX5_init 31 = .ok (.invokespecial 27, 3) := by decide +kernel
theorem dX5_init_34 : decode cX5_init 34 = .ok (.putfield 28, 3) := by decide +kernel
theorem dX5_init_37 : decode cX5_init 37 = .ok (.aload_n 0, 1) := by decide +kernel
theorem dX5_init_38 : decode cX5_init 38 = .ok (.new 32, 3) := by decide +kernel
theorem dX5_init_41 : decode cX5_init 41 = .ok (.dup, 1) := by decide +kernel
theorem dX5_init_42 : decode cX5_init 42 = .ok (.invokespecial 34, 3) := by decide +kernel
theorem dX5_init_45 : decode cX5_init 45 = .ok (.putfield 35, 3) := by decide +kernel
theorem dX5_init_48 : decode cX5_init 48 = .ok (.return_, 1) := by decide +kernel
theorem dX5_closedNow_0 : decode cX5_closedNow 0 = .ok (.aload_n 0, 1) := by decide +kernel
theorem dX5_closedNow_1 : decode cX5_closedNow 1 = .ok (.getfield 12, 3) := by decide +kernel
theorem dX5_closedNow_4 : decode cX5_closedNow 4 = .ok (.getfield 39, 3) := by decide +kernel
theorem dX5_closedNow_7 : decode cX5_closedNow 7 = .ok (.aload_n 0, 1) := by decide +kernel
theorem dX5_closedNow_8 : decode cX5_closedNow 8 = .ok (.getfield 28, 3) := by decide +kernel
theorem dX5_closedNow_11 : decode cX5_closedNow 11 = .ok (.invokevirtual 43, 3) := by decide +kernel
theorem dX5_closedNow_14 : decode cX5_closedNow 14 = .ok (.ior, 1) := by decide +kernel
theorem dX5_closedNow_15 : decode cX5_closedNow 15 = .ok (.ireturn, 1) := by decide +kernel
theorem dX5_firstBar_0 : decode cX5_firstBar 0 = .ok (.getstatic 47, 3) := by decide +kernel
theorem dX5_firstBar_3 : decode cX5_firstBar 3 = .ok (.iload_n 2, 1) := by decide +kernel
theorem dX5_firstBar_4 : decode cX5_firstBar 4 = .ok (.iaload, 1) := by decide +kernel
theorem dX5_firstBar_5 : decode cX5_firstBar 5 = .ok (.aload_n 0, 1) := by decide +kernel
theorem dX5_firstBar_6 : decode cX5_firstBar 6 = .ok (.getfield 28, 3) := by decide +kernel
theorem dX5_firstBar_9 : decode cX5_firstBar 9 = .ok (.getfield 51, 3) := by decide +kernel
theorem dX5_firstBar_12 : decode cX5_firstBar 12 = .ok (.iload_n 1, 1) := by decide +kernel
theorem dX5_firstBar_13 : decode cX5_firstBar 13 = .ok (.iaload, 1) := by decide +kernel
theorem dX5_firstBar_14 : decode cX5_firstBar 14 = .ok (.ishr, 1) := by decide +kernel
theorem dX5_firstBar_15 : decode cX5_firstBar 15 = .ok (.iconst 1, 1) := by decide +kernel
theorem dX5_firstBar_16 : decode cX5_firstBar 16 = .ok (.iand, 1) := by decide +kernel
theorem dX5_firstBar_17 : decode cX5_firstBar 17 = .ok (.ifCond .ne 5, 3) := by decide +kernel
theorem dX5_firstBar_20 : decode cX5_firstBar 20 = .ok (.iconst 1, 1) := by decide +kernel
theorem dX5_firstBar_21 : decode cX5_firstBar 21 = .ok (.ireturn, 1) := by decide +kernel
theorem dX5_firstBar_22 : decode cX5_firstBar 22 = .ok (.iload_n 2, 1) := by decide +kernel
theorem dX5_firstBar_23 : decode cX5_firstBar 23 = .ok (.tableswitch 68 2 5 #[29, 36, 54, 61], 29) := by decide +kernel
theorem dX5_firstBar_52 : decode cX5_firstBar 52 = .ok (.aload_n 0, 1) := by decide +kernel
theorem dX5_firstBar_53 : decode cX5_firstBar 53 = .ok (.iload_n 1, 1) := by decide +kernel
theorem dX5_firstBar_54 : decode cX5_firstBar 54 = .ok (.iload_n 3, 1) := by decide +kernel
theorem dX5_firstBar_55 : decode cX5_firstBar 55 = .ok (.invokevirtual 54, 3) := by decide +kernel
theorem dX5_firstBar_58 : decode cX5_firstBar 58 = .ok (.ireturn, 1) := by decide +kernel
theorem dX5_firstBar_59 : decode cX5_firstBar 59 = .ok (.aload_n 0, 1) := by decide +kernel
theorem dX5_firstBar_60 : decode cX5_firstBar 60 = .ok (.getfield 35, 3) := by decide +kernel
theorem dX5_firstBar_63 : decode cX5_firstBar 63 = .ok (.iload_n 1, 1) := by decide +kernel
theorem dX5_firstBar_64 : decode cX5_firstBar 64 = .ok (.invokevirtual 58, 3) := by decide +kernel
theorem dX5_firstBar_67 : decode cX5_firstBar 67 = .ok (.ifCond .le 8, 3) := by decide +kernel
theorem dX5_firstBar_70 : decode cX5_firstBar 70 = .ok (.bipush 7, 2) := by decide +kernel
theorem dX5_firstBar_72 : decode cX5_firstBar 72 = .ok (.goto 4, 3) := by decide +kernel
theorem dX5_firstBar_75 : decode cX5_firstBar 75 = .ok (.iconst 0, 1) := by decide +kernel
theorem dX5_firstBar_76 : decode cX5_firstBar 76 = .ok (.ireturn, 1) := by decide +kernel
theorem dX5_firstBar_77 : decode cX5_firstBar 77 = .ok (.aload_n 0, 1) := by decide +kernel
theorem dX5_firstBar_78 : decode cX5_firstBar 78 = .ok (.iload_n 1, 1) := by decide +kernel
theorem dX5_firstBar_79 : decode cX5_firstBar 79 = .ok (.iload_n 3, 1) := by decide +kernel
theorem dX5_firstBar_80 : decode cX5_firstBar 80 = .ok (.invokevirtual 62, 3) := by decide +kernel
theorem dX5_firstBar_83 : decode cX5_firstBar 83 = .ok (.ireturn, 1) := by decide +kernel
theorem dX5_firstBar_84 : decode cX5_firstBar 84 = .ok (.aload_n 0, 1) := by decide +kernel
theorem dX5_firstBar_85 : decode cX5_firstBar 85 = .ok (.iload_n 1, 1) := by decide +kernel
theorem dX5_firstBar_86 : decode cX5_firstBar 86 = .ok (.iload_n 3, 1) := by decide +kernel
theorem dX5_firstBar_87 : decode cX5_firstBar 87 = .ok (.invokevirtual 65, 3) := by decide +kernel
theorem dX5_firstBar_90 : decode cX5_firstBar 90 = .ok (.ireturn, 1) := by decide +kernel
theorem dX5_firstBar_91 : decode cX5_firstBar 91 = .ok (.iconst 0, 1) := by decide +kernel
theorem dX5_firstBar_92 : decode cX5_firstBar 92 = .ok (.ireturn, 1) := by decide +kernel
theorem dX5_barOfStart_0 : decode cX5_barOfStart 0 = .ok (.aload_n 0, 1) := by decide +kernel
theorem dX5_barOfStart_1 : decode cX5_barOfStart 1 = .ok (.getfield 12, 3) := by decide +kernel
theorem dX5_barOfStart_4 : decode cX5_barOfStart 4 = .ok (.aload_n 0, 1) := by decide +kernel
theorem dX5_barOfStart_5 : decode cX5_barOfStart 5 = .ok (.getfield 28, 3) := by decide +kernel
theorem dX5_barOfStart_8 : decode cX5_barOfStart 8 = .ok (.getfield 68, 3) := by decide +kernel
theorem dX5_barOfStart_11 : decode cX5_barOfStart 11 = .ok (.iload_n 1, 1) := by decide +kernel
theorem dX5_barOfStart_12 : decode cX5_barOfStart 12 = .ok (.iaload, 1) := by decide +kernel
theorem dX5_barOfStart_13 : decode cX5_barOfStart 13 = .ok (.aload_n 0, 1) := by decide +kernel
theorem dX5_barOfStart_14 : decode cX5_barOfStart 14 = .ok (.invokevirtual 71, 3) := by decide +kernel
theorem dX5_barOfStart_17 : decode cX5_barOfStart 17 = .ok (.aload_n 0, 1) := by decide +kernel
theorem dX5_barOfStart_18 : decode cX5_barOfStart 18 = .ok (.getfield 12, 3) := by decide +kernel
theorem dX5_barOfStart_21 : decode cX5_barOfStart 21 = .ok (.invokevirtual 74, 3) := by decide +kernel
theorem dX5_barOfStart_24 : decode cX5_barOfStart 24 = .ok (.aload_n 0, 1) := by decide +kernel
theorem dX5_barOfStart_25 : decode cX5_barOfStart 25 = .ok (.getfield 21, 3) := by decide +kernel
theorem dX5_barOfStart_28 : decode cX5_barOfStart 28 = .ok (.iload_n 2, 1) := by decide +kernel
theorem dX5_barOfStart_29 : decode cX5_barOfStart 29 = .ok (.invokevirtual 77, 3) := by decide +kernel
theorem dX5_barOfStart_32 : decode cX5_barOfStart 32 = .ok (.invokevirtual 80, 3) := by decide +kernel
theorem dX5_barOfStart_35 : decode cX5_barOfStart 35 = .ok (.ifCond .ne 5, 3) := by decide +kernel
theorem dX5_barOfStart_38 : decode cX5_barOfStart 38 = .ok (.iconst 2, 1) := by decide +kernel
theorem dX5_barOfStart_39 : decode cX5_barOfStart 39 = .ok (.ireturn, 1) := by decide +kernel
theorem dX5_barOfStart_40 : decode cX5_barOfStart 40 = .ok (.aload_n 0, 1) := by decide +kernel
theorem dX5_barOfStart_41 : decode cX5_barOfStart 41 = .ok (.iload_n 1, 1) := by decide +kernel
theorem dX5_barOfStart_42 : decode cX5_barOfStart 42 = .ok (.iload_n 2, 1) := by decide +kernel
theorem dX5_barOfStart_43 : decode cX5_barOfStart 43 = .ok (.invokevirtual 84, 3) := by decide +kernel
theorem dX5_barOfStart_46 : decode cX5_barOfStart 46 = .ok (.ifCond .eq 5, 3) := by decide +kernel
theorem dX5_barOfStart_49 : decode cX5_barOfStart 49 = .ok (.iconst 3, 1) := by decide +kernel
theorem dX5_barOfStart_50 : decode cX5_barOfStart 50 = .ok (.ireturn, 1) := by decide +kernel
theorem dX5_barOfStart_51 : decode cX5_barOfStart 51 = .ok (.aload_n 0, 1) := by decide +kernel
theorem dX5_barOfStart_52 : decode cX5_barOfStart 52 = .ok (.iload_n 1, 1) := by decide +kernel
theorem dX5_barOfStart_53 : decode cX5_barOfStart 53 = .ok (.iload_n 2, 1) := by decide +kernel
theorem dX5_barOfStart_54 : decode cX5_barOfStart 54 = .ok (.invokevirtual 88, 3) := by decide +kernel
theorem dX5_barOfStart_57 : decode cX5_barOfStart 57 = .ok (.bipush (-3), 2) := by decide +kernel
theorem dX5_barOfStart_59 : decode cX5_barOfStart 59 = .ok (.if_icmp .eq 5, 3) := by decide +kernel
theorem dX5_barOfStart_62 : decode cX5_barOfStart 62 = .ok (.iconst 4, 1) := by decide +kernel
theorem dX5_barOfStart_63 : decode cX5_barOfStart 63 = .ok (.ireturn, 1) := by decide +kernel
theorem dX5_barOfStart_64 : decode cX5_barOfStart 64 = .ok (.aload_n 0, 1) := by decide +kernel
theorem dX5_barOfStart_65 : decode cX5_barOfStart 65 = .ok (.iload_n 1, 1) := by decide +kernel
theorem dX5_barOfStart_66 : decode cX5_barOfStart 66 = .ok (.iload_n 2, 1) := by decide +kernel
theorem dX5_barOfStart_67 : decode cX5_barOfStart 67 = .ok (.invokevirtual 91, 3) := by decide +kernel
theorem dX5_barOfStart_70 : decode cX5_barOfStart 70 = .ok (.ifCond .eq 5, 3) := by decide +kernel
theorem dX5_barOfStart_73 : decode cX5_barOfStart 73 = .ok (.iconst 5, 1) := by decide +kernel
theorem dX5_barOfStart_74 : decode cX5_barOfStart 74 = .ok (.ireturn, 1) := by decide +kernel
theorem dX5_barOfStart_75 : decode cX5_barOfStart 75 = .ok (.aload_n 0, 1) := by decide +kernel
theorem dX5_barOfStart_76 : decode cX5_barOfStart 76 = .ok (.getfield 35, 3) := by decide +kernel
theorem dX5_barOfStart_79 : decode cX5_barOfStart 79 = .ok (.aload_n 0, 1) := by decide +kernel
theorem dX5_barOfStart_80 : decode cX5_barOfStart 80 = .ok (.getfield 28, 3) := by decide +kernel
theorem dX5_barOfStart_83 : decode cX5_barOfStart 83 = .ok (.getfield 94, 3) := by decide +kernel
theorem dX5_barOfStart_86 : decode cX5_barOfStart 86 = .ok (.iload_n 1, 1) := by decide +kernel
theorem dX5_barOfStart_87 : decode cX5_barOfStart 87 = .ok (.iaload, 1) := by decide +kernel
theorem dX5_barOfStart_88 : decode cX5_barOfStart 88 = .ok (.invokevirtual 97, 3) := by decide +kernel
theorem dX5_barOfStart_91 : decode cX5_barOfStart 91 = .ok (.ifCond .eq 7, 3) := by decide +kernel
theorem dX5_barOfStart_94 : decode cX5_barOfStart 94 = .ok (.iconst 0, 1) := by decide +kernel
theorem dX5_barOfStart_95 : decode cX5_barOfStart 95 = .ok (.goto 5, 3) := by decide +kernel
theorem dX5_barOfStart_98 : decode cX5_barOfStart 98 = .ok (.bipush 6, 2) := by decide +kernel
theorem dX5_barOfStart_100 : decode cX5_barOfStart 100 = .ok (.ireturn, 1) := by decide +kernel
theorem dX5_barOfBack_0 : decode cX5_barOfBack 0 = .ok (.aload_n 0, 1) := by decide +kernel
theorem dX5_barOfBack_1 : decode cX5_barOfBack 1 = .ok (.getfield 35, 3) := by decide +kernel
theorem dX5_barOfBack_4 : decode cX5_barOfBack 4 = .ok (.iload_n 1, 1) := by decide +kernel
theorem dX5_barOfBack_5 : decode cX5_barOfBack 5 = .ok (.invokevirtual 58, 3) := by decide +kernel
theorem dX5_barOfBack_8 : decode cX5_barOfBack 8 = .ok (.ifCond .le 6, 3) := by decide +kernel
theorem dX5_barOfBack_11 : decode cX5_barOfBack 11 = .ok (.bipush 7, 2) := by decide +kernel
theorem dX5_barOfBack_13 : decode cX5_barOfBack 13 = .ok (.ireturn, 1) := by decide +kernel
theorem dX5_barOfBack_14 : decode cX5_barOfBack 14 = .ok (.aload_n 0, 1) := by decide +kernel
theorem dX5_barOfBack_15 : decode cX5_barOfBack 15 = .ok (.iload_n 1, 1) := by decide +kernel
theorem dX5_barOfBack_16 : decode cX5_barOfBack 16 = .ok (.iload_n 2, 1) := by decide +kernel
theorem dX5_barOfBack_17 : decode cX5_barOfBack 17 = .ok (.invokevirtual 101, 3) := by decide +kernel
theorem dX5_barOfBack_20 : decode cX5_barOfBack 20 = .ok (.ifCond .eq 8, 3) := by decide +kernel
theorem dX5_barOfBack_23 : decode cX5_barOfBack 23 = .ok (.bipush 8, 2) := by decide +kernel
theorem dX5_barOfBack_25 : decode cX5_barOfBack 25 = .ok (.goto 4, 3) := by decide +kernel
theorem dX5_barOfBack_28 : decode cX5_barOfBack 28 = .ok (.iconst 0, 1) := by decide +kernel
theorem dX5_barOfBack_29 : decode cX5_barOfBack 29 = .ok (.ireturn, 1) := by decide +kernel
theorem dX5_barOfEnter_0 : decode cX5_barOfEnter 0 = .ok (.aload_n 0, 1) := by decide +kernel
theorem dX5_barOfEnter_1 : decode cX5_barOfEnter 1 = .ok (.iload_n 1, 1) := by decide +kernel
theorem dX5_barOfEnter_2 : decode cX5_barOfEnter 2 = .ok (.iload_n 2, 1) := by decide +kernel
theorem dX5_barOfEnter_3 : decode cX5_barOfEnter 3 = .ok (.invokevirtual 84, 3) := by decide +kernel
theorem dX5_barOfEnter_6 : decode cX5_barOfEnter 6 = .ok (.ifCond .eq 5, 3) := by decide +kernel
theorem dX5_barOfEnter_9 : decode cX5_barOfEnter 9 = .ok (.iconst 3, 1) := by decide +kernel
theorem dX5_barOfEnter_10 : decode cX5_barOfEnter 10 = .ok (.ireturn, 1) := by decide +kernel
theorem dX5_barOfEnter_11 : decode cX5_barOfEnter 11 = .ok (.aload_n 0, 1) := by decide +kernel
theorem dX5_barOfEnter_12 : decode cX5_barOfEnter 12 = .ok (.iload_n 1, 1) := by decide +kernel
theorem dX5_barOfEnter_13 : decode cX5_barOfEnter 13 = .ok (.iload_n 2, 1) := by decide +kernel
theorem dX5_barOfEnter_14 : decode cX5_barOfEnter 14 = .ok (.invokevirtual 91, 3) := by decide +kernel
theorem dX5_barOfEnter_17 : decode cX5_barOfEnter 17 = .ok (.ifCond .eq 5, 3) := by decide +kernel
theorem dX5_barOfEnter_20 : decode cX5_barOfEnter 20 = .ok (.iconst 5, 1) := by decide +kernel
theorem dX5_barOfEnter_21 : decode cX5_barOfEnter 21 = .ok (.ireturn, 1) := by decide +kernel
theorem dX5_barOfEnter_22 : decode cX5_barOfEnter 22 = .ok (.aload_n 0, 1) := by decide +kernel
theorem dX5_barOfEnter_23 : decode cX5_barOfEnter 23 = .ok (.iload_n 1, 1) := by decide +kernel
theorem dX5_barOfEnter_24 : decode cX5_barOfEnter 24 = .ok (.iload_n 2, 1) := by decide +kernel
theorem dX5_barOfEnter_25 : decode cX5_barOfEnter 25 = .ok (.invokevirtual 104, 3) := by decide +kernel
theorem dX5_barOfEnter_28 : decode cX5_barOfEnter 28 = .ok (.ifCond .eq 8, 3) := by decide +kernel
theorem dX5_barOfEnter_31 : decode cX5_barOfEnter 31 = .ok (.bipush 7, 2) := by decide +kernel
theorem dX5_barOfEnter_33 : decode cX5_barOfEnter 33 = .ok (.goto 4, 3) := by decide +kernel
theorem dX5_barOfEnter_36 : decode cX5_barOfEnter 36 = .ok (.iconst 0, 1) := by decide +kernel
theorem dX5_barOfEnter_37 : decode cX5_barOfEnter 37 = .ok (.ireturn, 1) := by decide +kernel
theorem dX5_lacksTest_0 : decode cX5_lacksTest 0 = .ok (.iconst 0, 1) := by decide +kernel
theorem dX5_lacksTest_1 : decode cX5_lacksTest 1 = .ok (.istore_n 3, 1) := by decide +kernel
theorem dX5_lacksTest_2 : decode cX5_lacksTest 2 = .ok (.iload_n 3, 1) := by decide +kernel
theorem dX5_lacksTest_3 : decode cX5_lacksTest 3 = .ok (.aload_n 0, 1) := by decide +kernel
theorem dX5_lacksTest_4 : decode cX5_lacksTest 4 = .ok (.getfield 21, 3) := by decide +kernel
theorem dX5_lacksTest_7 : decode cX5_lacksTest 7 = .ok (.getfield 107, 3) := by decide +kernel
theorem dX5_lacksTest_10 : decode cX5_lacksTest 10 = .ok (.if_icmp .ge 58, 3) := by decide +kernel
theorem dX5_lacksTest_13 : decode cX5_lacksTest 13 = .ok (.aload_n 0, 1) := by decide +kernel
theorem dX5_lacksTest_14 : decode cX5_lacksTest 14 = .ok (.getfield 21, 3) := by decide +kernel
theorem dX5_lacksTest_17 : decode cX5_lacksTest 17 = .ok (.iload_n 3, 1) := by decide +kernel
theorem dX5_lacksTest_18 : decode cX5_lacksTest 18 = .ok (.iconst 0, 1) := by decide +kernel
theorem dX5_lacksTest_19 : decode cX5_lacksTest 19 = .ok (.aload_n 0, 1) := by decide +kernel
theorem dX5_lacksTest_20 : decode cX5_lacksTest 20 = .ok (.getfield 28, 3) := by decide +kernel
theorem dX5_lacksTest_23 : decode cX5_lacksTest 23 = .ok (.getfield 110, 3) := by decide +kernel
theorem dX5_lacksTest_26 : decode cX5_lacksTest 26 = .ok (.iload_n 1, 1) := by decide +kernel
theorem dX5_lacksTest_27 : decode cX5_lacksTest 27 = .ok (.iaload, 1) := by decide +kernel
theorem dX5_lacksTest_28 : decode cX5_lacksTest 28 = .ok (.iload_n 2, 1) := by decide +kernel
theorem dX5_lacksTest_29 : decode cX5_lacksTest 29 = .ok (.invokevirtual 113, 3) := by decide +kernel
theorem dX5_lacksTest_32 : decode cX5_lacksTest 32 = .ok (.istore 4, 2) := by decide +kernel
theorem dX5_lacksTest_34 : decode cX5_lacksTest 34 = .ok (.iload 4, 2) := by decide +kernel
theorem dX5_lacksTest_36 : decode cX5_lacksTest 36 = .ok (.ifCond .eq 26, 3) := by decide +kernel
theorem dX5_lacksTest_39 : decode cX5_lacksTest 39 = .ok (.aload_n 0, 1) := by decide +kernel
theorem dX5_lacksTest_40 : decode cX5_lacksTest 40 = .ok (.getfield 28, 3) := by decide +kernel
theorem dX5_lacksTest_43 : decode cX5_lacksTest 43 = .ok (.iload_n 1, 1) := by decide +kernel
theorem dX5_lacksTest_44 : decode cX5_lacksTest 44 = .ok (.iload_n 2, 1) := by decide +kernel
theorem dX5_lacksTest_45 : decode cX5_lacksTest 45 = .ok (.aload_n 0, 1) := by decide +kernel
theorem dX5_lacksTest_46 : decode cX5_lacksTest 46 = .ok (.getfield 21, 3) := by decide +kernel
theorem dX5_lacksTest_49 : decode cX5_lacksTest 49 = .ok (.getfield 116, 3) := by decide +kernel
theorem dX5_lacksTest_52 : decode cX5_lacksTest 52 = .ok (.iload_n 3, 1) := by decide +kernel
theorem dX5_lacksTest_53 : decode cX5_lacksTest 53 = .ok (.iaload, 1) := by decide +kernel
theorem dX5_lacksTest_54 : decode cX5_lacksTest 54 = .ok (.invokevirtual 119, 3) := by decide +kernel
theorem dX5_lacksTest_57 : decode cX5_lacksTest 57 = .ok (.ifCond .ne 5, 3) := by decide +kernel
theorem dX5_lacksTest_60 : decode cX5_lacksTest 60 = .ok (.iconst 1, 1) := by decide +kernel
theorem dX5_lacksTest_61 : decode cX5_lacksTest 61 = .ok (.ireturn, 1) := by decide +kernel
theorem dX5_lacksTest_62 : decode cX5_lacksTest 62 = .ok (.iinc 3 1, 3) := by decide +kernel
theorem dX5_lacksTest_65 : decode cX5_lacksTest 65 = .ok (.goto (-63), 3) := by decide +kernel
theorem dX5_lacksTest_68 : decode cX5_lacksTest 68 = .ok (.iconst 0, 1) := by decide +kernel
theorem dX5_lacksTest_69 : decode cX5_lacksTest 69 = .ok (.ireturn, 1) := by decide +kernel
theorem dX5_quarrelOf_0 : decode cX5_quarrelOf 0 = .ok (.iconst 0, 1) := by decide +kernel
theorem dX5_quarrelOf_1 : decode cX5_quarrelOf 1 = .ok (.istore_n 3, 1) := by decide +kernel
theorem dX5_quarrelOf_2 : decode cX5_quarrelOf 2 = .ok (.iload_n 3, 1) := by decide +kernel
theorem dX5_quarrelOf_3 : decode cX5_quarrelOf 3 = .ok (.aload_n 0, 1) := by decide +kernel
theorem dX5_quarrelOf_4 : decode cX5_quarrelOf 4 = .ok (.getfield 28, 3) := by decide +kernel
theorem dX5_quarrelOf_7 : decode cX5_quarrelOf 7 = .ok (.getfield 123, 3) := by decide +kernel
theorem dX5_quarrelOf_10 : decode cX5_quarrelOf 10 = .ok (.if_icmp .ge 87, 3) := by decide +kernel
theorem dX5_quarrelOf_13 : decode cX5_quarrelOf 13 = .ok (.iload_n 3, 1) := by decide +kernel
theorem dX5_quarrelOf_14 : decode cX5_quarrelOf 14 = .ok (.iload_n 1, 1) := by decide +kernel
theorem dX5_quarrelOf_15 : decode cX5_quarrelOf 15 = .ok (.if_icmp .eq 76, 3) := by decide +kernel
theorem dX5_quarrelOf_18 : decode cX5_quarrelOf 18 = .ok (.aload_n 0, 1) := by decide +kernel
theorem dX5_quarrelOf_19 : decode cX5_quarrelOf 19 = .ok (.getfield 28, 3) := by decide +kernel
theorem dX5_quarrelOf_22 : decode cX5_quarrelOf 22 = .ok (.getfield 51, 3) := by decide +kernel
theorem dX5_quarrelOf_25 : decode cX5_quarrelOf 25 = .ok (.iload_n 3, 1) := by decide +kernel
theorem dX5_quarrelOf_26 : decode cX5_quarrelOf 26 = .ok (.iaload, 1) := by decide +kernel
theorem dX5_quarrelOf_27 : decode cX5_quarrelOf 27 = .ok (.iconst 3, 1) := by decide +kernel
theorem dX5_quarrelOf_28 : decode cX5_quarrelOf 28 = .ok (.if_icmp .ne 63, 3) := by decide +kernel
theorem dX5_quarrelOf_31 : decode cX5_quarrelOf 31 = .ok (.aload_n 0, 1) := by decide +kernel
theorem dX5_quarrelOf_32 : decode cX5_quarrelOf 32 = .ok (.getfield 12, 3) := by decide +kernel
theorem dX5_quarrelOf_35 : decode cX5_quarrelOf 35 = .ok (.aload_n 0, 1) := by decide +kernel
theorem dX5_quarrelOf_36 : decode cX5_quarrelOf 36 = .ok (.getfield 28, 3) := by decide +kernel
theorem dX5_quarrelOf_39 : decode cX5_quarrelOf 39 = .ok (.getfield 68, 3) := by decide +kernel
theorem dX5_quarrelOf_42 : decode cX5_quarrelOf 42 = .ok (.iload_n 1, 1) := by decide +kernel
theorem dX5_quarrelOf_43 : decode cX5_quarrelOf 43 = .ok (.iaload, 1) := by decide +kernel
theorem dX5_quarrelOf_44 : decode cX5_quarrelOf 44 = .ok (.aload_n 0, 1) := by decide +kernel
theorem dX5_quarrelOf_45 : decode cX5_quarrelOf 45 = .ok (.getfield 28, 3) := by decide +kernel
theorem dX5_quarrelOf_48 : decode cX5_quarrelOf 48 = .ok (.getfield 68, 3) := by decide +kernel
theorem dX5_quarrelOf_51 : decode cX5_quarrelOf 51 = .ok (.iload_n 3, 1) := by decide +kernel
theorem dX5_quarrelOf_52 : decode cX5_quarrelOf 52 = .ok (.iaload, 1) := by decide +kernel
theorem dX5_quarrelOf_53 : decode cX5_quarrelOf 53 = .ok (.invokevirtual 124, 3) := by decide +kernel
theorem dX5_quarrelOf_56 : decode cX5_quarrelOf 56 = .ok (.istore 4, 2) := by decide +kernel
theorem dX5_quarrelOf_58 : decode cX5_quarrelOf 58 = .ok (.aload_n 0, 1) := by decide +kernel
theorem dX5_quarrelOf_59 : decode cX5_quarrelOf 59 = .ok (.getfield 21, 3) := by decide +kernel
theorem dX5_quarrelOf_62 : decode cX5_quarrelOf 62 = .ok (.aload_n 0, 1) := by decide +kernel
theorem dX5_quarrelOf_63 : decode cX5_quarrelOf 63 = .ok (.getfield 28, 3) := by decide +kernel
theorem dX5_quarrelOf_66 : decode cX5_quarrelOf 66 = .ok (.getfield 110, 3) := by decide +kernel
theorem dX5_quarrelOf_69 : decode cX5_quarrelOf 69 = .ok (.iload_n 1, 1) := by decide +kernel
theorem dX5_quarrelOf_70 : decode cX5_quarrelOf 70 = .ok (.iaload, 1) := by decide +kernel
theorem dX5_quarrelOf_71 : decode cX5_quarrelOf 71 = .ok (.aload_n 0, 1) := by decide +kernel
theorem dX5_quarrelOf_72 : decode cX5_quarrelOf 72 = .ok (.getfield 28, 3) := by decide +kernel
theorem dX5_quarrelOf_75 : decode cX5_quarrelOf 75 = .ok (.getfield 110, 3) := by decide +kernel
theorem dX5_quarrelOf_78 : decode cX5_quarrelOf 78 = .ok (.iload_n 3, 1) := by decide +kernel
theorem dX5_quarrelOf_79 : decode cX5_quarrelOf 79 = .ok (.iaload, 1) := by decide +kernel
theorem dX5_quarrelOf_80 : decode cX5_quarrelOf 80 = .ok (.iload 4, 2) := by decide +kernel
theorem dX5_quarrelOf_82 : decode cX5_quarrelOf 82 = .ok (.iload_n 2, 1) := by decide +kernel
theorem dX5_quarrelOf_83 : decode cX5_quarrelOf 83 = .ok (.invokevirtual 127, 3) := by decide +kernel
theorem dX5_quarrelOf_86 : decode cX5_quarrelOf 86 = .ok (.ifCond .eq 5, 3) := by decide +kernel
theorem dX5_quarrelOf_89 : decode cX5_quarrelOf 89 = .ok (.iload_n 3, 1) := by decide +kernel
theorem dX5_quarrelOf_90 : decode cX5_quarrelOf 90 = .ok (.ireturn, 1) := by decide +kernel
theorem dX5_quarrelOf_91 : decode cX5_quarrelOf 91 = .ok (.iinc 3 1, 3) := by decide +kernel
theorem dX5_quarrelOf_94 : decode cX5_quarrelOf 94 = .ok (.goto (-92), 3) := by decide +kernel
theorem dX5_quarrelOf_97 : decode cX5_quarrelOf 97 = .ok (.bipush (-3), 2) := by decide +kernel
theorem dX5_quarrelOf_99 : decode cX5_quarrelOf 99 = .ok (.ireturn, 1) := by decide +kernel
theorem dX5_isOffHours_0 : decode cX5_isOffHours 0 = .ok (.iconst 0, 1) := by decide +kernel
theorem dX5_isOffHours_1 : decode cX5_isOffHours 1 = .ok (.istore_n 3, 1) := by decide +kernel
theorem dX5_isOffHours_2 : decode cX5_isOffHours 2 = .ok (.iload_n 3, 1) := by decide +kernel
theorem dX5_isOffHours_3 : decode cX5_isOffHours 3 = .ok (.aload_n 0, 1) := by decide +kernel
theorem dX5_isOffHours_4 : decode cX5_isOffHours 4 = .ok (.getfield 21, 3) := by decide +kernel
theorem dX5_isOffHours_7 : decode cX5_isOffHours 7 = .ok (.getfield 107, 3) := by decide +kernel
theorem dX5_isOffHours_10 : decode cX5_isOffHours 10 = .ok (.if_icmp .ge 65, 3) := by decide +kernel
theorem dX5_isOffHours_13 : decode cX5_isOffHours 13 = .ok (.aload_n 0, 1) := by decide +kernel
theorem dX5_isOffHours_14 : decode cX5_isOffHours 14 = .ok (.getfield 21, 3) := by decide +kernel
theorem dX5_isOffHours_17 : decode cX5_isOffHours 17 = .ok (.iload_n 3, 1) := by decide +kernel
theorem dX5_isOffHours_18 : decode cX5_isOffHours 18 = .ok (.iconst 4, 1) := by decide +kernel
theorem dX5_isOffHours_19 : decode cX5_isOffHours 19 = .ok (.aload_n 0, 1) := by decide +kernel
theorem dX5_isOffHours_20 : decode cX5_isOffHours 20 = .ok (.getfield 28, 3) := by decide +kernel
theorem dX5_isOffHours_23 : decode cX5_isOffHours 23 = .ok (.getfield 110, 3) := by decide +kernel
theorem dX5_isOffHours_26 : decode cX5_isOffHours 26 = .ok (.iload_n 1, 1) := by decide +kernel
theorem dX5_isOffHours_27 : decode cX5_isOffHours 27 = .ok (.iaload, 1) := by decide +kernel
theorem dX5_isOffHours_28 : decode cX5_isOffHours 28 = .ok (.iload_n 2, 1) := by decide +kernel
theorem dX5_isOffHours_29 : decode cX5_isOffHours 29 = .ok (.invokevirtual 113, 3) := by decide +kernel
theorem dX5_isOffHours_32 : decode cX5_isOffHours 32 = .ok (.istore 4, 2) := by decide +kernel
theorem dX5_isOffHours_34 : decode cX5_isOffHours 34 = .ok (.iload 4, 2) := by decide +kernel
theorem dX5_isOffHours_36 : decode cX5_isOffHours 36 = .ok (.ifCond .eq 33, 3) := by decide +kernel
theorem dX5_isOffHours_39 : decode cX5_isOffHours 39 = .ok (.iload_n 2, 1) := by decide +kernel
theorem dX5_isOffHours_40 : decode cX5_isOffHours 40 = .ok (.bipush 24, 2) := by decide +kernel
theorem dX5_isOffHours_42 : decode cX5_isOffHours 42 = .ok (.irem, 1) := by decide +kernel
theorem dX5_isOffHours_43 : decode cX5_isOffHours 43 = .ok (.aload_n 0, 1) := by decide +kernel
theorem dX5_isOffHours_44 : decode cX5_isOffHours 44 = .ok (.getfield 21, 3) := by decide +kernel
theorem dX5_isOffHours_47 : decode cX5_isOffHours 47 = .ok (.getfield 116, 3) := by decide +kernel
theorem dX5_isOffHours_50 : decode cX5_isOffHours 50 = .ok (.iload_n 3, 1) := by decide +kernel
theorem dX5_isOffHours_51 : decode cX5_isOffHours 51 = .ok (.iaload, 1) := by decide +kernel
theorem dX5_isOffHours_52 : decode cX5_isOffHours 52 = .ok (.aload_n 0, 1) := by decide +kernel
theorem dX5_isOffHours_53 : decode cX5_isOffHours 53 = .ok (.getfield 21, 3) := by decide +kernel
theorem dX5_isOffHours_56 : decode cX5_isOffHours 56 = .ok (.getfield 130, 3) := by decide +kernel
theorem dX5_isOffHours_59 : decode cX5_isOffHours 59 = .ok (.iload_n 3, 1) := by decide +kernel
theorem dX5_isOffHours_60 : decode cX5_isOffHours 60 = .ok (.iaload, 1) := by decide +kernel
theorem dX5_isOffHours_61 : decode cX5_isOffHours 61 = .ok (.invokestatic 133, 3) := by decide +kernel
theorem dX5_isOffHours_64 : decode cX5_isOffHours 64 = .ok (.ifCond .ne 5, 3) := by decide +kernel
theorem dX5_isOffHours_67 : decode cX5_isOffHours 67 = .ok (.iconst 1, 1) := by decide +kernel
theorem dX5_isOffHours_68 : decode cX5_isOffHours 68 = .ok (.ireturn, 1) := by decide +kernel
theorem dX5_isOffHours_69 : decode cX5_isOffHours 69 = .ok (.iinc 3 1, 3) := by decide +kernel
theorem dX5_isOffHours_72 : decode cX5_isOffHours 72 = .ok (.goto (-70), 3) := by decide +kernel
theorem dX5_isOffHours_75 : decode cX5_isOffHours 75 = .ok (.iconst 0, 1) := by decide +kernel
theorem dX5_isOffHours_76 : decode cX5_isOffHours 76 = .ok (.ireturn, 1) := by decide +kernel
theorem dX5_isWithin_0 : decode cX5_isWithin 0 = .ok (.iload_n 1, 1) := by decide +kernel
theorem dX5_isWithin_1 : decode cX5_isWithin 1 = .ok (.iload_n 2, 1) := by decide +kernel
theorem dX5_isWithin_2 : decode cX5_isWithin 2 = .ok (.if_icmp .le 19, 3) := by decide +kernel
theorem dX5_isWithin_5 : decode cX5_isWithin 5 = .ok (.iload_n 0, 1) := by decide +kernel
theorem dX5_isWithin_6 : decode cX5_isWithin 6 = .ok (.iload_n 1, 1) := by decide +kernel
theorem dX5_isWithin_7 : decode cX5_isWithin 7 = .ok (.if_icmp .ge 8, 3) := by decide +kernel
theorem dX5_isWithin_10 : decode cX5_isWithin 10 = .ok (.iload_n 0, 1) := by decide +kernel
theorem dX5_isWithin_11 : decode cX5_isWithin 11 = .ok (.iload_n 2, 1) := by decide +kernel
theorem dX5_isWithin_12 : decode cX5_isWithin 12 = .ok (.if_icmp .gt 7, 3) := by decide +kernel
theorem dX5_isWithin_15 : decode cX5_isWithin 15 = .ok (.iconst 1, 1) := by decide +kernel
theorem dX5_isWithin_16 : decode cX5_isWithin 16 = .ok (.goto 4, 3) := by decide +kernel
theorem dX5_isWithin_19 : decode cX5_isWithin 19 = .ok (.iconst 0, 1) := by decide +kernel
theorem dX5_isWithin_20 : decode cX5_isWithin 20 = .ok (.ireturn, 1) := by decide +kernel
theorem dX5_isWithin_21 : decode cX5_isWithin 21 = .ok (.iload_n 0, 1) := by decide +kernel
theorem dX5_isWithin_22 : decode cX5_isWithin 22 = .ok (.iload_n 1, 1) := by decide +kernel
theorem dX5_isWithin_23 : decode cX5_isWithin 23 = .ok (.if_icmp .lt 12, 3) := by decide +kernel
theorem dX5_isWithin_26 : decode cX5_isWithin 26 = .ok (.iload_n 0, 1) := by decide +kernel
theorem dX5_isWithin_27 : decode cX5_isWithin 27 = .ok (.iload_n 2, 1) := by decide +kernel
theorem dX5_isWithin_28 : decode cX5_isWithin 28 = .ok (.if_icmp .gt 7, 3) := by decide +kernel
theorem dX5_isWithin_31 : decode cX5_isWithin 31 = .ok (.iconst 1, 1) := by decide +kernel
theorem dX5_isWithin_32 : decode cX5_isWithin 32 = .ok (.goto 4, 3) := by decide +kernel
theorem dX5_isWithin_35 : decode cX5_isWithin 35 = .ok (.iconst 0, 1) := by decide +kernel
theorem dX5_isWithin_36 : decode cX5_isWithin 36 = .ok (.ireturn, 1) := by decide +kernel
theorem dX5_isCrowded_0 : decode cX5_isCrowded 0 = .ok (.aload_n 0, 1) := by decide +kernel
theorem dX5_isCrowded_1 : decode cX5_isCrowded 1 = .ok (.getfield 35, 3) := by decide +kernel
theorem dX5_isCrowded_4 : decode cX5_isCrowded 4 = .ok (.iload_n 1, 1) := by decide +kernel
theorem dX5_isCrowded_5 : decode cX5_isCrowded 5 = .ok (.invokevirtual 58, 3) := by decide +kernel
theorem dX5_isCrowded_8 : decode cX5_isCrowded 8 = .ok (.istore_n 3, 1) := by decide +kernel
theorem dX5_isCrowded_9 : decode cX5_isCrowded 9 = .ok (.iconst 0, 1) := by decide +kernel
theorem dX5_isCrowded_10 : decode cX5_isCrowded 10 = .ok (.istore 4, 2) := by decide +kernel
theorem dX5_isCrowded_12 : decode cX5_isCrowded 12 = .ok (.iload 4, 2) := by decide +kernel
theorem dX5_isCrowded_14 : decode cX5_isCrowded 14 = .ok (.aload_n 0, 1) := by decide +kernel
theorem dX5_isCrowded_15 : decode cX5_isCrowded 15 = .ok (.getfield 21, 3) := by decide +kernel
theorem dX5_isCrowded_18 : decode cX5_isCrowded 18 = .ok (.getfield 107, 3) := by decide +kernel
theorem dX5_isCrowded_21 : decode cX5_isCrowded 21 = .ok (.if_icmp .ge 48, 3) := by decide +kernel
theorem dX5_isCrowded_24 : decode cX5_isCrowded 24 = .ok (.aload_n 0, 1) := by decide +kernel
theorem dX5_isCrowded_25 : decode cX5_isCrowded 25 = .ok (.getfield 21, 3) := by decide +kernel
theorem dX5_isCrowded_28 : decode cX5_isCrowded 28 = .ok (.iload 4, 2) := by decide +kernel
theorem dX5_isCrowded_30 : decode cX5_isCrowded 30 = .ok (.iconst 3, 1) := by decide +kernel
theorem dX5_isCrowded_31 : decode cX5_isCrowded 31 = .ok (.aload_n 0, 1) := by decide +kernel
theorem dX5_isCrowded_32 : decode cX5_isCrowded 32 = .ok (.getfield 28, 3) := by decide +kernel
theorem dX5_isCrowded_35 : decode cX5_isCrowded 35 = .ok (.getfield 110, 3) := by decide +kernel
theorem dX5_isCrowded_38 : decode cX5_isCrowded 38 = .ok (.iload_n 1, 1) := by decide +kernel
theorem dX5_isCrowded_39 : decode cX5_isCrowded 39 = .ok (.iaload, 1) := by decide +kernel
theorem dX5_isCrowded_40 : decode cX5_isCrowded 40 = .ok (.iload_n 2, 1) := by decide +kernel
theorem dX5_isCrowded_41 : decode cX5_isCrowded 41 = .ok (.invokevirtual 113, 3) := by decide +kernel
theorem dX5_isCrowded_44 : decode cX5_isCrowded 44 = .ok (.ifCond .eq 19, 3) := by decide +kernel
theorem dX5_isCrowded_47 : decode cX5_isCrowded 47 = .ok (.iload_n 3, 1) := by decide +kernel
theorem dX5_isCrowded_48 : decode cX5_isCrowded 48 = .ok (.aload_n 0, 1) := by decide +kernel
theorem dX5_isCrowded_49 : decode cX5_isCrowded 49 = .ok (.getfield 21, 3) := by decide +kernel
theorem dX5_isCrowded_52 : decode cX5_isCrowded 52 = .ok (.getfield 116, 3) := by decide +kernel
theorem dX5_isCrowded_55 : decode cX5_isCrowded 55 = .ok (.iload 4, 2) := by decide +kernel
theorem dX5_isCrowded_57 : decode cX5_isCrowded 57 = .ok (.iaload, 1) := by decide +kernel
theorem dX5_isCrowded_58 : decode cX5_isCrowded 58 = .ok (.if_icmp .lt 5, 3) := by decide +kernel
theorem dX5_isCrowded_61 : decode cX5_isCrowded 61 = .ok (.iconst 1, 1) := by decide +kernel
theorem dX5_isCrowded_62 : decode cX5_isCrowded 62 = .ok (.ireturn, 1) := by decide +kernel
theorem dX5_isCrowded_63 : decode cX5_isCrowded 63 = .ok (.iinc 4 1, 3) := by decide +kernel
theorem dX5_isCrowded_66 : decode cX5_isCrowded 66 = .ok (.goto (-54), 3) := by decide +kernel
theorem dX5_isCrowded_69 : decode cX5_isCrowded 69 = .ok (.iconst 0, 1) := by decide +kernel
theorem dX5_isCrowded_70 : decode cX5_isCrowded 70 = .ok (.ireturn, 1) := by decide +kernel
theorem dX5_isWatched_0 : decode cX5_isWatched 0 = .ok (.aload_n 0, 1) := by decide +kernel
theorem dX5_isWatched_1 : decode cX5_isWatched 1 = .ok (.getfield 28, 3) := by decide +kernel
theorem dX5_isWatched_4 : decode cX5_isWatched 4 = .ok (.getfield 136, 3) := by decide +kernel
theorem dX5_isWatched_7 : decode cX5_isWatched 7 = .ok (.iload_n 1, 1) := by decide +kernel
theorem dX5_isWatched_8 : decode cX5_isWatched 8 = .ok (.iaload, 1) := by decide +kernel
theorem dX5_isWatched_9 : decode cX5_isWatched 9 = .ok (.istore_n 3, 1) := by decide +kernel
theorem dX5_isWatched_10 : decode cX5_isWatched 10 = .ok (.iload_n 3, 1) := by decide +kernel
theorem dX5_isWatched_11 : decode cX5_isWatched 11 = .ok (.bipush (-3), 2) := by decide +kernel
theorem dX5_isWatched_13 : decode cX5_isWatched 13 = .ok (.if_icmp .ne 5, 3) := by decide +kernel
theorem dX5_isWatched_16 : decode cX5_isWatched 16 = .ok (.iconst 0, 1) := by decide +kernel
theorem dX5_isWatched_17 : decode cX5_isWatched 17 = .ok (.ireturn, 1) := by decide +kernel
theorem dX5_isWatched_18 : decode cX5_isWatched 18 = .ok (.iconst 0, 1) := by decide +kernel
theorem dX5_isWatched_19 : decode cX5_isWatched 19 = .ok (.istore 4, 2) := by decide +kernel
theorem dX5_isWatched_21 : decode cX5_isWatched 21 = .ok (.iload 4, 2) := by decide +kernel
theorem dX5_isWatched_23 : decode cX5_isWatched 23 = .ok (.aload_n 0, 1) := by decide +kernel
theorem dX5_isWatched_24 : decode cX5_isWatched 24 = .ok (.getfield 21, 3) := by decide +kernel
theorem dX5_isWatched_27 : decode cX5_isWatched 27 = .ok (.getfield 107, 3) := by decide +kernel
theorem dX5_isWatched_30 : decode cX5_isWatched 30 = .ok (.if_icmp .ge 50, 3) := by decide +kernel
theorem dX5_isWatched_33 : decode cX5_isWatched 33 = .ok (.aload_n 0, 1) := by decide +kernel
theorem dX5_isWatched_34 : decode cX5_isWatched 34 = .ok (.getfield 21, 3) := by decide +kernel
theorem dX5_isWatched_37 : decode cX5_isWatched 37 = .ok (.iload 4, 2) := by decide +kernel
theorem dX5_isWatched_39 : decode cX5_isWatched 39 = .ok (.iconst 5, 1) := by decide +kernel
theorem dX5_isWatched_40 : decode cX5_isWatched 40 = .ok (.aload_n 0, 1) := by decide +kernel
theorem dX5_isWatched_41 : decode cX5_isWatched 41 = .ok (.getfield 28, 3) := by decide +kernel
theorem dX5_isWatched_44 : decode cX5_isWatched 44 = .ok (.getfield 110, 3) := by decide +kernel
theorem dX5_isWatched_47 : decode cX5_isWatched 47 = .ok (.iload_n 1, 1) := by decide +kernel
theorem dX5_isWatched_48 : decode cX5_isWatched 48 = .ok (.iaload, 1) := by decide +kernel
theorem dX5_isWatched_49 : decode cX5_isWatched 49 = .ok (.iload_n 2, 1) := by decide +kernel
theorem dX5_isWatched_50 : decode cX5_isWatched 50 = .ok (.invokevirtual 113, 3) := by decide +kernel
theorem dX5_isWatched_53 : decode cX5_isWatched 53 = .ok (.ifCond .eq 21, 3) := by decide +kernel
theorem dX5_isWatched_56 : decode cX5_isWatched 56 = .ok (.iload_n 2, 1) := by decide +kernel
theorem dX5_isWatched_57 : decode cX5_isWatched 57 = .ok (.iload_n 3, 1) := by decide +kernel
theorem dX5_isWatched_58 : decode cX5_isWatched 58 = .ok (.isub, 1) := by decide +kernel
theorem dX5_isWatched_59 : decode cX5_isWatched 59 = .ok (.aload_n 0, 1) := by decide +kernel
theorem dX5_isWatched_60 : decode cX5_isWatched 60 = .ok (.getfield 21, 3) := by decide +kernel
theorem dX5_isWatched_63 : decode cX5_isWatched 63 = .ok (.getfield 116, 3) := by decide +kernel
theorem dX5_isWatched_66 : decode cX5_isWatched 66 = .ok (.iload 4, 2) := by decide +kernel
theorem dX5_isWatched_68 : decode cX5_isWatched 68 = .ok (.iaload, 1) := by decide +kernel
theorem dX5_isWatched_69 : decode cX5_isWatched 69 = .ok (.if_icmp .ge 5, 3) := by decide +kernel
theorem dX5_isWatched_72 : decode cX5_isWatched 72 = .ok (.iconst 1, 1) := by decide +kernel
theorem dX5_isWatched_73 : decode cX5_isWatched 73 = .ok (.ireturn, 1) := by decide +kernel
theorem dX5_isWatched_74 : decode cX5_isWatched 74 = .ok (.iinc 4 1, 3) := by decide +kernel
theorem dX5_isWatched_77 : decode cX5_isWatched 77 = .ok (.goto (-56), 3) := by decide +kernel
theorem dX5_isWatched_80 : decode cX5_isWatched 80 = .ok (.iconst 0, 1) := by decide +kernel
theorem dX5_isWatched_81 : decode cX5_isWatched 81 = .ok (.ireturn, 1) := by decide +kernel
theorem dX6_init_0 : decode cX6_init 0 = .ok (.aload_n 0, 1) := by decide +kernel
theorem dX6_init_1 : decode cX6_init 1 = .ok (.invokespecial 3, 3) := by decide +kernel
theorem dX6_init_4 : decode cX6_init 4 = .ok (.aload_n 0, 1) := by decide +kernel
theorem dX6_init_5 : decode cX6_init 5 = .ok (.bipush 12, 2) := by decide +kernel
theorem dX6_init_7 : decode cX6_init 7 = .ok (.newarray .int, 2) := by decide +kernel
theorem dX6_init_9 : decode cX6_init 9 = .ok (.putfield 9, 3) := by decide +kernel
theorem dX6_init_12 : decode cX6_init 12 = .ok (.aload_n 0, 1) := by decide +kernel
theorem dX6_init_13 : decode cX6_init 13 = .ok (.bipush 12, 2) := by decide +kernel
theorem dX6_init_15 : decode cX6_init 15 = .ok (.newarray .int, 2) := by decide +kernel
theorem dX6_init_17 : decode cX6_init 17 = .ok (.putfield 15, 3) := by decide +kernel
theorem dX6_init_20 : decode cX6_init 20 = .ok (.aload_n 0, 1) := by decide +kernel
theorem dX6_init_21 : decode cX6_init 21 = .ok (.bipush 12, 2) := by decide +kernel
theorem dX6_init_23 : decode cX6_init 23 = .ok (.newarray .int, 2) := by decide +kernel
theorem dX6_init_25 : decode cX6_init 25 = .ok (.putfield 18, 3) := by decide +kernel
theorem dX6_init_28 : decode cX6_init 28 = .ok (.aload_n 0, 1) := by decide +kernel
theorem dX6_init_29 : decode cX6_init 29 = .ok (.bipush 12, 2) := by decide +kernel
theorem dX6_init_31 : decode cX6_init 31 = .ok (.newarray .int, 2) := by decide +kernel
theorem dX6_init_33 : decode cX6_init 33 = .ok (.putfield 21, 3) := by decide +kernel
theorem dX6_init_36 : decode cX6_init 36 = .ok (.aload_n 0, 1) := by decide +kernel
theorem dX6_init_37 : decode cX6_init 37 = .ok (.bipush 12, 2) := by decide +kernel
theorem dX6_init_39 : decode cX6_init 39 = .ok (.newarray .int, 2) := by decide +kernel
theorem dX6_init_41 : decode cX6_init 41 = .ok (.putfield 24, 3) := by decide +kernel
theorem dX6_init_44 : decode cX6_init 44 = .ok (.aload_n 0, 1) := by decide +kernel
theorem dX6_init_45 : decode cX6_init 45 = .ok (.bipush 12, 2) := by decide +kernel
theorem dX6_init_47 : decode cX6_init 47 = .ok (.newarray .int, 2) := by decide +kernel
theorem dX6_init_49 : decode cX6_init 49 = .ok (.putfield 27, 3) := by decide +kernel
theorem dX6_init_52 : decode cX6_init 52 = .ok (.aload_n 0, 1) := by decide +kernel
theorem dX6_init_53 : decode cX6_init 53 = .ok (.iconst 0, 1) := by decide +kernel
theorem dX6_init_54 : decode cX6_init 54 = .ok (.putfield 30, 3) := by decide +kernel
theorem dX6_init_57 : decode cX6_init 57 = .ok (.return_, 1) := by decide +kernel
theorem dX6_write_0 : decode cX6_write 0 = .ok (.aload_n 0, 1) := by decide +kernel
theorem dX6_write_1 : decode cX6_write 1 = .ok (.getfield 30, 3) := by decide +kernel
theorem dX6_write_4 : decode cX6_write 4 = .ok (.istore_n 3, 1) := by decide +kernel
theorem dX6_write_5 : decode cX6_write 5 = .ok (.aload_n 0, 1) := by decide +kernel
theorem dX6_write_6 : decode cX6_write 6 = .ok (.getfield 9, 3) := by decide +kernel
theorem dX6_write_9 : decode cX6_write 9 = .ok (.iload_n 3, 1) := by decide +kernel
theorem dX6_write_10 : decode cX6_write 10 = .ok (.aload_n 1, 1) := by decide +kernel
theorem dX6_write_11 : decode cX6_write 11 = .ok (.getfield 34, 3) := by decide +kernel
theorem dX6_write_14 : decode cX6_write 14 = .ok (.iastore, 1) := by decide +kernel
theorem dX6_write_15 : decode cX6_write 15 = .ok (.aload_n 0, 1) := by decide +kernel
theorem dX6_write_16 : decode cX6_write 16 = .ok (.getfield 15, 3) := by decide +kernel
theorem dX6_write_19 : decode cX6_write 19 = .ok (.iload_n 3, 1) := by decide +kernel
theorem dX6_write_20 : decode cX6_write 20 = .ok (.aload_n 1, 1) := by decide +kernel
theorem dX6_write_21 : decode cX6_write 21 = .ok (.getfield 38, 3) := by decide +kernel
theorem dX6_write_24 : decode cX6_write 24 = .ok (.iastore, 1) := by decide +kernel
theorem dX6_write_25 : decode cX6_write 25 = .ok (.aload_n 0, 1) := by decide +kernel
theorem dX6_write_26 : decode cX6_write 26 = .ok (.getfield 18, 3) := by decide +kernel
theorem dX6_write_29 : decode cX6_write 29 = .ok (.iload_n 3, 1) := by decide +kernel
theorem dX6_write_30 : decode cX6_write 30 = .ok (.aload_n 1, 1) := by decide +kernel
theorem dX6_write_31 : decode cX6_write 31 = .ok (.getfield 40, 3) := by decide +kernel
theorem dX6_write_34 : decode cX6_write 34 = .ok (.iastore, 1) := by decide +kernel
theorem dX6_write_35 : decode cX6_write 35 = .ok (.aload_n 0, 1) := by decide +kernel
theorem dX6_write_36 : decode cX6_write 36 = .ok (.getfield 21, 3) := by decide +kernel
theorem dX6_write_39 : decode cX6_write 39 = .ok (.iload_n 3, 1) := by decide +kernel
theorem dX6_write_40 : decode cX6_write 40 = .ok (.aload_n 1, 1) := by decide +kernel
theorem dX6_write_41 : decode cX6_write 41 = .ok (.getfield 42, 3) := by decide +kernel
theorem dX6_write_44 : decode cX6_write 44 = .ok (.iastore, 1) := by decide +kernel
theorem dX6_write_45 : decode cX6_write 45 = .ok (.aload_n 0, 1) := by decide +kernel
theorem dX6_write_46 : decode cX6_write 46 = .ok (.getfield 24, 3) := by decide +kernel
theorem dX6_write_49 : decode cX6_write 49 = .ok (.iload_n 3, 1) := by decide +kernel
theorem dX6_write_50 : decode cX6_write 50 = .ok (.iload_n 2, 1) := by decide +kernel
theorem dX6_write_51 : decode cX6_write 51 = .ok (.iastore, 1) := by decide +kernel
theorem dX6_write_52 : decode cX6_write 52 = .ok (.aload_n 0, 1) := by decide +kernel
theorem dX6_write_53 : decode cX6_write 53 = .ok (.getfield 27, 3) := by decide +kernel
theorem dX6_write_56 : decode cX6_write 56 = .ok (.iload_n 3, 1) := by decide +kernel
theorem dX6_write_57 : decode cX6_write 57 = .ok (.bipush (-3), 2) := by decide +kernel
theorem dX6_write_59 : decode cX6_write 59 = .ok (.iastore, 1) := by decide +kernel
end
section
theorem dX6_write_60 : decode cX6_write 60 = .ok (.aload_n 0, 1) := by decide +kernel
theorem dX6_write_61 : decode cX6_write 61 = .ok (.dup, 1) := by decide +kernel
theorem dX6_write_62 : decode cX6_write 62 = .ok (.getfield 30, 3) := by decide +kernel
theorem dX6_write_65 : decode cX6_write 65 = .ok (.iconst 1, 1) := by decide +kernel
theorem dX6_write_66 : decode cX6_write 66 = .ok (.iadd, 1) := by decide +kernel
theorem dX6_write_67 : decode cX6_write 67 = .ok (.putfield 30, 3) := by decide +kernel
theorem dX6_write_70 : decode cX6_write 70 = .ok (.iload_n 3, 1) := by decide +kernel
theorem dX6_write_71 : decode cX6_write 71 = .ok (.ireturn, 1) := by decide +kernel
theorem dX6_has_0 : decode cX6_has 0 = .ok (.iload_n 1, 1) := by decide +kernel
theorem dX6_has_1 : decode cX6_has 1 = .ok (.ifCond .lt 15, 3) := by decide +kernel
theorem dX6_has_4 : decode cX6_has 4 = .ok (.iload_n 1, 1) := by decide +kernel
theorem dX6_has_5 : decode cX6_has 5 = .ok (.aload_n 0, 1) := by decide +kernel
theorem dX6_has_6 : decode cX6_has 6 = .ok (.getfield 30, 3) := by decide +kernel
theorem dX6_has_9 : decode cX6_has 9 = .ok (.if_icmp .ge 7, 3) := by decide +kernel
theorem dX6_has_12 : decode cX6_has 12 = .ok (.iconst 1, 1) := by decide +kernel
theorem dX6_has_13 : decode cX6_has 13 = .ok (.goto 4, 3) := by decide +kernel
theorem dX6_has_16 : decode cX6_has 16 = .ok (.iconst 0, 1) := by decide +kernel
theorem dX6_has_17 : decode cX6_has 17 = .ok (.ireturn, 1) := by decide +kernel
theorem dX6_inForce_0 : decode cX6_inForce 0 = .ok (.aload_n 0, 1) := by decide +kernel
theorem dX6_inForce_1 : decode cX6_inForce 1 = .ok (.getfield 24, 3) := by decide +kernel
theorem dX6_inForce_4 : decode cX6_inForce 4 = .ok (.iload_n 1, 1) := by decide +kernel
theorem dX6_inForce_5 : decode cX6_inForce 5 = .ok (.iaload, 1) := by decide +kernel
theorem dX6_inForce_6 : decode cX6_inForce 6 = .ok (.iload_n 2, 1) := by decide +kernel
theorem dX6_inForce_7 : decode cX6_inForce 7 = .ok (.if_icmp .gt 28, 3) := by decide +kernel
theorem dX6_inForce_10 : decode cX6_inForce 10 = .ok (.aload_n 0, 1) := by decide +kernel
theorem dX6_inForce_11 : decode cX6_inForce 11 = .ok (.getfield 27, 3) := by decide +kernel
theorem dX6_inForce_14 : decode cX6_inForce 14 = .ok (.iload_n 1, 1) := by decide +kernel
theorem dX6_inForce_15 : decode cX6_inForce 15 = .ok (.iaload, 1) := by decide +kernel
theorem dX6_inForce_16 : decode cX6_inForce 16 = .ok (.bipush (-3), 2) := by decide +kernel
theorem dX6_inForce_18 : decode cX6_inForce 18 = .ok (.if_icmp .eq 13, 3) := by decide +kernel
theorem dX6_inForce_21 : decode cX6_inForce 21 = .ok (.iload_n 2, 1) := by decide +kernel
theorem dX6_inForce_22 : decode cX6_inForce 22 = .ok (.aload_n 0, 1) := by decide +kernel
theorem dX6_inForce_23 : decode cX6_inForce 23 = .ok (.getfield 27, 3) := by decide +kernel
theorem dX6_inForce_26 : decode cX6_inForce 26 = .ok (.iload_n 1, 1) := by decide +kernel
theorem dX6_inForce_27 : decode cX6_inForce 27 = .ok (.iaload, 1) := by decide +kernel
theorem dX6_inForce_28 : decode cX6_inForce 28 = .ok (.if_icmp .ge 7, 3) := by decide +kernel
theorem dX6_inForce_31 : decode cX6_inForce 31 = .ok (.iconst 1, 1) := by decide +kernel
theorem dX6_inForce_32 : decode cX6_inForce 32 = .ok (.goto 4, 3) := by decide +kernel
theorem dX6_inForce_35 : decode cX6_inForce 35 = .ok (.iconst 0, 1) := by decide +kernel
theorem dX6_inForce_36 : decode cX6_inForce 36 = .ok (.ireturn, 1) := by decide +kernel
theorem dX6_speaksOf_0 : decode cX6_speaksOf 0 = .ok (.aload_n 0, 1) := by decide +kernel
theorem dX6_speaksOf_1 : decode cX6_speaksOf 1 = .ok (.getfield 9, 3) := by decide +kernel
theorem dX6_speaksOf_4 : decode cX6_speaksOf 4 = .ok (.iload_n 1, 1) := by decide +kernel
theorem dX6_speaksOf_5 : decode cX6_speaksOf 5 = .ok (.iaload, 1) := by decide +kernel
theorem dX6_speaksOf_6 : decode cX6_speaksOf 6 = .ok (.iload_n 2, 1) := by decide +kernel
theorem dX6_speaksOf_7 : decode cX6_speaksOf 7 = .ok (.if_icmp .ne 27, 3) := by decide +kernel
theorem dX6_speaksOf_10 : decode cX6_speaksOf 10 = .ok (.aload_n 0, 1) := by decide +kernel
theorem dX6_speaksOf_11 : decode cX6_speaksOf 11 = .ok (.getfield 15, 3) := by decide +kernel
theorem dX6_speaksOf_14 : decode cX6_speaksOf 14 = .ok (.iload_n 1, 1) := by decide +kernel
theorem dX6_speaksOf_15 : decode cX6_speaksOf 15 = .ok (.iaload, 1) := by decide +kernel
theorem dX6_speaksOf_16 : decode cX6_speaksOf 16 = .ok (.iload_n 3, 1) := by decide +kernel
theorem dX6_speaksOf_17 : decode cX6_speaksOf 17 = .ok (.if_icmp .ne 17, 3) := by decide +kernel
theorem dX6_speaksOf_20 : decode cX6_speaksOf 20 = .ok (.aload_n 0, 1) := by decide +kernel
theorem dX6_speaksOf_21 : decode cX6_speaksOf 21 = .ok (.iload_n 1, 1) := by decide +kernel
theorem dX6_speaksOf_22 : decode cX6_speaksOf 22 = .ok (.iload 4, 2) := by decide +kernel
theorem dX6_speaksOf_24 : decode cX6_speaksOf 24 = .ok (.invokevirtual 44, 3) := by decide +kernel
theorem dX6_speaksOf_27 : decode cX6_speaksOf 27 = .ok (.ifCond .eq 7, 3) := by decide +kernel
theorem dX6_speaksOf_30 : decode cX6_speaksOf 30 = .ok (.iconst 1, 1) := by decide +kernel
theorem dX6_speaksOf_31 : decode cX6_speaksOf 31 = .ok (.goto 4, 3) := by decide +kernel
theorem dX6_speaksOf_34 : decode cX6_speaksOf 34 = .ok (.iconst 0, 1) := by decide +kernel
theorem dX6_speaksOf_35 : decode cX6_speaksOf 35 = .ok (.ireturn, 1) := by decide +kernel
theorem dX6_doubledAt_0 : decode cX6_doubledAt 0 = .ok (.iconst 0, 1) := by decide +kernel
theorem dX6_doubledAt_1 : decode cX6_doubledAt 1 = .ok (.istore_n 2, 1) := by decide +kernel
theorem dX6_doubledAt_2 : decode cX6_doubledAt 2 = .ok (.iconst 0, 1) := by decide +kernel
theorem dX6_doubledAt_3 : decode cX6_doubledAt 3 = .ok (.istore_n 3, 1) := by decide +kernel
theorem dX6_doubledAt_4 : decode cX6_doubledAt 4 = .ok (.iload_n 3, 1) := by decide +kernel
theorem dX6_doubledAt_5 : decode cX6_doubledAt 5 = .ok (.aload_n 0, 1) := by decide +kernel
theorem dX6_doubledAt_6 : decode cX6_doubledAt 6 = .ok (.getfield 30, 3) := by decide +kernel
theorem dX6_doubledAt_9 : decode cX6_doubledAt 9 = .ok (.if_icmp .ge 43, 3) := by decide +kernel
theorem dX6_doubledAt_12 : decode cX6_doubledAt 12 = .ok (.iload_n 2, 1) := by decide +kernel
theorem dX6_doubledAt_13 : decode cX6_doubledAt 13 = .ok (.aload_n 0, 1) := by decide +kernel
theorem dX6_doubledAt_14 : decode cX6_doubledAt 14 = .ok (.getfield 9, 3) := by decide +kernel
theorem dX6_doubledAt_17 : decode cX6_doubledAt 17 = .ok (.iload_n 3, 1) := by decide +kernel
theorem dX6_doubledAt_18 : decode cX6_doubledAt 18 = .ok (.iaload, 1) := by decide +kernel
theorem dX6_doubledAt_19 : decode cX6_doubledAt 19 = .ok (.iconst 2, 1) := by decide +kernel
theorem dX6_doubledAt_20 : decode cX6_doubledAt 20 = .ok (.if_icmp .ne 23, 3) := by decide +kernel
theorem dX6_doubledAt_23 : decode cX6_doubledAt 23 = .ok (.aload_n 0, 1) := by decide +kernel
theorem dX6_doubledAt_24 : decode cX6_doubledAt 24 = .ok (.iload_n 3, 1) := by decide +kernel
theorem dX6_doubledAt_25 : decode cX6_doubledAt 25 = .ok (.iload_n 1, 1) := by decide +kernel
theorem dX6_doubledAt_26 : decode cX6_doubledAt 26 = .ok (.invokevirtual 44, 3) := by decide +kernel
theorem dX6_doubledAt_29 : decode cX6_doubledAt 29 = .ok (.ifCond .eq 14, 3) := by decide +kernel
theorem dX6_doubledAt_32 : decode cX6_doubledAt 32 = .ok (.iconst 1, 1) := by decide +kernel
theorem dX6_doubledAt_33 : decode cX6_doubledAt 33 = .ok (.aload_n 0, 1) := by decide +kernel
theorem dX6_doubledAt_34 : decode cX6_doubledAt 34 = .ok (.getfield 15, 3) := by decide +kernel
theorem dX6_doubledAt_37 : decode cX6_doubledAt 37 = .ok (.iload_n 3, 1) := by decide +kernel
theorem dX6_doubledAt_38 : decode cX6_doubledAt 38 = .ok (.iaload, 1) := by decide +kernel
theorem dX6_doubledAt_39 : decode cX6_doubledAt 39 = .ok (.ishl, 1) := by decide +kernel
theorem dX6_doubledAt_40 : decode cX6_doubledAt 40 = .ok (.goto 4, 3) := by decide +kernel
theorem dX6_doubledAt_43 : decode cX6_doubledAt 43 = .ok (.iconst 0, 1) := by decide +kernel
theorem dX6_doubledAt_44 : decode cX6_doubledAt 44 = .ok (.ior, 1) := by decide +kernel
theorem dX6_doubledAt_45 : decode cX6_doubledAt 45 = .ok (.istore_n 2, 1) := by decide +kernel
theorem dX6_doubledAt_46 : decode cX6_doubledAt 46 = .ok (.iinc 3 1, 3) := by decide +kernel
theorem dX6_doubledAt_49 : decode cX6_doubledAt 49 = .ok (.goto (-45), 3) := by decide +kernel
theorem dX6_doubledAt_52 : decode cX6_doubledAt 52 = .ok (.iload_n 2, 1) := by decide +kernel
theorem dX6_doubledAt_53 : decode cX6_doubledAt 53 = .ok (.ireturn, 1) := by decide +kernel
theorem dX6_barsBoth_0 : decode cX6_barsBoth 0 = .ok (.iload_n 3, 1) := by decide +kernel
theorem dX6_barsBoth_1 : decode cX6_barsBoth 1 = .ok (.bipush (-3), 2) := by decide +kernel
theorem dX6_barsBoth_3 : decode cX6_barsBoth 3 = .ok (.if_icmp .ne 5, 3) := by decide +kernel
theorem dX6_barsBoth_6 : decode cX6_barsBoth 6 = .ok (.iconst 0, 1) := by decide +kernel
theorem dX6_barsBoth_7 : decode cX6_barsBoth 7 = .ok (.ireturn, 1) := by decide +kernel
theorem dX6_barsBoth_8 : decode cX6_barsBoth 8 = .ok (.iconst 0, 1) := by decide +kernel
theorem dX6_barsBoth_9 : decode cX6_barsBoth 9 = .ok (.istore 5, 2) := by decide +kernel
theorem dX6_barsBoth_11 : decode cX6_barsBoth 11 = .ok (.iload 5, 2) := by decide +kernel
theorem dX6_barsBoth_13 : decode cX6_barsBoth 13 = .ok (.aload_n 0, 1) := by decide +kernel
theorem dX6_barsBoth_14 : decode cX6_barsBoth 14 = .ok (.getfield 30, 3) := by decide +kernel
theorem dX6_barsBoth_17 : decode cX6_barsBoth 17 = .ok (.if_icmp .ge 100, 3) := by decide +kernel
theorem dX6_barsBoth_20 : decode cX6_barsBoth 20 = .ok (.aload_n 0, 1) := by decide +kernel
theorem dX6_barsBoth_21 : decode cX6_barsBoth 21 = .ok (.getfield 15, 3) := by decide +kernel
theorem dX6_barsBoth_24 : decode cX6_barsBoth 24 = .ok (.iload 5, 2) := by decide +kernel
theorem dX6_barsBoth_26 : decode cX6_barsBoth 26 = .ok (.iaload, 1) := by decide +kernel
theorem dX6_barsBoth_27 : decode cX6_barsBoth 27 = .ok (.iload_n 1, 1) := by decide +kernel
theorem dX6_barsBoth_28 : decode cX6_barsBoth 28 = .ok (.if_icmp .ne 14, 3) := by decide +kernel
theorem dX6_barsBoth_31 : decode cX6_barsBoth 31 = .ok (.aload_n 0, 1) := by decide +kernel
theorem dX6_barsBoth_32 : decode cX6_barsBoth 32 = .ok (.getfield 18, 3) := by decide +kernel
theorem dX6_barsBoth_35 : decode cX6_barsBoth 35 = .ok (.iload 5, 2) := by decide +kernel
theorem dX6_barsBoth_37 : decode cX6_barsBoth 37 = .ok (.iaload, 1) := by decide +kernel
theorem dX6_barsBoth_38 : decode cX6_barsBoth 38 = .ok (.iload_n 2, 1) := by decide +kernel
theorem dX6_barsBoth_39 : decode cX6_barsBoth 39 = .ok (.if_icmp .eq 25, 3) := by decide +kernel
theorem dX6_barsBoth_42 : decode cX6_barsBoth 42 = .ok (.aload_n 0, 1) := by decide +kernel
theorem dX6_barsBoth_43 : decode cX6_barsBoth 43 = .ok (.getfield 15, 3) := by decide +kernel
theorem dX6_barsBoth_46 : decode cX6_barsBoth 46 = .ok (.iload 5, 2) := by decide +kernel
theorem dX6_barsBoth_48 : decode cX6_barsBoth 48 = .ok (.iaload, 1) := by decide +kernel
theorem dX6_barsBoth_49 : decode cX6_barsBoth 49 = .ok (.iload_n 2, 1) := by decide +kernel
theorem dX6_barsBoth_50 : decode cX6_barsBoth 50 = .ok (.if_icmp .ne 18, 3) := by decide +kernel
theorem dX6_barsBoth_53 : decode cX6_barsBoth 53 = .ok (.aload_n 0, 1) := by decide +kernel
theorem dX6_barsBoth_54 : decode cX6_barsBoth 54 = .ok (.getfield 18, 3) := by decide +kernel
theorem dX6_barsBoth_57 : decode cX6_barsBoth 57 = .ok (.iload 5, 2) := by decide +kernel
theorem dX6_barsBoth_59 : decode cX6_barsBoth 59 = .ok (.iaload, 1) := by decide +kernel
theorem dX6_barsBoth_60 : decode cX6_barsBoth 60 = .ok (.iload_n 1, 1) := by decide +kernel
theorem dX6_barsBoth_61 : decode cX6_barsBoth 61 = .ok (.if_icmp .ne 7, 3) := by decide +kernel
theorem dX6_barsBoth_64 : decode cX6_barsBoth 64 = .ok (.iconst 1, 1) := by decide +kernel
theorem dX6_barsBoth_65 : decode cX6_barsBoth 65 = .ok (.goto 4, 3) := by decide +kernel
theorem dX6_barsBoth_68 : decode cX6_barsBoth 68 = .ok (.iconst 0, 1) := by decide +kernel
theorem dX6_barsBoth_69 : decode cX6_barsBoth 69 = .ok (.istore 6, 2) := by decide +kernel
theorem dX6_barsBoth_71 : decode cX6_barsBoth 71 = .ok (.aload_n 0, 1) := by decide +kernel
theorem dX6_barsBoth_72 : decode cX6_barsBoth 72 = .ok (.getfield 9, 3) := by decide +kernel
theorem dX6_barsBoth_75 : decode cX6_barsBoth 75 = .ok (.iload 5, 2) := by decide +kernel
theorem dX6_barsBoth_77 : decode cX6_barsBoth 77 = .ok (.iaload, 1) := by decide +kernel
theorem dX6_barsBoth_78 : decode cX6_barsBoth 78 = .ok (.iconst 1, 1) := by decide +kernel
theorem dX6_barsBoth_79 : decode cX6_barsBoth 79 = .ok (.if_icmp .ne 32, 3) := by decide +kernel
theorem dX6_barsBoth_82 : decode cX6_barsBoth 82 = .ok (.iload 6, 2) := by decide +kernel
theorem dX6_barsBoth_84 : decode cX6_barsBoth 84 = .ok (.ifCond .eq 27, 3) := by decide +kernel
theorem dX6_barsBoth_87 : decode cX6_barsBoth 87 = .ok (.iload_n 3, 1) := by decide +kernel
theorem dX6_barsBoth_88 : decode cX6_barsBoth 88 = .ok (.aload_n 0, 1) := by decide +kernel
theorem dX6_barsBoth_89 : decode cX6_barsBoth 89 = .ok (.getfield 21, 3) := by decide +kernel
theorem dX6_barsBoth_92 : decode cX6_barsBoth 92 = .ok (.iload 5, 2) := by decide +kernel
theorem dX6_barsBoth_94 : decode cX6_barsBoth 94 = .ok (.iaload, 1) := by decide +kernel
theorem dX6_barsBoth_95 : decode cX6_barsBoth 95 = .ok (.if_icmp .gt 16, 3) := by decide +kernel
theorem dX6_barsBoth_98 : decode cX6_barsBoth 98 = .ok (.aload_n 0, 1) := by decide +kernel
theorem dX6_barsBoth_99 : decode cX6_barsBoth 99 = .ok (.iload 5, 2) := by decide +kernel
theorem dX6_barsBoth_101 : decode cX6_barsBoth 101 = .ok (.iload 4, 2) := by decide +kernel
theorem dX6_barsBoth_103 : decode cX6_barsBoth 103 = .ok (.invokevirtual 44, 3) := by decide +kernel
theorem dX6_barsBoth_106 : decode cX6_barsBoth 106 = .ok (.ifCond .eq 5, 3) := by decide +kernel
theorem dX6_barsBoth_109 : decode cX6_barsBoth 109 = .ok (.iconst 1, 1) := by decide +kernel
theorem dX6_barsBoth_110 : decode cX6_barsBoth 110 = .ok (.ireturn, 1) := by decide +kernel
theorem dX6_barsBoth_111 : decode cX6_barsBoth 111 = .ok (.iinc 5 1, 3) := by decide +kernel
theorem dX6_barsBoth_114 : decode cX6_barsBoth 114 = .ok (.goto (-103), 3) := by decide +kernel
theorem dX6_barsBoth_117 : decode cX6_barsBoth 117 = .ok (.iconst 0, 1) := by decide +kernel
theorem dX6_barsBoth_118 : decode cX6_barsBoth 118 = .ok (.ireturn, 1) := by decide +kernel
theorem dX7_init_0 : decode cX7_init 0 = .ok (.aload_n 0, 1) := by decide +kernel
theorem dX7_init_1 : decode cX7_init 1 = .ok (.invokespecial 3, 3) := by decide +kernel
theorem dX7_init_4 : decode cX7_init 4 = .ok (.aload_n 0, 1) := by decide +kernel
theorem dX7_init_5 : decode cX7_init 5 = .ok (.bipush 60, 2) := by decide +kernel
theorem dX7_init_7 : decode cX7_init 7 = .ok (.newarray .int, 2) := by decide +kernel
theorem dX7_init_9 : decode cX7_init 9 = .ok (.putfield 9, 3) := by decide +kernel
theorem dX7_init_12 : decode cX7_init 12 = .ok (.aload_n 0, 1) := by decide +kernel
theorem dX7_init_13 : decode cX7_init 13 = .ok (.iconst 0, 1) := by decide +kernel
theorem dX7_init_14 : decode cX7_init 14 = .ok (.putfield 15, 3) := by decide +kernel
theorem dX7_init_17 : decode cX7_init 17 = .ok (.aload_n 0, 1) := by decide +kernel
theorem dX7_init_18 : decode cX7_init 18 = .ok (.iconst 0, 1) := by decide +kernel
theorem dX7_init_19 : decode cX7_init 19 = .ok (.putfield 19, 3) := by decide +kernel
theorem dX7_init_22 : decode cX7_init 22 = .ok (.aload_n 0, 1) := by decide +kernel
theorem dX7_init_23 : decode cX7_init 23 = .ok (.iconst 0, 1) := by decide +kernel
theorem dX7_init_24 : decode cX7_init 24 = .ok (.putfield 22, 3) := by decide +kernel
theorem dX7_init_27 : decode cX7_init 27 = .ok (.aload_n 0, 1) := by decide +kernel
theorem dX7_init_28 : decode cX7_init 28 = .ok (.iconst 0, 1) := by decide +kernel
theorem dX7_init_29 : decode cX7_init 29 = .ok (.putfield 25, 3) := by decide +kernel
theorem dX7_init_32 : decode cX7_init 32 = .ok (.aload_n 0, 1) := by decide +kernel
theorem dX7_init_33 : decode cX7_init 33 = .ok (.iconst 0, 1) := by decide +kernel
theorem dX7_init_34 : decode cX7_init 34 = .ok (.putfield 28, 3) := by decide +kernel
theorem dX7_init_37 : decode cX7_init 37 = .ok (.aload_n 0, 1) := by decide +kernel
theorem dX7_init_38 : decode cX7_init 38 = .ok (.iconst 0, 1) := by decide +kernel
theorem dX7_init_39 : decode cX7_init 39 = .ok (.putfield 31, 3) := by decide +kernel
theorem dX7_init_42 : decode cX7_init 42 = .ok (.aload_n 0, 1) := by decide +kernel
theorem dX7_init_43 : decode cX7_init 43 = .ok (.iconst 0, 1) := by decide +kernel
theorem dX7_init_44 : decode cX7_init 44 = .ok (.putfield 34, 3) := by decide +kernel
theorem dX7_init_47 : decode cX7_init 47 = .ok (.aload_n 0, 1) := by decide +kernel
theorem dX7_init_48 : decode cX7_init 48 = .ok (.bipush (-3), 2) := by decide +kernel
theorem dX7_init_50 : decode cX7_init 50 = .ok (.putfield 37, 3) := by decide +kernel
theorem dX7_init_53 : decode cX7_init 53 = .ok (.return_, 1) := by decide +kernel
theorem dX7_takeBytes_0 : decode cX7_takeBytes 0 = .ok (.iconst 0, 1) := by decide +kernel
theorem dX7_takeBytes_1 : decode cX7_takeBytes 1 = .ok (.istore 4, 2) := by decide +kernel
theorem dX7_takeBytes_3 : decode cX7_takeBytes 3 = .ok (.iload 4, 2) := by decide +kernel
theorem dX7_takeBytes_5 : decode cX7_takeBytes 5 = .ok (.iload_n 3, 1) := by decide +kernel
theorem dX7_takeBytes_6 : decode cX7_takeBytes 6 = .ok (.if_icmp .ge 49, 3) := by decide +kernel
theorem dX7_takeBytes_9 : decode cX7_takeBytes 9 = .ok (.aload_n 0, 1) := by decide +kernel
theorem dX7_takeBytes_10 : decode cX7_takeBytes 10 = .ok (.getfield 15, 3) := by decide +kernel
theorem dX7_takeBytes_13 : decode cX7_takeBytes 13 = .ok (.bipush 60, 2) := by decide +kernel
theorem dX7_takeBytes_15 : decode cX7_takeBytes 15 = .ok (.if_icmp .ge 40, 3) := by decide +kernel
theorem dX7_takeBytes_18 : decode cX7_takeBytes 18 = .ok (.aload_n 0, 1) := by decide +kernel
theorem dX7_takeBytes_19 : decode cX7_takeBytes 19 = .ok (.getfield 9, 3) := by decide +kernel
theorem dX7_takeBytes_22 : decode cX7_takeBytes 22 = .ok (.aload_n 0, 1) := by decide +kernel
theorem dX7_takeBytes_23 : decode cX7_takeBytes 23 = .ok (.getfield 15, 3) := by decide +kernel
theorem dX7_takeBytes_26 : decode cX7_takeBytes 26 = .ok (.lload_n 1, 1) := by decide +kernel
theorem dX7_takeBytes_27 : decode cX7_takeBytes 27 = .ok (.bipush 8, 2) := by decide +kernel
theorem dX7_takeBytes_29 : decode cX7_takeBytes 29 = .ok (.iload 4, 2) := by decide +kernel
theorem dX7_takeBytes_31 : decode cX7_takeBytes 31 = .ok (.imul, 1) := by decide +kernel
theorem dX7_takeBytes_32 : decode cX7_takeBytes 32 = .ok (.lushr, 1) := by decide +kernel
theorem dX7_takeBytes_33 : decode cX7_takeBytes 33 = .ok (.ldc2_w 40, 3) := by decide +kernel
theorem dX7_takeBytes_36 : decode cX7_takeBytes 36 = .ok (.land, 1) := by decide +kernel
theorem dX7_takeBytes_37 : decode cX7_takeBytes 37 = .ok (.l2i, 1) := by decide +kernel
theorem dX7_takeBytes_38 : decode cX7_takeBytes 38 = .ok (.iastore, 1) := by decide +kernel
theorem dX7_takeBytes_39 : decode cX7_takeBytes 39 = .ok (.aload_n 0, 1) := by decide +kernel
theorem dX7_takeBytes_40 : decode cX7_takeBytes 40 = .ok (.dup, 1) := by decide +kernel
theorem dX7_takeBytes_41 : decode cX7_takeBytes 41 = .ok (.getfield 15, 3) := by decide +kernel
theorem dX7_takeBytes_44 : decode cX7_takeBytes 44 = .ok (.iconst 1, 1) := by decide +kernel
theorem dX7_takeBytes_45 : decode cX7_takeBytes 45 = .ok (.iadd, 1) := by decide +kernel
theorem dX7_takeBytes_46 : decode cX7_takeBytes 46 = .ok (.putfield 15, 3) := by decide +kernel
theorem dX7_takeBytes_49 : decode cX7_takeBytes 49 = .ok (.iinc 4 1, 3) := by decide +kernel
theorem dX7_takeBytes_52 : decode cX7_takeBytes 52 = .ok (.goto (-49), 3) := by decide +kernel
theorem dX7_takeBytes_55 : decode cX7_takeBytes 55 = .ok (.return_, 1) := by decide +kernel
theorem dX7_wipe_0 : decode cX7_wipe 0 = .ok (.aload_n 0, 1) := by decide +kernel
theorem dX7_wipe_1 : decode cX7_wipe 1 = .ok (.iconst 0, 1) := by decide +kernel
theorem dX7_wipe_2 : decode cX7_wipe 2 = .ok (.putfield 15, 3) := by decide +kernel
theorem dX7_wipe_5 : decode cX7_wipe 5 = .ok (.return_, 1) := by decide +kernel
theorem dX7_readRule_0 : decode cX7_readRule 0 = .ok (.aload_n 0, 1) := by decide +kernel
theorem dX7_readRule_1 : decode cX7_readRule 1 = .ok (.iconst 0, 1) := by decide +kernel
theorem dX7_readRule_2 : decode cX7_readRule 2 = .ok (.putfield 34, 3) := by decide +kernel
theorem dX7_readRule_5 : decode cX7_readRule 5 = .ok (.aload_n 0, 1) := by decide +kernel
theorem dX7_readRule_6 : decode cX7_readRule 6 = .ok (.bipush (-3), 2) := by decide +kernel
theorem dX7_readRule_8 : decode cX7_readRule 8 = .ok (.putfield 37, 3) := by decide +kernel
theorem dX7_readRule_11 : decode cX7_readRule 11 = .ok (.aload_n 0, 1) := by decide +kernel
theorem dX7_readRule_12 : decode cX7_readRule 12 = .ok (.bipush (-3), 2) := by decide +kernel
theorem dX7_readRule_14 : decode cX7_readRule 14 = .ok (.putfield 25, 3) := by decide +kernel
theorem dX7_readRule_17 : decode cX7_readRule 17 = .ok (.aload_n 0, 1) := by decide +kernel
theorem dX7_readRule_18 : decode cX7_readRule 18 = .ok (.bipush (-3), 2) := by decide +kernel
theorem dX7_readRule_20 : decode cX7_readRule 20 = .ok (.putfield 28, 3) := by decide +kernel
theorem dX7_readRule_23 : decode cX7_readRule 23 = .ok (.aload_n 0, 1) := by decide +kernel
theorem dX7_readRule_24 : decode cX7_readRule 24 = .ok (.aload_n 0, 1) := by decide +kernel
theorem dX7_readRule_25 : decode cX7_readRule 25 = .ok (.ldc 42, 2) := by decide +kernel
theorem dX7_readRule_27 : decode cX7_readRule 27 = .ok (.invokevirtual 44, 3) := by decide +kernel
theorem dX7_readRule_30 : decode cX7_readRule 30 = .ok (.putfield 19, 3) := by decide +kernel
theorem dX7_readRule_33 : decode cX7_readRule 33 = .ok (.aload_n 0, 1) := by decide +kernel
theorem dX7_readRule_34 : decode cX7_readRule 34 = .ok (.aload_n 0, 1) := by decide +kernel
theorem dX7_readRule_35 : decode cX7_readRule 35 = .ok (.aload_n 0, 1) := by decide +kernel
theorem dX7_readRule_36 : decode cX7_readRule 36 = .ok (.getfield 19, 3) := by decide +kernel
theorem dX7_readRule_39 : decode cX7_readRule 39 = .ok (.iconst 2, 1) := by decide +kernel
theorem dX7_readRule_40 : decode cX7_readRule 40 = .ok (.if_icmp .ne 8, 3) := by decide +kernel
theorem dX7_readRule_43 : decode cX7_readRule 43 = .ok (.ldc 48, 2) := by decide +kernel
theorem dX7_readRule_45 : decode cX7_readRule 45 = .ok (.goto 5, 3) := by decide +kernel
theorem dX7_readRule_48 : decode cX7_readRule 48 = .ok (.ldc 50, 2) := by decide +kernel
theorem dX7_readRule_50 : decode cX7_readRule 50 = .ok (.invokevirtual 44, 3) := by decide +kernel
theorem dX7_readRule_53 : decode cX7_readRule 53 = .ok (.putfield 22, 3) := by decide +kernel
theorem dX7_readRule_56 : decode cX7_readRule 56 = .ok (.aload_n 0, 1) := by decide +kernel
theorem dX7_readRule_57 : decode cX7_readRule 57 = .ok (.invokevirtual 52, 3) := by decide +kernel
theorem dX7_readRule_60 : decode cX7_readRule 60 = .ok (.aload_n 0, 1) := by decide +kernel
theorem dX7_readRule_61 : decode cX7_readRule 61 = .ok (.invokevirtual 55, 3) := by decide +kernel
theorem dX7_readRule_64 : decode cX7_readRule 64 = .ok (.aload_n 0, 1) := by decide +kernel
theorem dX7_readRule_65 : decode cX7_readRule 65 = .ok (.getfield 37, 3) := by decide +kernel
theorem dX7_readRule_68 : decode cX7_readRule 68 = .ok (.ireturn, 1) := by decide +kernel
theorem dX7_readRest_0 : decode cX7_readRest 0 = .ok (.aload_n 0, 1) := by decide +kernel
theorem dX7_readRest_1 : decode cX7_readRest 1 = .ok (.getfield 19, 3) := by decide +kernel
theorem dX7_readRest_4 : decode cX7_readRest 4 = .ok (.tableswitch 152 0 5 #[40, 61, 152, 92, 106, 138], 40) := by decide +kernel
theorem dX7_readRest_44 : decode cX7_readRest 44 = .ok (.aload_n 0, 1) := by decide +kernel
theorem dX7_readRest_45 : decode cX7_readRest 45 = .ok (.ldc 58, 2) := by decide +kernel
theorem dX7_readRest_47 : decode cX7_readRest 47 = .ok (.invokevirtual 44, 3) := by decide +kernel
theorem dX7_readRest_50 : decode cX7_readRest 50 = .ok (.pop, 1) := by decide +kernel
theorem dX7_readRest_51 : decode cX7_readRest 51 = .ok (.aload_n 0, 1) := by decide +kernel
theorem dX7_readRest_52 : decode cX7_readRest 52 = .ok (.aload_n 0, 1) := by decide +kernel
theorem dX7_readRest_53 : decode cX7_readRest 53 = .ok (.iconst 1, 1) := by decide +kernel
theorem dX7_readRest_54 : decode cX7_readRest 54 = .ok (.bipush 48, 2) := by decide +kernel
theorem dX7_readRest_56 : decode cX7_readRest 56 = .ok (.invokevirtual 60, 3) := by decide +kernel
theorem dX7_readRest_59 : decode cX7_readRest 59 = .ok (.putfield 25, 3) := by decide +kernel
theorem dX7_readRest_62 : decode cX7_readRest 62 = .ok (.goto 94, 3) := by decide +kernel
theorem dX7_readRest_65 : decode cX7_readRest 65 = .ok (.aload_n 0, 1) := by decide +kernel
theorem dX7_readRest_66 : decode cX7_readRest 66 = .ok (.aload_n 0, 1) := by decide +kernel
theorem dX7_readRest_67 : decode cX7_readRest 67 = .ok (.ldc 50, 2) := by decide +kernel
theorem dX7_readRest_69 : decode cX7_readRest 69 = .ok (.invokevirtual 44, 3) := by decide +kernel
theorem dX7_readRest_72 : decode cX7_readRest 72 = .ok (.putfield 25, 3) := by decide +kernel
theorem dX7_readRest_75 : decode cX7_readRest 75 = .ok (.aload_n 0, 1) := by decide +kernel
theorem dX7_readRest_76 : decode cX7_readRest 76 = .ok (.ldc 64, 2) := by decide +kernel
theorem dX7_readRest_78 : decode cX7_readRest 78 = .ok (.invokevirtual 44, 3) := by decide +kernel
theorem dX7_readRest_81 : decode cX7_readRest 81 = .ok (.pop, 1) := by decide +kernel
theorem dX7_readRest_82 : decode cX7_readRest 82 = .ok (.aload_n 0, 1) := by decide +kernel
theorem dX7_readRest_83 : decode cX7_readRest 83 = .ok (.aload_n 0, 1) := by decide +kernel
theorem dX7_readRest_84 : decode cX7_readRest 84 = .ok (.iconst 0, 1) := by decide +kernel
theorem dX7_readRest_85 : decode cX7_readRest 85 = .ok (.bipush 9, 2) := by decide +kernel
theorem dX7_readRest_87 : decode cX7_readRest 87 = .ok (.invokevirtual 60, 3) := by decide +kernel
theorem dX7_readRest_90 : decode cX7_readRest 90 = .ok (.putfield 28, 3) := by decide +kernel
theorem dX7_readRest_93 : decode cX7_readRest 93 = .ok (.goto 63, 3) := by decide +kernel
theorem dX7_readRest_96 : decode cX7_readRest 96 = .ok (.aload_n 0, 1) := by decide +kernel
theorem dX7_readRest_97 : decode cX7_readRest 97 = .ok (.aload_n 0, 1) := by decide +kernel
theorem dX7_readRest_98 : decode cX7_readRest 98 = .ok (.iconst 1, 1) := by decide +kernel
theorem dX7_readRest_99 : decode cX7_readRest 99 = .ok (.bipush 12, 2) := by decide +kernel
theorem dX7_readRest_101 : decode cX7_readRest 101 = .ok (.invokevirtual 60, 3) := by decide +kernel
theorem dX7_readRest_104 : decode cX7_readRest 104 = .ok (.putfield 25, 3) := by decide +kernel
theorem dX7_readRest_107 : decode cX7_readRest 107 = .ok (.goto 49, 3) := by decide +kernel
theorem dX7_readRest_110 : decode cX7_readRest 110 = .ok (.aload_n 0, 1) := by decide +kernel
theorem dX7_readRest_111 : decode cX7_readRest 111 = .ok (.aload_n 0, 1) := by decide +kernel
theorem dX7_readRest_112 : decode cX7_readRest 112 = .ok (.iconst 0, 1) := by decide +kernel
theorem dX7_readRest_113 : decode cX7_readRest 113 = .ok (.bipush 23, 2) := by decide +kernel
theorem dX7_readRest_115 : decode cX7_readRest 115 = .ok (.invokevirtual 60, 3) := by decide +kernel
theorem dX7_readRest_118 : decode cX7_readRest 118 = .ok (.putfield 25, 3) := by decide +kernel
theorem dX7_readRest_121 : decode cX7_readRest 121 = .ok (.aload_n 0, 1) := by decide +kernel
theorem dX7_readRest_122 : decode cX7_readRest 122 = .ok (.ldc 66, 2) := by decide +kernel
theorem dX7_readRest_124 : decode cX7_readRest 124 = .ok (.invokevirtual 44, 3) := by decide +kernel
theorem dX7_readRest_127 : decode cX7_readRest 127 = .ok (.pop, 1) := by decide +kernel
theorem dX7_readRest_128 : decode cX7_readRest 128 = .ok (.aload_n 0, 1) := by decide +kernel
theorem dX7_readRest_129 : decode cX7_readRest 129 = .ok (.aload_n 0, 1) := by decide +kernel
theorem dX7_readRest_130 : decode cX7_readRest 130 = .ok (.iconst 0, 1) := by decide +kernel
theorem dX7_readRest_131 : decode cX7_readRest 131 = .ok (.bipush 23, 2) := by decide +kernel
theorem dX7_readRest_133 : decode cX7_readRest 133 = .ok (.invokevirtual 60, 3) := by decide +kernel
theorem dX7_readRest_136 : decode cX7_readRest 136 = .ok (.putfield 28, 3) := by decide +kernel
theorem dX7_readRest_139 : decode cX7_readRest 139 = .ok (.goto 17, 3) := by decide +kernel
theorem dX7_readRest_142 : decode cX7_readRest 142 = .ok (.aload_n 0, 1) := by decide +kernel
theorem dX7_readRest_143 : decode cX7_readRest 143 = .ok (.aload_n 0, 1) := by decide +kernel
theorem dX7_readRest_144 : decode cX7_readRest 144 = .ok (.iconst 1, 1) := by decide +kernel
theorem dX7_readRest_145 : decode cX7_readRest 145 = .ok (.bipush 24, 2) := by decide +kernel
theorem dX7_readRest_147 : decode cX7_readRest 147 = .ok (.invokevirtual 60, 3) := by decide +kernel
theorem dX7_readRest_150 : decode cX7_readRest 150 = .ok (.putfield 25, 3) := by decide +kernel
theorem dX7_readRest_153 : decode cX7_readRest 153 = .ok (.goto 3, 3) := by decide +kernel
theorem dX7_readRest_156 : decode cX7_readRest 156 = .ok (.return_, 1) := by decide +kernel
theorem dX7_blame_0 : decode cX7_blame 0 = .ok (.aload_n 0, 1) := by decide +kernel
theorem dX7_blame_1 : decode cX7_blame 1 = .ok (.getfield 37, 3) := by decide +kernel
theorem dX7_blame_4 : decode cX7_blame 4 = .ok (.bipush (-3), 2) := by decide +kernel
theorem dX7_blame_6 : decode cX7_blame 6 = .ok (.if_icmp .ne 11, 3) := by decide +kernel
theorem dX7_blame_9 : decode cX7_blame 9 = .ok (.aload_n 0, 1) := by decide +kernel
theorem dX7_blame_10 : decode cX7_blame 10 = .ok (.aload_n 0, 1) := by decide +kernel
theorem dX7_blame_11 : decode cX7_blame 11 = .ok (.getfield 31, 3) := by decide +kernel
theorem dX7_blame_14 : decode cX7_blame 14 = .ok (.putfield 37, 3) := by decide +kernel
theorem dX7_blame_17 : decode cX7_blame 17 = .ok (.return_, 1) := by decide +kernel
theorem dX7_readEnd_0 : decode cX7_readEnd 0 = .ok (.aload_n 0, 1) := by decide +kernel
theorem dX7_readEnd_1 : decode cX7_readEnd 1 = .ok (.getfield 37, 3) := by decide +kernel
theorem dX7_readEnd_4 : decode cX7_readEnd 4 = .ok (.bipush (-3), 2) := by decide +kernel
theorem dX7_readEnd_6 : decode cX7_readEnd 6 = .ok (.if_icmp .ne 22, 3) := by decide +kernel
theorem dX7_readEnd_9 : decode cX7_readEnd 9 = .ok (.aload_n 0, 1) := by decide +kernel
theorem dX7_readEnd_10 : decode cX7_readEnd 10 = .ok (.invokevirtual 68, 3) := by decide +kernel
theorem dX7_readEnd_13 : decode cX7_readEnd 13 = .ok (.aload_n 0, 1) := by decide +kernel
theorem dX7_readEnd_14 : decode cX7_readEnd 14 = .ok (.getfield 31, 3) := by decide +kernel
theorem dX7_readEnd_17 : decode cX7_readEnd 17 = .ok (.aload_n 0, 1) := by decide +kernel
theorem dX7_readEnd_18 : decode cX7_readEnd 18 = .ok (.getfield 15, 3) := by decide +kernel
theorem dX7_readEnd_21 : decode cX7_readEnd 21 = .ok (.if_icmp .ge 7, 3) := by decide +kernel
theorem dX7_readEnd_24 : decode cX7_readEnd 24 = .ok (.aload_n 0, 1) := by decide +kernel
theorem dX7_readEnd_25 : decode cX7_readEnd 25 = .ok (.invokevirtual 71, 3) := by decide +kernel
theorem dX7_readEnd_28 : decode cX7_readEnd 28 = .ok (.return_, 1) := by decide +kernel
theorem dX7_readOneOf_0 : decode cX7_readOneOf 0 = .ok (.aload_n 0, 1) := by decide +kernel
theorem dX7_readOneOf_1 : decode cX7_readOneOf 1 = .ok (.getfield 37, 3) := by decide +kernel
theorem dX7_readOneOf_4 : decode cX7_readOneOf 4 = .ok (.bipush (-3), 2) := by decide +kernel
theorem dX7_readOneOf_6 : decode cX7_readOneOf 6 = .ok (.if_icmp .eq 6, 3) := by decide +kernel
theorem dX7_readOneOf_9 : decode cX7_readOneOf 9 = .ok (.bipush (-3), 2) := by decide +kernel
theorem dX7_readOneOf_11 : decode cX7_readOneOf 11 = .ok (.ireturn, 1) := by decide +kernel
theorem dX7_readOneOf_12 : decode cX7_readOneOf 12 = .ok (.aload_n 0, 1) := by decide +kernel
theorem dX7_readOneOf_13 : decode cX7_readOneOf 13 = .ok (.invokevirtual 68, 3) := by decide +kernel
theorem dX7_readOneOf_16 : decode cX7_readOneOf 16 = .ok (.aload_n 0, 1) := by decide +kernel
theorem dX7_readOneOf_17 : decode cX7_readOneOf 17 = .ok (.invokevirtual 74, 3) := by decide +kernel
theorem dX7_readOneOf_20 : decode cX7_readOneOf 20 = .ok (.ifCond .eq 11, 3) := by decide +kernel
theorem dX7_readOneOf_23 : decode cX7_readOneOf 23 = .ok (.aload_n 0, 1) := by decide +kernel
theorem dX7_readOneOf_24 : decode cX7_readOneOf 24 = .ok (.aload_n 1, 1) := by decide +kernel
theorem dX7_readOneOf_25 : decode cX7_readOneOf 25 = .ok (.invokevirtual 78, 3) := by decide +kernel
theorem dX7_readOneOf_28 : decode cX7_readOneOf 28 = .ok (.goto 5, 3) := by decide +kernel
theorem dX7_readOneOf_31 : decode cX7_readOneOf 31 = .ok (.bipush (-3), 2) := by decide +kernel
theorem dX7_readOneOf_33 : decode cX7_readOneOf 33 = .ok (.istore_n 2, 1) := by decide +kernel
theorem dX7_readOneOf_34 : decode cX7_readOneOf 34 = .ok (.iload_n 2, 1) := by decide +kernel
theorem dX7_readOneOf_35 : decode cX7_readOneOf 35 = .ok (.bipush (-3), 2) := by decide +kernel
theorem dX7_readOneOf_37 : decode cX7_readOneOf 37 = .ok (.if_icmp .ne 7, 3) := by decide +kernel
theorem dX7_readOneOf_40 : decode cX7_readOneOf 40 = .ok (.aload_n 0, 1) := by decide +kernel
theorem dX7_readOneOf_41 : decode cX7_readOneOf 41 = .ok (.invokevirtual 71, 3) := by decide +kernel
theorem dX7_readOneOf_44 : decode cX7_readOneOf 44 = .ok (.iload_n 2, 1) := by decide +kernel
theorem dX7_readOneOf_45 : decode cX7_readOneOf 45 = .ok (.ireturn, 1) := by decide +kernel
theorem dX7_readNumber_0 : decode cX7_readNumber 0 = .ok (.aload_n 0, 1) := by decide +kernel
theorem dX7_readNumber_1 : decode cX7_readNumber 1 = .ok (.getfield 37, 3) := by decide +kernel
theorem dX7_readNumber_4 : decode cX7_readNumber 4 = .ok (.bipush (-3), 2) := by decide +kernel
theorem dX7_readNumber_6 : decode cX7_readNumber 6 = .ok (.if_icmp .eq 6, 3) := by decide +kernel
theorem dX7_readNumber_9 : decode cX7_readNumber 9 = .ok (.bipush (-3), 2) := by decide +kernel
theorem dX7_readNumber_11 : decode cX7_readNumber 11 = .ok (.ireturn, 1) := by decide +kernel
theorem dX7_readNumber_12 : decode cX7_readNumber 12 = .ok (.aload_n 0, 1) := by decide +kernel
theorem dX7_readNumber_13 : decode cX7_readNumber 13 = .ok (.invokevirtual 68, 3) := by decide +kernel
theorem dX7_readNumber_16 : decode cX7_readNumber 16 = .ok (.aload_n 0, 1) := by decide +kernel
theorem dX7_readNumber_17 : decode cX7_readNumber 17 = .ok (.invokevirtual 74, 3) := by decide +kernel
theorem dX7_readNumber_20 : decode cX7_readNumber 20 = .ok (.ifCond .eq 10, 3) := by decide +kernel
theorem dX7_readNumber_23 : decode cX7_readNumber 23 = .ok (.aload_n 0, 1) := by decide +kernel
theorem dX7_readNumber_24 : decode cX7_readNumber 24 = .ok (.invokevirtual 81, 3) := by decide +kernel
theorem dX7_readNumber_27 : decode cX7_readNumber 27 = .ok (.goto 5, 3) := by decide +kernel
theorem dX7_readNumber_30 : decode cX7_readNumber 30 = .ok (.bipush (-3), 2) := by decide +kernel
theorem dX7_readNumber_32 : decode cX7_readNumber 32 = .ok (.istore_n 3, 1) := by decide +kernel
theorem dX7_readNumber_33 : decode cX7_readNumber 33 = .ok (.iload_n 3, 1) := by decide +kernel
theorem dX7_readNumber_34 : decode cX7_readNumber 34 = .ok (.iload_n 1, 1) := by decide +kernel
theorem dX7_readNumber_35 : decode cX7_readNumber 35 = .ok (.if_icmp .lt 8, 3) := by decide +kernel
theorem dX7_readNumber_38 : decode cX7_readNumber 38 = .ok (.iload_n 3, 1) := by decide +kernel
theorem dX7_readNumber_39 : decode cX7_readNumber 39 = .ok (.iload_n 2, 1) := by decide +kernel
theorem dX7_readNumber_40 : decode cX7_readNumber 40 = .ok (.if_icmp .le 7, 3) := by decide +kernel
theorem dX7_readNumber_43 : decode cX7_readNumber 43 = .ok (.aload_n 0, 1) := by decide +kernel
theorem dX7_readNumber_44 : decode cX7_readNumber 44 = .ok (.invokevirtual 71, 3) := by decide +kernel
theorem dX7_readNumber_47 : decode cX7_readNumber 47 = .ok (.iload_n 3, 1) := by decide +kernel
theorem dX7_readNumber_48 : decode cX7_readNumber 48 = .ok (.ireturn, 1) := by decide +kernel
theorem dX7_findPiece_0 : decode cX7_findPiece 0 = .ok (.aload_n 0, 1) := by decide +kernel
theorem dX7_findPiece_1 : decode cX7_findPiece 1 = .ok (.getfield 34, 3) := by decide +kernel
theorem dX7_findPiece_4 : decode cX7_findPiece 4 = .ok (.istore_n 1, 1) := by decide +kernel
theorem dX7_findPiece_5 : decode cX7_findPiece 5 = .ok (.iload_n 1, 1) := by decide +kernel
theorem dX7_findPiece_6 : decode cX7_findPiece 6 = .ok (.aload_n 0, 1) := by decide +kernel
theorem dX7_findPiece_7 : decode cX7_findPiece 7 = .ok (.getfield 15, 3) := by decide +kernel
theorem dX7_findPiece_10 : decode cX7_findPiece 10 = .ok (.if_icmp .ge 20, 3) := by decide +kernel
theorem dX7_findPiece_13 : decode cX7_findPiece 13 = .ok (.aload_n 0, 1) := by decide +kernel
theorem dX7_findPiece_14 : decode cX7_findPiece 14 = .ok (.getfield 9, 3) := by decide +kernel
theorem dX7_findPiece_17 : decode cX7_findPiece 17 = .ok (.iload_n 1, 1) := by decide +kernel
theorem dX7_findPiece_18 : decode cX7_findPiece 18 = .ok (.iaload, 1) := by decide +kernel
theorem dX7_findPiece_19 : decode cX7_findPiece 19 = .ok (.bipush 32, 2) := by decide +kernel
theorem dX7_findPiece_21 : decode cX7_findPiece 21 = .ok (.if_icmp .ne 9, 3) := by decide +kernel
theorem dX7_findPiece_24 : decode cX7_findPiece 24 = .ok (.iinc 1 1, 3) := by decide +kernel
theorem dX7_findPiece_27 : decode cX7_findPiece 27 = .ok (.goto (-22), 3) := by decide +kernel
theorem dX7_findPiece_30 : decode cX7_findPiece 30 = .ok (.aload_n 0, 1) := by decide +kernel
theorem dX7_findPiece_31 : decode cX7_findPiece 31 = .ok (.iload_n 1, 1) := by decide +kernel
theorem dX7_findPiece_32 : decode cX7_findPiece 32 = .ok (.putfield 31, 3) := by decide +kernel
theorem dX7_findPiece_35 : decode cX7_findPiece 35 = .ok (.aload_n 0, 1) := by decide +kernel
theorem dX7_findPiece_36 : decode cX7_findPiece 36 = .ok (.iload_n 1, 1) := by decide +kernel
theorem dX7_findPiece_37 : decode cX7_findPiece 37 = .ok (.invokevirtual 85, 3) := by decide +kernel
theorem dX7_findPiece_40 : decode cX7_findPiece 40 = .ok (.ifCond .eq 25, 3) := by decide +kernel
theorem dX7_findPiece_43 : decode cX7_findPiece 43 = .ok (.iload_n 1, 1) := by decide +kernel
theorem dX7_findPiece_44 : decode cX7_findPiece 44 = .ok (.aload_n 0, 1) := by decide +kernel
theorem dX7_findPiece_45 : decode cX7_findPiece 45 = .ok (.getfield 15, 3) := by decide +kernel
theorem dX7_findPiece_48 : decode cX7_findPiece 48 = .ok (.if_icmp .ge 58, 3) := by decide +kernel
theorem dX7_findPiece_51 : decode cX7_findPiece 51 = .ok (.aload_n 0, 1) := by decide +kernel
theorem dX7_findPiece_52 : decode cX7_findPiece 52 = .ok (.iload_n 1, 1) := by decide +kernel
theorem dX7_findPiece_53 : decode cX7_findPiece 53 = .ok (.invokevirtual 85, 3) := by decide +kernel
theorem dX7_findPiece_56 : decode cX7_findPiece 56 = .ok (.ifCond .eq 50, 3) := by decide +kernel
theorem dX7_findPiece_59 : decode cX7_findPiece 59 = .ok (.iinc 1 1, 3) := by decide +kernel
theorem dX7_findPiece_62 : decode cX7_findPiece 62 = .ok (.goto (-19), 3) := by decide +kernel
theorem dX7_findPiece_65 : decode cX7_findPiece 65 = .ok (.aload_n 0, 1) := by decide +kernel
theorem dX7_findPiece_66 : decode cX7_findPiece 66 = .ok (.iload_n 1, 1) := by decide +kernel
theorem dX7_findPiece_67 : decode cX7_findPiece 67 = .ok (.invokevirtual 89, 3) := by decide +kernel
theorem dX7_findPiece_70 : decode cX7_findPiece 70 = .ok (.ifCond .eq 25, 3) := by decide +kernel
theorem dX7_findPiece_73 : decode cX7_findPiece 73 = .ok (.iload_n 1, 1) := by decide +kernel
theorem dX7_findPiece_74 : decode cX7_findPiece 74 = .ok (.aload_n 0, 1) := by decide +kernel
theorem dX7_findPiece_75 : decode cX7_findPiece 75 = .ok (.getfield 15, 3) := by decide +kernel
theorem dX7_findPiece_78 : decode cX7_findPiece 78 = .ok (.if_icmp .ge 28, 3) := by decide +kernel
theorem dX7_findPiece_81 : decode cX7_findPiece 81 = .ok (.aload_n 0, 1) := by decide +kernel
theorem dX7_findPiece_82 : decode cX7_findPiece 82 = .ok (.iload_n 1, 1) := by decide +kernel
theorem dX7_findPiece_83 : decode cX7_findPiece 83 = .ok (.invokevirtual 89, 3) := by decide +kernel
theorem dX7_findPiece_86 : decode cX7_findPiece 86 = .ok (.ifCond .eq 20, 3) := by decide +kernel
theorem dX7_findPiece_89 : decode cX7_findPiece 89 = .ok (.iinc 1 1, 3) := by decide +kernel
theorem dX7_findPiece_92 : decode cX7_findPiece 92 = .ok (.goto (-19), 3) := by decide +kernel
theorem dX7_findPiece_95 : decode cX7_findPiece 95 = .ok (.iload_n 1, 1) := by decide +kernel
theorem dX7_findPiece_96 : decode cX7_findPiece 96 = .ok (.aload_n 0, 1) := by decide +kernel
theorem dX7_findPiece_97 : decode cX7_findPiece 97 = .ok (.getfield 15, 3) := by decide +kernel
theorem dX7_findPiece_100 : decode cX7_findPiece 100 = .ok (.if_icmp .ge 6, 3) := by decide +kernel
theorem dX7_findPiece_103 : decode cX7_findPiece 103 = .ok (.iinc 1 1, 3) := by decide +kernel
theorem dX7_findPiece_106 : decode cX7_findPiece 106 = .ok (.aload_n 0, 1) := by decide +kernel
theorem dX7_findPiece_107 : decode cX7_findPiece 107 = .ok (.iload_n 1, 1) := by decide +kernel
theorem dX7_findPiece_108 : decode cX7_findPiece 108 = .ok (.putfield 34, 3) := by decide +kernel
theorem dX7_findPiece_111 : decode cX7_findPiece 111 = .ok (.return_, 1) := by decide +kernel
theorem dX7_isLetter_0 : decode cX7_isLetter 0 = .ok (.iload_n 1, 1) := by decide +kernel
theorem dX7_isLetter_1 : decode cX7_isLetter 1 = .ok (.aload_n 0, 1) := by decide +kernel
theorem dX7_isLetter_2 : decode cX7_isLetter 2 = .ok (.getfield 15, 3) := by decide +kernel
theorem dX7_isLetter_5 : decode cX7_isLetter 5 = .ok (.if_icmp .ge 29, 3) := by decide +kernel
theorem dX7_isLetter_8 : decode cX7_isLetter 8 = .ok (.aload_n 0, 1) := by decide +kernel
theorem dX7_isLetter_9 : decode cX7_isLetter 9 = .ok (.getfield 9, 3) := by decide +kernel
theorem dX7_isLetter_12 : decode cX7_isLetter 12 = .ok (.iload_n 1, 1) := by decide +kernel
theorem dX7_isLetter_13 : decode cX7_isLetter 13 = .ok (.iaload, 1) := by decide +kernel
theorem dX7_isLetter_14 : decode cX7_isLetter 14 = .ok (.bipush 97, 2) := by decide +kernel
theorem dX7_isLetter_16 : decode cX7_isLetter 16 = .ok (.if_icmp .lt 18, 3) := by decide +kernel
theorem dX7_isLetter_19 : decode cX7_isLetter 19 = .ok (.aload_n 0, 1) := by decide +kernel
theorem dX7_isLetter_20 : decode cX7_isLetter 20 = .ok (.getfield 9, 3) := by decide +kernel
theorem dX7_isLetter_23 : decode cX7_isLetter 23 = .ok (.iload_n 1, 1) := by decide +kernel
theorem dX7_isLetter_24 : decode cX7_isLetter 24 = .ok (.iaload, 1) := by decide +kernel
theorem dX7_isLetter_25 : decode cX7_isLetter 25 = .ok (.bipush 122, 2) := by decide +kernel
theorem dX7_isLetter_27 : decode cX7_isLetter 27 = .ok (.if_icmp .gt 7, 3) := by decide +kernel
theorem dX7_isLetter_30 : decode cX7_isLetter 30 = .ok (.iconst 1, 1) := by decide +kernel
theorem dX7_isLetter_31 : decode cX7_isLetter 31 = .ok (.goto 4, 3) := by decide +kernel
theorem dX7_isLetter_34 : decode cX7_isLetter 34 = .ok (.iconst 0, 1) := by decide +kernel
theorem dX7_isLetter_35 : decode cX7_isLetter 35 = .ok (.ireturn, 1) := by decide +kernel
theorem dX7_isDigit_0 : decode cX7_isDigit 0 = .ok (.iload_n 1, 1) := by decide +kernel
theorem dX7_isDigit_1 : decode cX7_isDigit 1 = .ok (.aload_n 0, 1) := by decide +kernel
theorem dX7_isDigit_2 : decode cX7_isDigit 2 = .ok (.getfield 15, 3) := by decide +kernel
theorem dX7_isDigit_5 : decode cX7_isDigit 5 = .ok (.if_icmp .ge 29, 3) := by decide +kernel
theorem dX7_isDigit_8 : decode cX7_isDigit 8 = .ok (.aload_n 0, 1) := by decide +kernel
theorem dX7_isDigit_9 : decode cX7_isDigit 9 = .ok (.getfield 9, 3) := by decide +kernel
theorem dX7_isDigit_12 : decode cX7_isDigit 12 = .ok (.iload_n 1, 1) := by decide +kernel
theorem dX7_isDigit_13 : decode cX7_isDigit 13 = .ok (.iaload, 1) := by decide +kernel
theorem dX7_isDigit_14 : decode cX7_isDigit 14 = .ok (.bipush 48, 2) := by decide +kernel
theorem dX7_isDigit_16 : decode cX7_isDigit 16 = .ok (.if_icmp .lt 18, 3) := by decide +kernel
theorem dX7_isDigit_19 : decode cX7_isDigit 19 = .ok (.aload_n 0, 1) := by decide +kernel
theorem dX7_isDigit_20 : decode cX7_isDigit 20 = .ok (.getfield 9, 3) := by decide +kernel
theorem dX7_isDigit_23 : decode cX7_isDigit 23 = .ok (.iload_n 1, 1) := by decide +kernel
theorem dX7_isDigit_24 : decode cX7_isDigit 24 = .ok (.iaload, 1) := by decide +kernel
theorem dX7_isDigit_25 : decode cX7_isDigit 25 = .ok (.bipush 57, 2) := by decide +kernel
theorem dX7_isDigit_27 : decode cX7_isDigit 27 = .ok (.if_icmp .gt 7, 3) := by decide +kernel
theorem dX7_isDigit_30 : decode cX7_isDigit 30 = .ok (.iconst 1, 1) := by decide +kernel
theorem dX7_isDigit_31 : decode cX7_isDigit 31 = .ok (.goto 4, 3) := by decide +kernel
theorem dX7_isDigit_34 : decode cX7_isDigit 34 = .ok (.iconst 0, 1) := by decide +kernel
theorem dX7_isDigit_35 : decode cX7_isDigit 35 = .ok (.ireturn, 1) := by decide +kernel
theorem dX7_isParted_0 : decode cX7_isParted 0 = .ok (.aload_n 0, 1) := by decide +kernel
theorem dX7_isParted_1 : decode cX7_isParted 1 = .ok (.getfield 31, 3) := by decide +kernel
theorem dX7_isParted_4 : decode cX7_isParted 4 = .ok (.ifCond .eq 19, 3) := by decide +kernel
theorem dX7_isParted_7 : decode cX7_isParted 7 = .ok (.aload_n 0, 1) := by decide +kernel
theorem dX7_isParted_8 : decode cX7_isParted 8 = .ok (.getfield 9, 3) := by decide +kernel
theorem dX7_isParted_11 : decode cX7_isParted 11 = .ok (.aload_n 0, 1) := by decide +kernel
theorem dX7_isParted_12 : decode cX7_isParted 12 = .ok (.getfield 31, 3) := by decide +kernel
theorem dX7_isParted_15 : decode cX7_isParted 15 = .ok (.iconst 1, 1) := by decide +kernel
theorem dX7_isParted_16 : decode cX7_isParted 16 = .ok (.isub, 1) := by decide +kernel
theorem dX7_isParted_17 : decode cX7_isParted 17 = .ok (.iaload, 1) := by decide +kernel
theorem dX7_isParted_18 : decode cX7_isParted 18 = .ok (.bipush 32, 2) := by decide +kernel
theorem dX7_isParted_20 : decode cX7_isParted 20 = .ok (.if_icmp .ne 7, 3) := by decide +kernel
theorem dX7_isParted_23 : decode cX7_isParted 23 = .ok (.iconst 1, 1) := by decide +kernel
theorem dX7_isParted_24 : decode cX7_isParted 24 = .ok (.goto 4, 3) := by decide +kernel
theorem dX7_isParted_27 : decode cX7_isParted 27 = .ok (.iconst 0, 1) := by decide +kernel
theorem dX7_isParted_28 : decode cX7_isParted 28 = .ok (.ireturn, 1) := by decide +kernel
theorem dX7_numberOfPiece_0 : decode cX7_numberOfPiece 0 = .ok (.aload_n 0, 1) := by decide +kernel
theorem dX7_numberOfPiece_1 : decode cX7_numberOfPiece 1 = .ok (.aload_n 0, 1) := by decide +kernel
theorem dX7_numberOfPiece_2 : decode cX7_numberOfPiece 2 = .ok (.getfield 31, 3) := by decide +kernel
theorem dX7_numberOfPiece_5 : decode cX7_numberOfPiece 5 = .ok (.invokevirtual 89, 3) := by decide +kernel
theorem dX7_numberOfPiece_8 : decode cX7_numberOfPiece 8 = .ok (.ifCond .eq 16, 3) := by decide +kernel
theorem dX7_numberOfPiece_11 : decode cX7_numberOfPiece 11 = .ok (.aload_n 0, 1) := by decide +kernel
theorem dX7_numberOfPiece_12 : decode cX7_numberOfPiece 12 = .ok (.getfield 34, 3) := by decide +kernel
theorem dX7_numberOfPiece_15 : decode cX7_numberOfPiece 15 = .ok (.aload_n 0, 1) := by decide +kernel
theorem dX7_numberOfPiece_16 : decode cX7_numberOfPiece 16 = .ok (.getfield 31, 3) := by decide +kernel
theorem dX7_numberOfPiece_19 : decode cX7_numberOfPiece 19 = .ok (.isub, 1) := by decide +kernel
theorem dX7_numberOfPiece_20 : decode cX7_numberOfPiece 20 = .ok (.iconst 3, 1) := by decide +kernel
theorem dX7_numberOfPiece_21 : decode cX7_numberOfPiece 21 = .ok (.if_icmp .le 6, 3) := by decide +kernel
theorem dX7_numberOfPiece_24 : decode cX7_numberOfPiece 24 = .ok (.bipush (-3), 2) := by decide +kernel
theorem dX7_numberOfPiece_26 : decode cX7_numberOfPiece 26 = .ok (.ireturn, 1) := by decide +kernel
theorem dX7_numberOfPiece_27 : decode cX7_numberOfPiece 27 = .ok (.iconst 0, 1) := by decide +kernel
theorem dX7_numberOfPiece_28 : decode cX7_numberOfPiece 28 = .ok (.istore_n 1, 1) := by decide +kernel
theorem dX7_numberOfPiece_29 : decode cX7_numberOfPiece 29 = .ok (.aload_n 0, 1) := by decide +kernel
theorem dX7_numberOfPiece_30 : decode cX7_numberOfPiece 30 = .ok (.getfield 31, 3) := by decide +kernel
theorem dX7_numberOfPiece_33 : decode cX7_numberOfPiece 33 = .ok (.istore_n 2, 1) := by decide +kernel
theorem dX7_numberOfPiece_34 : decode cX7_numberOfPiece 34 = .ok (.iload_n 2, 1) := by decide +kernel
theorem dX7_numberOfPiece_35 : decode cX7_numberOfPiece 35 = .ok (.aload_n 0, 1) := by decide +kernel
theorem dX7_numberOfPiece_36 : decode cX7_numberOfPiece 36 = .ok (.getfield 34, 3) := by decide +kernel
theorem dX7_numberOfPiece_39 : decode cX7_numberOfPiece 39 = .ok (.if_icmp .ge 24, 3) := by decide +kernel
theorem dX7_numberOfPiece_42 : decode cX7_numberOfPiece 42 = .ok (.bipush 10, 2) := by decide +kernel
theorem dX7_numberOfPiece_44 : decode cX7_numberOfPiece 44 = .ok (.iload_n 1, 1) := by decide +kernel
theorem dX7_numberOfPiece_45 : decode cX7_numberOfPiece 45 = .ok (.imul, 1) := by decide +kernel
theorem dX7_numberOfPiece_46 : decode cX7_numberOfPiece 46 = .ok (.aload_n 0, 1) := by decide +kernel
theorem dX7_numberOfPiece_47 : decode cX7_numberOfPiece 47 = .ok (.getfield 9, 3) := by decide +kernel
theorem dX7_numberOfPiece_50 : decode cX7_numberOfPiece 50 = .ok (.iload_n 2, 1) := by decide +kernel
theorem dX7_numberOfPiece_51 : decode cX7_numberOfPiece 51 = .ok (.iaload, 1) := by decide +kernel
theorem dX7_numberOfPiece_52 : decode cX7_numberOfPiece 52 = .ok (.iadd, 1) := by decide +kernel
theorem dX7_numberOfPiece_53 : decode cX7_numberOfPiece 53 = .ok (.bipush 48, 2) := by decide +kernel
theorem dX7_numberOfPiece_55 : decode cX7_numberOfPiece 55 = .ok (.isub, 1) := by decide +kernel
theorem dX7_numberOfPiece_56 : decode cX7_numberOfPiece 56 = .ok (.istore_n 1, 1) := by decide +kernel
theorem dX7_numberOfPiece_57 : decode cX7_numberOfPiece 57 = .ok (.iinc 2 1, 3) := by decide +kernel
theorem dX7_numberOfPiece_60 : decode cX7_numberOfPiece 60 = .ok (.goto (-26), 3) := by decide +kernel
theorem dX7_numberOfPiece_63 : decode cX7_numberOfPiece 63 = .ok (.iload_n 1, 1) := by decide +kernel
theorem dX7_numberOfPiece_64 : decode cX7_numberOfPiece 64 = .ok (.ireturn, 1) := by decide +kernel
theorem dX7_placeAmong_0 : decode cX7_placeAmong 0 = .ok (.iconst 0, 1) := by decide +kernel
theorem dX7_placeAmong_1 : decode cX7_placeAmong 1 = .ok (.istore_n 2, 1) := by decide +kernel
theorem dX7_placeAmong_2 : decode cX7_placeAmong 2 = .ok (.aload_n 0, 1) := by decide +kernel
theorem dX7_placeAmong_3 : decode cX7_placeAmong 3 = .ok (.getfield 31, 3) := by decide +kernel
theorem dX7_placeAmong_6 : decode cX7_placeAmong 6 = .ok (.istore_n 3, 1) := by decide +kernel
theorem dX7_placeAmong_7 : decode cX7_placeAmong 7 = .ok (.iconst 1, 1) := by decide +kernel
theorem dX7_placeAmong_8 : decode cX7_placeAmong 8 = .ok (.istore 4, 2) := by decide +kernel
theorem dX7_placeAmong_10 : decode cX7_placeAmong 10 = .ok (.iconst 0, 1) := by decide +kernel
theorem dX7_placeAmong_11 : decode cX7_placeAmong 11 = .ok (.istore 5, 2) := by decide +kernel
theorem dX7_placeAmong_13 : decode cX7_placeAmong 13 = .ok (.iload 5, 2) := by decide +kernel
theorem dX7_placeAmong_15 : decode cX7_placeAmong 15 = .ok (.aload_n 1, 1) := by decide +kernel
theorem dX7_placeAmong_16 : decode cX7_placeAmong 16 = .ok (.invokevirtual 92, 3) := by decide +kernel
theorem dX7_placeAmong_19 : decode cX7_placeAmong 19 = .ok (.if_icmp .gt 96, 3) := by decide +kernel
theorem dX7_placeAmong_22 : decode cX7_placeAmong 22 = .ok (.iload 5, 2) := by decide +kernel
theorem dX7_placeAmong_24 : decode cX7_placeAmong 24 = .ok (.aload_n 1, 1) := by decide +kernel
theorem dX7_placeAmong_25 : decode cX7_placeAmong 25 = .ok (.invokevirtual 92, 3) := by decide +kernel
theorem dX7_placeAmong_28 : decode cX7_placeAmong 28 = .ok (.if_icmp .ge 55, 3) := by decide +kernel
theorem dX7_placeAmong_31 : decode cX7_placeAmong 31 = .ok (.aload_n 1, 1) := by decide +kernel
theorem dX7_placeAmong_32 : decode cX7_placeAmong 32 = .ok (.iload 5, 2) := by decide +kernel
theorem dX7_placeAmong_34 : decode cX7_placeAmong 34 = .ok (.invokevirtual 96, 3) := by decide +kernel
theorem dX7_placeAmong_37 : decode cX7_placeAmong 37 = .ok (.bipush 32, 2) := by decide +kernel
theorem dX7_placeAmong_39 : decode cX7_placeAmong 39 = .ok (.if_icmp .eq 44, 3) := by decide +kernel
theorem dX7_placeAmong_42 : decode cX7_placeAmong 42 = .ok (.iload 4, 2) := by decide +kernel
theorem dX7_placeAmong_44 : decode cX7_placeAmong 44 = .ok (.ifCond .eq 30, 3) := by decide +kernel
theorem dX7_placeAmong_47 : decode cX7_placeAmong 47 = .ok (.iload_n 3, 1) := by decide +kernel
theorem dX7_placeAmong_48 : decode cX7_placeAmong 48 = .ok (.aload_n 0, 1) := by decide +kernel
theorem dX7_placeAmong_49 : decode cX7_placeAmong 49 = .ok (.getfield 34, 3) := by decide +kernel
theorem dX7_placeAmong_52 : decode cX7_placeAmong 52 = .ok (.if_icmp .ge 22, 3) := by decide +kernel
theorem dX7_placeAmong_55 : decode cX7_placeAmong 55 = .ok (.aload_n 0, 1) := by decide +kernel
theorem dX7_placeAmong_56 : decode cX7_placeAmong 56 = .ok (.getfield 9, 3) := by decide +kernel
theorem dX7_placeAmong_59 : decode cX7_placeAmong 59 = .ok (.iload_n 3, 1) := by decide +kernel
theorem dX7_placeAmong_60 : decode cX7_placeAmong 60 = .ok (.iaload, 1) := by decide +kernel
theorem dX7_placeAmong_61 : decode cX7_placeAmong 61 = .ok (.aload_n 1, 1) := by decide +kernel
theorem dX7_placeAmong_62 : decode cX7_placeAmong 62 = .ok (.iload 5, 2) := by decide +kernel
theorem dX7_placeAmong_64 : decode cX7_placeAmong 64 = .ok (.invokevirtual 96, 3) := by decide +kernel
theorem dX7_placeAmong_67 : decode cX7_placeAmong 67 = .ok (.if_icmp .ne 7, 3) := by decide +kernel
theorem dX7_placeAmong_70 : decode cX7_placeAmong 70 = .ok (.iconst 1, 1) := by decide +kernel
theorem dX7_placeAmong_71 : decode cX7_placeAmong 71 = .ok (.goto 4, 3) := by decide +kernel
theorem dX7_placeAmong_74 : decode cX7_placeAmong 74 = .ok (.iconst 0, 1) := by decide +kernel
theorem dX7_placeAmong_75 : decode cX7_placeAmong 75 = .ok (.istore 4, 2) := by decide +kernel
theorem dX7_placeAmong_77 : decode cX7_placeAmong 77 = .ok (.iinc 3 1, 3) := by decide +kernel
theorem dX7_placeAmong_80 : decode cX7_placeAmong 80 = .ok (.goto 29, 3) := by decide +kernel
theorem dX7_placeAmong_83 : decode cX7_placeAmong 83 = .ok (.iload 4, 2) := by decide +kernel
theorem dX7_placeAmong_85 : decode cX7_placeAmong 85 = .ok (.ifCond .eq 13, 3) := by decide +kernel
theorem dX7_placeAmong_88 : decode cX7_placeAmong 88 = .ok (.iload_n 3, 1) := by decide +kernel
theorem dX7_placeAmong_89 : decode cX7_placeAmong 89 = .ok (.aload_n 0, 1) := by decide +kernel
theorem dX7_placeAmong_90 : decode cX7_placeAmong 90 = .ok (.getfield 34, 3) := by decide +kernel
theorem dX7_placeAmong_93 : decode cX7_placeAmong 93 = .ok (.if_icmp .ne 5, 3) := by decide +kernel
theorem dX7_placeAmong_96 : decode cX7_placeAmong 96 = .ok (.iload_n 2, 1) := by decide +kernel
theorem dX7_placeAmong_97 : decode cX7_placeAmong 97 = .ok (.ireturn, 1) := by decide +kernel
theorem dX7_placeAmong_98 : decode cX7_placeAmong 98 = .ok (.iinc 2 1, 3) := by decide +kernel
theorem dX7_placeAmong_101 : decode cX7_placeAmong 101 = .ok (.aload_n 0, 1) := by decide +kernel
theorem dX7_placeAmong_102 : decode cX7_placeAmong 102 = .ok (.getfield 31, 3) := by decide +kernel
theorem dX7_placeAmong_105 : decode cX7_placeAmong 105 = .ok (.istore_n 3, 1) := by decide +kernel
theorem dX7_placeAmong_106 : decode cX7_placeAmong 106 = .ok (.iconst 1, 1) := by decide +kernel
theorem dX7_placeAmong_107 : decode cX7_placeAmong 107 = .ok (.istore 4, 2) := by decide +kernel
theorem dX7_placeAmong_109 : decode cX7_placeAmong 109 = .ok (.iinc 5 1, 3) := by decide +kernel
theorem dX7_placeAmong_112 : decode cX7_placeAmong 112 = .ok (.goto (-99), 3) := by decide +kernel
theorem dX7_placeAmong_115 : decode cX7_placeAmong 115 = .ok (.bipush (-3), 2) := by decide +kernel
theorem dX7_placeAmong_117 : decode cX7_placeAmong 117 = .ok (.ireturn, 1) := by decide +kernel
theorem dX8_init_0 : decode cX8_init 0 = .ok (.aload_n 0, 1) := by decide +kernel
theorem dX8_init_1 : decode cX8_init 1 = .ok (.invokespecial 1, 3) := by decide +kernel
theorem dX8_init_4 : decode cX8_init 4 = .ok (.aload_n 0, 1) := by decide +kernel
theorem dX8_init_5 : decode cX8_init 5 = .ok (.new 7, 3) := by decide +kernel
theorem dX8_init_8 : decode cX8_init 8 = .ok (.dup, 1) := by decide +kernel
theorem dX8_init_9 : decode cX8_init 9 = .ok (.invokespecial 9, 3) := by decide +kernel
theorem dX8_init_12 : decode cX8_init 12 = .ok (.putfield 10, 3) := by decide +kernel
theorem dX8_init_15 : decode cX8_init 15 = .ok (.aload_n 0, 1) := by decide +kernel
theorem dX8_init_16 : decode cX8_init 16 = .ok (.aload_n 0, 1) := by decide +kernel
theorem dX8_init_17 : decode cX8_init 17 = .ok (.getfield 10, 3) := by decide +kernel
theorem dX8_init_20 : decode cX8_init 20 = .ok (.getfield 16, 3) := by decide +kernel
theorem dX8_init_23 : decode cX8_init 23 = .ok (.putfield 20, 3) := by decide +kernel
theorem dX8_init_26 : decode cX8_init 26 = .ok (.aload_n 0, 1) := by decide +kernel
theorem dX8_init_27 : decode cX8_init 27 = .ok (.aload_n 0, 1) := by decide +kernel
theorem dX8_init_28 : decode cX8_init 28 = .ok (.getfield 10, 3) := by decide +kernel
theorem dX8_init_31 : decode cX8_init 31 = .ok (.getfield 21, 3) := by decide +kernel
theorem dX8_init_34 : decode cX8_init 34 = .ok (.putfield 25, 3) := by decide +kernel
theorem dX8_init_37 : decode cX8_init 37 = .ok (.aload_n 0, 1) := by decide +kernel
theorem dX8_init_38 : decode cX8_init 38 = .ok (.aload_n 0, 1) := by decide +kernel
theorem dX8_init_39 : decode cX8_init 39 = .ok (.getfield 10, 3) := by decide +kernel
theorem dX8_init_42 : decode cX8_init 42 = .ok (.getfield 26, 3) := by decide +kernel
theorem dX8_init_45 : decode cX8_init 45 = .ok (.putfield 30, 3) := by decide +kernel
theorem dX8_init_48 : decode cX8_init 48 = .ok (.aload_n 0, 1) := by decide +kernel
theorem dX8_init_49 : decode cX8_init 49 = .ok (.aload_n 0, 1) := by decide +kernel
theorem dX8_init_50 : decode cX8_init 50 = .ok (.getfield 10, 3) := by decide +kernel
theorem dX8_init_53 : decode cX8_init 53 = .ok (.getfield 31, 3) := by decide +kernel
theorem dX8_init_56 : decode cX8_init 56 = .ok (.putfield 35, 3) := by decide +kernel
theorem dX8_init_59 : decode cX8_init 59 = .ok (.aload_n 0, 1) := by decide +kernel
theorem dX8_init_60 : decode cX8_init 60 = .ok (.new 36, 3) := by decide +kernel
theorem dX8_init_63 : decode cX8_init 63 = .ok (.dup, 1) := by decide +kernel
theorem dX8_init_64 : decode cX8_init 64 = .ok (.invokespecial 38, 3) := by decide +kernel
theorem dX8_init_67 : decode cX8_init 67 = .ok (.putfield 39, 3) := by decide +kernel
theorem dX8_init_70 : decode cX8_init 70 = .ok (.aload_n 0, 1) := by decide +kernel
theorem dX8_init_71 : decode cX8_init 71 = .ok (.new 43, 3) := by decide +kernel
theorem dX8_init_74 : decode cX8_init 74 = .ok (.dup, 1) := by decide +kernel
theorem dX8_init_75 : decode cX8_init 75 = .ok (.invokespecial 45, 3) := by decide +kernel
theorem dX8_init_78 : decode cX8_init 78 = .ok (.putfield 46, 3) := by decide +kernel
theorem dX8_init_81 : decode cX8_init 81 = .ok (.aload_n 0, 1) := by decide +kernel
theorem dX8_init_82 : decode cX8_init 82 = .ok (.new 50, 3) := by decide +kernel
theorem dX8_init_85 : decode cX8_init 85 = .ok (.dup, 1) := by decide +kernel
theorem dX8_init_86 : decode cX8_init 86 = .ok (.invokespecial 52, 3) := by decide +kernel
theorem dX8_init_89 : decode cX8_init 89 = .ok (.putfield 53, 3) := by decide +kernel
theorem dX8_init_92 : decode cX8_init 92 = .ok (.aload_n 0, 1) := by decide +kernel
theorem dX8_init_93 : decode cX8_init 93 = .ok (.iconst 0, 1) := by decide +kernel
theorem dX8_init_94 : decode cX8_init 94 = .ok (.putfield 57, 3) := by decide +kernel
theorem dX8_init_97 : decode cX8_init 97 = .ok (.return_, 1) := by decide +kernel
theorem dX8_pipe_0 : decode cX8_pipe 0 = .ok (.iload_n 1, 1) := by decide +kernel
theorem dX8_pipe_1 : decode cX8_pipe 1 = .ok (.invokestatic 61, 3) := by decide +kernel
theorem dX8_pipe_4 : decode cX8_pipe 4 = .ok (.ifCond .eq 24, 3) := by decide +kernel
theorem dX8_pipe_7 : decode cX8_pipe 7 = .ok (.iload_n 2, 1) := by decide +kernel
theorem dX8_pipe_8 : decode cX8_pipe 8 = .ok (.invokestatic 61, 3) := by decide +kernel
theorem dX8_pipe_11 : decode cX8_pipe 11 = .ok (.ifCond .eq 17, 3) := by decide +kernel
theorem dX8_pipe_14 : decode cX8_pipe 14 = .ok (.iload_n 1, 1) := by decide +kernel
theorem dX8_pipe_15 : decode cX8_pipe 15 = .ok (.iload_n 2, 1) := by decide +kernel
theorem dX8_pipe_16 : decode cX8_pipe 16 = .ok (.if_icmp .eq 12, 3) := by decide +kernel
theorem dX8_pipe_19 : decode cX8_pipe 19 = .ok (.iload_n 3, 1) := by decide +kernel
theorem dX8_pipe_20 : decode cX8_pipe 20 = .ok (.ifCond .lt 8, 3) := by decide +kernel
theorem dX8_pipe_23 : decode cX8_pipe 23 = .ok (.iload_n 3, 1) := by decide +kernel
theorem dX8_pipe_24 : decode cX8_pipe 24 = .ok (.iconst 2, 1) := by decide +kernel
theorem dX8_pipe_25 : decode cX8_pipe 25 = .ok (.if_icmp .le 5, 3) := by decide +kernel
theorem dX8_pipe_28 : decode cX8_pipe 28 = .ok (.iconst (-1), 1) := by decide +kernel
theorem dX8_pipe_29 : decode cX8_pipe 29 = .ok (.ireturn, 1) := by decide +kernel
theorem dX8_pipe_30 : decode cX8_pipe 30 = .ok (.aload_n 0, 1) := by decide +kernel
theorem dX8_pipe_31 : decode cX8_pipe 31 = .ok (.getfield 20, 3) := by decide +kernel
theorem dX8_pipe_34 : decode cX8_pipe 34 = .ok (.getfield 65, 3) := by decide +kernel
theorem dX8_pipe_37 : decode cX8_pipe 37 = .ok (.bipush 12, 2) := by decide +kernel
theorem dX8_pipe_39 : decode cX8_pipe 39 = .ok (.if_icmp .lt 6, 3) := by decide +kernel
theorem dX8_pipe_42 : decode cX8_pipe 42 = .ok (.bipush (-2), 2) := by decide +kernel
theorem dX8_pipe_44 : decode cX8_pipe 44 = .ok (.ireturn, 1) := by decide +kernel
theorem dX8_pipe_45 : decode cX8_pipe 45 = .ok (.aload_n 0, 1) := by decide +kernel
theorem dX8_pipe_46 : decode cX8_pipe 46 = .ok (.getfield 20, 3) := by decide +kernel
theorem dX8_pipe_49 : decode cX8_pipe 49 = .ok (.iload_n 1, 1) := by decide +kernel
theorem dX8_pipe_50 : decode cX8_pipe 50 = .ok (.iload_n 2, 1) := by decide +kernel
theorem dX8_pipe_51 : decode cX8_pipe 51 = .ok (.iload_n 3, 1) := by decide +kernel
theorem dX8_pipe_52 : decode cX8_pipe 52 = .ok (.aload_n 0, 1) := by decide +kernel
theorem dX8_pipe_53 : decode cX8_pipe 53 = .ok (.getfield 57, 3) := by decide +kernel
theorem dX8_pipe_56 : decode cX8_pipe 56 = .ok (.invokevirtual 70, 3) := by decide +kernel
theorem dX8_pipe_59 : decode cX8_pipe 59 = .ok (.ireturn, 1) := by decide +kernel
theorem dX8_of_0 : decode cX8_of 0 = .ok (.aload_n 0, 1) := by decide +kernel
theorem dX8_of_1 : decode cX8_of 1 = .ok (.getfield 20, 3) := by decide +kernel
theorem dX8_of_4 : decode cX8_of 4 = .ok (.iload_n 1, 1) := by decide +kernel
theorem dX8_of_5 : decode cX8_of 5 = .ok (.invokevirtual 74, 3) := by decide +kernel
theorem dX8_of_8 : decode cX8_of 8 = .ok (.ifCond .ne 5, 3) := by decide +kernel
theorem dX8_of_11 : decode cX8_of 11 = .ok (.iconst (-1), 1) := by decide +kernel
theorem dX8_of_12 : decode cX8_of 12 = .ok (.ireturn, 1) := by decide +kernel
theorem dX8_of_13 : decode cX8_of 13 = .ok (.iload_n 2, 1) := by decide +kernel
theorem dX8_of_14 : decode cX8_of 14 = .ok (.tableswitch 99 0 5 #[38, 48, 58, 68, 78, 90], 38) := by decide +kernel
theorem dX8_of_52 : decode cX8_of 52 = .ok (.aload_n 0, 1) := by decide +kernel
theorem dX8_of_53 : decode cX8_of 53 = .ok (.getfield 20, 3) := by decide +kernel
theorem dX8_of_56 : decode cX8_of 56 = .ok (.getfield 77, 3) := by decide +kernel
theorem dX8_of_59 : decode cX8_of 59 = .ok (.iload_n 1, 1) := by decide +kernel
theorem dX8_of_60 : decode cX8_of 60 = .ok (.iaload, 1) := by decide +kernel
theorem dX8_of_61 : decode cX8_of 61 = .ok (.ireturn, 1) := by decide +kernel
theorem dX8_of_62 : decode cX8_of 62 = .ok (.aload_n 0, 1) := by decide +kernel
theorem dX8_of_63 : decode cX8_of 63 = .ok (.getfield 20, 3) := by decide +kernel
theorem dX8_of_66 : decode cX8_of 66 = .ok (.getfield 81, 3) := by decide +kernel
theorem dX8_of_69 : decode cX8_of 69 = .ok (.iload_n 1, 1) := by decide +kernel
theorem dX8_of_70 : decode cX8_of 70 = .ok (.iaload, 1) := by decide +kernel
theorem dX8_of_71 : decode cX8_of 71 = .ok (.ireturn, 1) := by decide +kernel
theorem dX8_of_72 : decode cX8_of 72 = .ok (.aload_n 0, 1) := by decide +kernel
theorem dX8_of_73 : decode cX8_of 73 = .ok (.getfield 20, 3) := by decide +kernel
theorem dX8_of_76 : decode cX8_of 76 = .ok (.getfield 84, 3) := by decide +kernel
theorem dX8_of_79 : decode cX8_of 79 = .ok (.iload_n 1, 1) := by decide +kernel
theorem dX8_of_80 : decode cX8_of 80 = .ok (.iaload, 1) := by decide +kernel
theorem dX8_of_81 : decode cX8_of 81 = .ok (.ireturn, 1) := by decide +kernel
theorem dX8_of_82 : decode cX8_of 82 = .ok (.aload_n 0, 1) := by decide +kernel
theorem dX8_of_83 : decode cX8_of 83 = .ok (.getfield 20, 3) := by decide +kernel
theorem dX8_of_86 : decode cX8_of 86 = .ok (.getfield 87, 3) := by decide +kernel
theorem dX8_of_89 : decode cX8_of 89 = .ok (.iload_n 1, 1) := by decide +kernel
theorem dX8_of_90 : decode cX8_of 90 = .ok (.iaload, 1) := by decide +kernel
theorem dX8_of_91 : decode cX8_of 91 = .ok (.ireturn, 1) := by decide +kernel
theorem dX8_of_92 : decode cX8_of 92 = .ok (.aload_n 0, 1) := by decide +kernel
theorem dX8_of_93 : decode cX8_of 93 = .ok (.getfield 10, 3) := by decide +kernel
theorem dX8_of_96 : decode cX8_of 96 = .ok (.invokevirtual 90, 3) := by decide +kernel
theorem dX8_of_99 : decode cX8_of 99 = .ok (.iload_n 1, 1) := by decide +kernel
theorem dX8_of_100 : decode cX8_of 100 = .ok (.ishr, 1) := by decide +kernel
theorem dX8_of_101 : decode cX8_of 101 = .ok (.iconst 1, 1) := by decide +kernel
theorem dX8_of_102 : decode cX8_of 102 = .ok (.iand, 1) := by decide +kernel
theorem dX8_of_103 : decode cX8_of 103 = .ok (.ireturn, 1) := by decide +kernel
theorem dX8_of_104 : decode cX8_of 104 = .ok (.aload_n 0, 1) := by decide +kernel
theorem dX8_of_105 : decode cX8_of 105 = .ok (.getfield 30, 3) := by decide +kernel
theorem dX8_of_108 : decode cX8_of 108 = .ok (.iload_n 1, 1) := by decide +kernel
theorem dX8_of_109 : decode cX8_of 109 = .ok (.invokevirtual 94, 3) := by decide +kernel
theorem dX8_of_112 : decode cX8_of 112 = .ok (.ireturn, 1) := by decide +kernel
theorem dX8_of_113 : decode cX8_of 113 = .ok (.iconst (-1), 1) := by decide +kernel
theorem dX8_of_114 : decode cX8_of 114 = .ok (.ireturn, 1) := by decide +kernel
theorem dX8_source_0 : decode cX8_source 0 = .ok (.iload_n 1, 1) := by decide +kernel
theorem dX8_source_1 : decode cX8_source 1 = .ok (.invokestatic 61, 3) := by decide +kernel
theorem dX8_source_4 : decode cX8_source 4 = .ok (.ifCond .eq 12, 3) := by decide +kernel
theorem dX8_source_7 : decode cX8_source 7 = .ok (.iload_n 2, 1) := by decide +kernel
theorem dX8_source_8 : decode cX8_source 8 = .ok (.ifCond .lt 8, 3) := by decide +kernel
theorem dX8_source_11 : decode cX8_source 11 = .ok (.iload_n 2, 1) := by decide +kernel
theorem dX8_source_12 : decode cX8_source 12 = .ok (.iconst 3, 1) := by decide +kernel
theorem dX8_source_13 : decode cX8_source 13 = .ok (.if_icmp .lt 5, 3) := by decide +kernel
theorem dX8_source_16 : decode cX8_source 16 = .ok (.iconst (-1), 1) := by decide +kernel
theorem dX8_source_17 : decode cX8_source 17 = .ok (.ireturn, 1) := by decide +kernel
theorem dX8_source_18 : decode cX8_source 18 = .ok (.aload_n 0, 1) := by decide +kernel
theorem dX8_source_19 : decode cX8_source 19 = .ok (.getfield 20, 3) := by decide +kernel
theorem dX8_source_22 : decode cX8_source 22 = .ok (.iload_n 1, 1) := by decide +kernel
theorem dX8_source_23 : decode cX8_source 23 = .ok (.iload_n 2, 1) := by decide +kernel
theorem dX8_source_24 : decode cX8_source 24 = .ok (.iload_n 3, 1) := by decide +kernel
theorem dX8_source_25 : decode cX8_source 25 = .ok (.invokevirtual 100, 3) := by decide +kernel
theorem dX8_source_28 : decode cX8_source 28 = .ok (.ifCond .eq 7, 3) := by decide +kernel
theorem dX8_source_31 : decode cX8_source 31 = .ok (.iconst 1, 1) := by decide +kernel
theorem dX8_source_32 : decode cX8_source 32 = .ok (.goto 4, 3) := by decide +kernel
theorem dX8_source_35 : decode cX8_source 35 = .ok (.iconst 0, 1) := by decide +kernel
theorem dX8_source_36 : decode cX8_source 36 = .ok (.ireturn, 1) := by decide +kernel
theorem dX8_turn_0 : decode cX8_turn 0 = .ok (.aload_n 0, 1) := by decide +kernel
theorem dX8_turn_1 : decode cX8_turn 1 = .ok (.getfield 20, 3) := by decide +kernel
theorem dX8_turn_4 : decode cX8_turn 4 = .ok (.iload_n 1, 1) := by decide +kernel
theorem dX8_turn_5 : decode cX8_turn 5 = .ok (.invokevirtual 104, 3) := by decide +kernel
theorem dX8_turn_8 : decode cX8_turn 8 = .ok (.ifCond .ne 5, 3) := by decide +kernel
theorem dX8_turn_11 : decode cX8_turn 11 = .ok (.iconst (-1), 1) := by decide +kernel
theorem dX8_turn_12 : decode cX8_turn 12 = .ok (.ireturn, 1) := by decide +kernel
theorem dX8_turn_13 : decode cX8_turn 13 = .ok (.iload_n 2, 1) := by decide +kernel
theorem dX8_turn_14 : decode cX8_turn 14 = .ok (.ifCond .ne 17, 3) := by decide +kernel
theorem dX8_turn_17 : decode cX8_turn 17 = .ok (.aload_n 0, 1) := by decide +kernel
theorem dX8_turn_18 : decode cX8_turn 18 = .ok (.getfield 30, 3) := by decide +kernel
theorem dX8_turn_21 : decode cX8_turn 21 = .ok (.iload_n 1, 1) := by decide +kernel
theorem dX8_turn_22 : decode cX8_turn 22 = .ok (.invokevirtual 94, 3) := by decide +kernel
theorem dX8_turn_25 : decode cX8_turn 25 = .ok (.ifCond .le 6, 3) := by decide +kernel
theorem dX8_turn_28 : decode cX8_turn 28 = .ok (.bipush (-5), 2) := by decide +kernel
theorem dX8_turn_30 : decode cX8_turn 30 = .ok (.ireturn, 1) := by decide +kernel
theorem dX8_turn_31 : decode cX8_turn 31 = .ok (.aload_n 0, 1) := by decide +kernel
theorem dX8_turn_32 : decode cX8_turn 32 = .ok (.getfield 20, 3) := by decide +kernel
theorem dX8_turn_35 : decode cX8_turn 35 = .ok (.iload_n 1, 1) := by decide +kernel
theorem dX8_turn_36 : decode cX8_turn 36 = .ok (.iload_n 2, 1) := by decide +kernel
theorem dX8_turn_37 : decode cX8_turn 37 = .ok (.invokevirtual 107, 3) := by decide +kernel
theorem dX8_turn_40 : decode cX8_turn 40 = .ok (.ifCond .eq 7, 3) := by decide +kernel
theorem dX8_turn_43 : decode cX8_turn 43 = .ok (.iconst 1, 1) := by decide +kernel
theorem dX8_turn_44 : decode cX8_turn 44 = .ok (.goto 4, 3) := by decide +kernel
theorem dX8_turn_47 : decode cX8_turn 47 = .ok (.iconst 0, 1) := by decide +kernel
theorem dX8_turn_48 : decode cX8_turn 48 = .ok (.ireturn, 1) := by decide +kernel
theorem dX8_safe_0 : decode cX8_safe 0 = .ok (.iload_n 1, 1) := by decide +kernel
theorem dX8_safe_1 : decode cX8_safe 1 = .ok (.invokestatic 61, 3) := by decide +kernel
theorem dX8_safe_4 : decode cX8_safe 4 = .ok (.ifCond .ne 5, 3) := by decide +kernel
theorem dX8_safe_7 : decode cX8_safe 7 = .ok (.iconst (-1), 1) := by decide +kernel
theorem dX8_safe_8 : decode cX8_safe 8 = .ok (.ireturn, 1) := by decide +kernel
theorem dX8_safe_9 : decode cX8_safe 9 = .ok (.aload_n 0, 1) := by decide +kernel
theorem dX8_safe_10 : decode cX8_safe 10 = .ok (.getfield 20, 3) := by decide +kernel
theorem dX8_safe_13 : decode cX8_safe 13 = .ok (.iload_n 1, 1) := by decide +kernel
theorem dX8_safe_14 : decode cX8_safe 14 = .ok (.aload_n 0, 1) := by decide +kernel
theorem dX8_safe_15 : decode cX8_safe 15 = .ok (.getfield 10, 3) := by decide +kernel
theorem dX8_safe_18 : decode cX8_safe 18 = .ok (.invokevirtual 90, 3) := by decide +kernel
theorem dX8_safe_21 : decode cX8_safe 21 = .ok (.aload_n 0, 1) := by decide +kernel
theorem dX8_safe_22 : decode cX8_safe 22 = .ok (.getfield 20, 3) := by decide +kernel
theorem dX8_safe_25 : decode cX8_safe 25 = .ok (.invokevirtual 111, 3) := by decide +kernel
theorem dX8_safe_28 : decode cX8_safe 28 = .ok (.aload_n 0, 1) := by decide +kernel
theorem dX8_safe_29 : decode cX8_safe 29 = .ok (.getfield 25, 3) := by decide +kernel
theorem dX8_safe_32 : decode cX8_safe 32 = .ok (.aload_n 0, 1) := by decide +kernel
theorem dX8_safe_33 : decode cX8_safe 33 = .ok (.getfield 57, 3) := by decide +kernel
theorem dX8_safe_36 : decode cX8_safe 36 = .ok (.invokevirtual 114, 3) := by decide +kernel
theorem dX8_safe_39 : decode cX8_safe 39 = .ok (.invokevirtual 119, 3) := by decide +kernel
theorem dX8_safe_42 : decode cX8_safe 42 = .ok (.ifCond .eq 7, 3) := by decide +kernel
theorem dX8_safe_45 : decode cX8_safe 45 = .ok (.iconst 1, 1) := by decide +kernel
theorem dX8_safe_46 : decode cX8_safe 46 = .ok (.goto 4, 3) := by decide +kernel
theorem dX8_safe_49 : decode cX8_safe 49 = .ok (.iconst 0, 1) := by decide +kernel
theorem dX8_safe_50 : decode cX8_safe 50 = .ok (.ireturn, 1) := by decide +kernel
theorem dX8_barriers_0 : decode cX8_barriers 0 = .ok (.iload_n 1, 1) := by decide +kernel
theorem dX8_barriers_1 : decode cX8_barriers 1 = .ok (.invokestatic 61, 3) := by decide +kernel
theorem dX8_barriers_4 : decode cX8_barriers 4 = .ok (.ifCond .eq 10, 3) := by decide +kernel
theorem dX8_barriers_7 : decode cX8_barriers 7 = .ok (.iload_n 2, 1) := by decide +kernel
theorem dX8_barriers_8 : decode cX8_barriers 8 = .ok (.invokestatic 61, 3) := by decide +kernel
theorem dX8_barriers_11 : decode cX8_barriers 11 = .ok (.ifCond .ne 5, 3) := by decide +kernel
theorem dX8_barriers_14 : decode cX8_barriers 14 = .ok (.iconst (-1), 1) := by decide +kernel
theorem dX8_barriers_15 : decode cX8_barriers 15 = .ok (.ireturn, 1) := by decide +kernel
theorem dX8_barriers_16 : decode cX8_barriers 16 = .ok (.aload_n 0, 1) := by decide +kernel
theorem dX8_barriers_17 : decode cX8_barriers 17 = .ok (.getfield 20, 3) := by decide +kernel
theorem dX8_barriers_20 : decode cX8_barriers 20 = .ok (.iload_n 1, 1) := by decide +kernel
theorem dX8_barriers_21 : decode cX8_barriers 21 = .ok (.iload_n 2, 1) := by decide +kernel
theorem dX8_barriers_22 : decode cX8_barriers 22 = .ok (.aload_n 0, 1) := by decide +kernel
theorem dX8_barriers_23 : decode cX8_barriers 23 = .ok (.getfield 10, 3) := by decide +kernel
theorem dX8_barriers_26 : decode cX8_barriers 26 = .ok (.invokevirtual 90, 3) := by decide +kernel
theorem dX8_barriers_29 : decode cX8_barriers 29 = .ok (.invokevirtual 123, 3) := by decide +kernel
theorem dX8_barriers_32 : decode cX8_barriers 32 = .ok (.ireturn, 1) := by decide +kernel
theorem dX8_apart_0 : decode cX8_apart 0 = .ok (.iload_n 1, 1) := by decide +kernel
theorem dX8_apart_1 : decode cX8_apart 1 = .ok (.invokestatic 61, 3) := by decide +kernel
theorem dX8_apart_4 : decode cX8_apart 4 = .ok (.ifCond .eq 10, 3) := by decide +kernel
theorem dX8_apart_7 : decode cX8_apart 7 = .ok (.iload_n 2, 1) := by decide +kernel
theorem dX8_apart_8 : decode cX8_apart 8 = .ok (.invokestatic 61, 3) := by decide +kernel
theorem dX8_apart_11 : decode cX8_apart 11 = .ok (.ifCond .ne 5, 3) := by decide +kernel
theorem dX8_apart_14 : decode cX8_apart 14 = .ok (.iconst (-1), 1) := by decide +kernel
theorem dX8_apart_15 : decode cX8_apart 15 = .ok (.ireturn, 1) := by decide +kernel
theorem dX8_apart_16 : decode cX8_apart 16 = .ok (.aload_n 0, 1) := by decide +kernel
theorem dX8_apart_17 : decode cX8_apart 17 = .ok (.getfield 20, 3) := by decide +kernel
theorem dX8_apart_20 : decode cX8_apart 20 = .ok (.iload_n 1, 1) := by decide +kernel
theorem dX8_apart_21 : decode cX8_apart 21 = .ok (.iload_n 2, 1) := by decide +kernel
theorem dX8_apart_22 : decode cX8_apart 22 = .ok (.invokevirtual 127, 3) := by decide +kernel
theorem dX8_apart_25 : decode cX8_apart 25 = .ok (.ireturn, 1) := by decide +kernel
theorem dX8_go_0 : decode cX8_go 0 = .ok (.iload_n 1, 1) := by decide +kernel
theorem dX8_go_1 : decode cX8_go 1 = .ok (.iconst 1, 1) := by decide +kernel
theorem dX8_go_2 : decode cX8_go 2 = .ok (.if_icmp .lt 21, 3) := by decide +kernel
theorem dX8_go_5 : decode cX8_go 5 = .ok (.iload_n 1, 1) := by decide +kernel
theorem dX8_go_6 : decode cX8_go 6 = .ok (.bipush 48, 2) := by decide +kernel
theorem dX8_go_8 : decode cX8_go 8 = .ok (.if_icmp .gt 15, 3) := by decide +kernel
theorem dX8_go_11 : decode cX8_go 11 = .ok (.aload_n 0, 1) := by decide +kernel
theorem dX8_go_12 : decode cX8_go 12 = .ok (.getfield 57, 3) := by decide +kernel
theorem dX8_go_15 : decode cX8_go 15 = .ok (.iload_n 1, 1) := by decide +kernel
theorem dX8_go_16 : decode cX8_go 16 = .ok (.iadd, 1) := by decide +kernel
theorem dX8_go_17 : decode cX8_go 17 = .ok (.sipush 300, 3) := by decide +kernel
theorem dX8_go_20 : decode cX8_go 20 = .ok (.if_icmp .le 5, 3) := by decide +kernel
theorem dX8_go_23 : decode cX8_go 23 = .ok (.iconst (-1), 1) := by decide +kernel
theorem dX8_go_24 : decode cX8_go 24 = .ok (.ireturn, 1) := by decide +kernel
theorem dX8_go_25 : decode cX8_go 25 = .ok (.aload_n 0, 1) := by decide +kernel
theorem dX8_go_26 : decode cX8_go 26 = .ok (.getfield 46, 3) := by decide +kernel
theorem dX8_go_29 : decode cX8_go 29 = .ok (.aload_n 0, 1) := by decide +kernel
theorem dX8_go_30 : decode cX8_go 30 = .ok (.getfield 57, 3) := by decide +kernel
theorem dX8_go_33 : decode cX8_go 33 = .ok (.aload_n 0, 1) := by decide +kernel
theorem dX8_go_34 : decode cX8_go 34 = .ok (.getfield 57, 3) := by decide +kernel
theorem dX8_go_37 : decode cX8_go 37 = .ok (.iload_n 1, 1) := by decide +kernel
theorem dX8_go_38 : decode cX8_go 38 = .ok (.iadd, 1) := by decide +kernel
theorem dX8_go_39 : decode cX8_go 39 = .ok (.aload_n 0, 1) := by decide +kernel
theorem dX8_go_40 : decode cX8_go 40 = .ok (.getfield 10, 3) := by decide +kernel
theorem dX8_go_43 : decode cX8_go 43 = .ok (.invokevirtual 90, 3) := by decide +kernel
theorem dX8_go_46 : decode cX8_go 46 = .ok (.aload_n 0, 1) := by decide +kernel
theorem dX8_go_47 : decode cX8_go 47 = .ok (.getfield 30, 3) := by decide +kernel
theorem dX8_go_50 : decode cX8_go 50 = .ok (.iconst 3, 1) := by decide +kernel
theorem dX8_go_51 : decode cX8_go 51 = .ok (.invokevirtual 131, 3) := by decide +kernel
theorem dX8_go_54 : decode cX8_go 54 = .ok (.invokevirtual 134, 3) := by decide +kernel
theorem dX8_go_57 : decode cX8_go 57 = .ok (.aload_n 0, 1) := by decide +kernel
theorem dX8_go_58 : decode cX8_go 58 = .ok (.dup, 1) := by decide +kernel
theorem dX8_go_59 : decode cX8_go 59 = .ok (.getfield 57, 3) := by decide +kernel
theorem dX8_go_62 : decode cX8_go 62 = .ok (.iload_n 1, 1) := by decide +kernel
theorem dX8_go_63 : decode cX8_go 63 = .ok (.iadd, 1) := by decide +kernel
theorem dX8_go_64 : decode cX8_go 64 = .ok (.putfield 57, 3) := by decide +kernel
theorem dX8_go_67 : decode cX8_go 67 = .ok (.aload_n 0, 1) := by decide +kernel
theorem dX8_go_68 : decode cX8_go 68 = .ok (.getfield 57, 3) := by decide +kernel
theorem dX8_go_71 : decode cX8_go 71 = .ok (.ireturn, 1) := by decide +kernel
theorem dX8_feed_0 : decode cX8_feed 0 = .ok (.iload_n 3, 1) := by decide +kernel
theorem dX8_feed_1 : decode cX8_feed 1 = .ok (.iconst 1, 1) := by decide +kernel
theorem dX8_feed_2 : decode cX8_feed 2 = .ok (.if_icmp .lt 9, 3) := by decide +kernel
theorem dX8_feed_5 : decode cX8_feed 5 = .ok (.iload_n 3, 1) := by decide +kernel
theorem dX8_feed_6 : decode cX8_feed 6 = .ok (.bipush 8, 2) := by decide +kernel
theorem dX8_feed_8 : decode cX8_feed 8 = .ok (.if_icmp .le 5, 3) := by decide +kernel
theorem dX8_feed_11 : decode cX8_feed 11 = .ok (.iconst (-1), 1) := by decide +kernel
theorem dX8_feed_12 : decode cX8_feed 12 = .ok (.ireturn, 1) := by decide +kernel
theorem dX8_feed_13 : decode cX8_feed 13 = .ok (.aload_n 0, 1) := by decide +kernel
theorem dX8_feed_14 : decode cX8_feed 14 = .ok (.getfield 39, 3) := by decide +kernel
theorem dX8_feed_17 : decode cX8_feed 17 = .ok (.getfield 138, 3) := by decide +kernel
theorem dX8_feed_20 : decode cX8_feed 20 = .ok (.iload_n 3, 1) := by decide +kernel
theorem dX8_feed_21 : decode cX8_feed 21 = .ok (.iadd, 1) := by decide +kernel
theorem dX8_feed_22 : decode cX8_feed 22 = .ok (.bipush 60, 2) := by decide +kernel
theorem dX8_feed_24 : decode cX8_feed 24 = .ok (.if_icmp .le 6, 3) := by decide +kernel
theorem dX8_feed_27 : decode cX8_feed 27 = .ok (.bipush (-2), 2) := by decide +kernel
theorem dX8_feed_29 : decode cX8_feed 29 = .ok (.ireturn, 1) := by decide +kernel
theorem dX8_feed_30 : decode cX8_feed 30 = .ok (.aload_n 0, 1) := by decide +kernel
theorem dX8_feed_31 : decode cX8_feed 31 = .ok (.getfield 39, 3) := by decide +kernel
theorem dX8_feed_34 : decode cX8_feed 34 = .ok (.lload_n 1, 1) := by decide +kernel
theorem dX8_feed_35 : decode cX8_feed 35 = .ok (.iload_n 3, 1) := by decide +kernel
theorem dX8_feed_36 : decode cX8_feed 36 = .ok (.invokevirtual 141, 3) := by decide +kernel
theorem dX8_feed_39 : decode cX8_feed 39 = .ok (.aload_n 0, 1) := by decide +kernel
theorem dX8_feed_40 : decode cX8_feed 40 = .ok (.getfield 39, 3) := by decide +kernel
theorem dX8_feed_43 : decode cX8_feed 43 = .ok (.getfield 138, 3) := by decide +kernel
theorem dX8_feed_46 : decode cX8_feed 46 = .ok (.ireturn, 1) := by decide +kernel
theorem dX8_rule_0 : decode cX8_rule 0 = .ok (.aload_n 0, 1) := by decide +kernel
theorem dX8_rule_1 : decode cX8_rule 1 = .ok (.getfield 39, 3) := by decide +kernel
theorem dX8_rule_4 : decode cX8_rule 4 = .ok (.invokevirtual 145, 3) := by decide +kernel
theorem dX8_rule_7 : decode cX8_rule 7 = .ok (.istore_n 1, 1) := by decide +kernel
theorem dX8_rule_8 : decode cX8_rule 8 = .ok (.aload_n 0, 1) := by decide +kernel
theorem dX8_rule_9 : decode cX8_rule 9 = .ok (.getfield 39, 3) := by decide +kernel
theorem dX8_rule_12 : decode cX8_rule 12 = .ok (.invokevirtual 148, 3) := by decide +kernel
theorem dX8_rule_15 : decode cX8_rule 15 = .ok (.iload_n 1, 1) := by decide +kernel
theorem dX8_rule_16 : decode cX8_rule 16 = .ok (.bipush (-3), 2) := by decide +kernel
theorem dX8_rule_18 : decode cX8_rule 18 = .ok (.if_icmp .eq 8, 3) := by decide +kernel
theorem dX8_rule_21 : decode cX8_rule 21 = .ok (.bipush (-100), 2) := by decide +kernel
theorem dX8_rule_23 : decode cX8_rule 23 = .ok (.iload_n 1, 1) := by decide +kernel
theorem dX8_rule_24 : decode cX8_rule 24 = .ok (.isub, 1) := by decide +kernel
theorem dX8_rule_25 : decode cX8_rule 25 = .ok (.ireturn, 1) := by decide +kernel
theorem dX8_rule_26 : decode cX8_rule 26 = .ok (.aload_n 0, 1) := by decide +kernel
theorem dX8_rule_27 : decode cX8_rule 27 = .ok (.getfield 25, 3) := by decide +kernel
theorem dX8_rule_30 : decode cX8_rule 30 = .ok (.getfield 151, 3) := by decide +kernel
theorem dX8_rule_33 : decode cX8_rule 33 = .ok (.bipush 12, 2) := by decide +kernel
theorem dX8_rule_35 : decode cX8_rule 35 = .ok (.if_icmp .lt 6, 3) := by decide +kernel
theorem dX8_rule_38 : decode cX8_rule 38 = .ok (.bipush (-2), 2) := by decide +kernel
theorem dX8_rule_40 : decode cX8_rule 40 = .ok (.ireturn, 1) := by decide +kernel
theorem dX8_rule_41 : decode cX8_rule 41 = .ok (.aload_n 0, 1) := by decide +kernel
theorem dX8_rule_42 : decode cX8_rule 42 = .ok (.getfield 25, 3) := by decide +kernel
theorem dX8_rule_45 : decode cX8_rule 45 = .ok (.aload_n 0, 1) := by decide +kernel
theorem dX8_rule_46 : decode cX8_rule 46 = .ok (.getfield 39, 3) := by decide +kernel
theorem dX8_rule_49 : decode cX8_rule 49 = .ok (.aload_n 0, 1) := by decide +kernel
theorem dX8_rule_50 : decode cX8_rule 50 = .ok (.getfield 57, 3) := by decide +kernel
theorem dX8_rule_53 : decode cX8_rule 53 = .ok (.invokevirtual 152, 3) := by decide +kernel
theorem dX8_rule_56 : decode cX8_rule 56 = .ok (.ireturn, 1) := by decide +kernel
theorem dX8_strike_0 : decode cX8_strike 0 = .ok (.aload_n 0, 1) := by decide +kernel
theorem dX8_strike_1 : decode cX8_strike 1 = .ok (.getfield 25, 3) := by decide +kernel
theorem dX8_strike_4 : decode cX8_strike 4 = .ok (.iload_n 1, 1) := by decide +kernel
theorem dX8_strike_5 : decode cX8_strike 5 = .ok (.invokevirtual 156, 3) := by decide +kernel
theorem dX8_strike_8 : decode cX8_strike 8 = .ok (.ifCond .ne 5, 3) := by decide +kernel
theorem dX8_strike_11 : decode cX8_strike 11 = .ok (.iconst (-1), 1) := by decide +kernel
theorem dX8_strike_12 : decode cX8_strike 12 = .ok (.ireturn, 1) := by decide +kernel
theorem dX8_strike_13 : decode cX8_strike 13 = .ok (.aload_n 0, 1) := by decide +kernel
theorem dX8_strike_14 : decode cX8_strike 14 = .ok (.getfield 25, 3) := by decide +kernel
theorem dX8_strike_17 : decode cX8_strike 17 = .ok (.getfield 157, 3) := by decide +kernel
theorem dX8_strike_20 : decode cX8_strike 20 = .ok (.iload_n 1, 1) := by decide +kernel
theorem dX8_strike_21 : decode cX8_strike 21 = .ok (.iaload, 1) := by decide +kernel
theorem dX8_strike_22 : decode cX8_strike 22 = .ok (.bipush (-3), 2) := by decide +kernel
theorem dX8_strike_24 : decode cX8_strike 24 = .ok (.if_icmp .eq 6, 3) := by decide +kernel
theorem dX8_strike_27 : decode cX8_strike 27 = .ok (.bipush (-4), 2) := by decide +kernel
theorem dX8_strike_29 : decode cX8_strike 29 = .ok (.ireturn, 1) := by decide +kernel
theorem dX8_strike_30 : decode cX8_strike 30 = .ok (.aload_n 0, 1) := by decide +kernel
theorem dX8_strike_31 : decode cX8_strike 31 = .ok (.getfield 25, 3) := by decide +kernel
theorem dX8_strike_34 : decode cX8_strike 34 = .ok (.getfield 157, 3) := by decide +kernel
theorem dX8_strike_37 : decode cX8_strike 37 = .ok (.iload_n 1, 1) := by decide +kernel
theorem dX8_strike_38 : decode cX8_strike 38 = .ok (.aload_n 0, 1) := by decide +kernel
theorem dX8_strike_39 : decode cX8_strike 39 = .ok (.getfield 57, 3) := by decide +kernel
theorem dX8_strike_42 : decode cX8_strike 42 = .ok (.iastore, 1) := by decide +kernel
theorem dX8_strike_43 : decode cX8_strike 43 = .ok (.iconst 1, 1) := by decide +kernel
theorem dX8_strike_44 : decode cX8_strike 44 = .ok (.ireturn, 1) := by decide +kernel
theorem dX8_ruleOf_0 : decode cX8_ruleOf 0 = .ok (.aload_n 0, 1) := by decide +kernel
theorem dX8_ruleOf_1 : decode cX8_ruleOf 1 = .ok (.getfield 25, 3) := by decide +kernel
theorem dX8_ruleOf_4 : decode cX8_ruleOf 4 = .ok (.iload_n 1, 1) := by decide +kernel
theorem dX8_ruleOf_5 : decode cX8_ruleOf 5 = .ok (.invokevirtual 156, 3) := by decide +kernel
theorem dX8_ruleOf_8 : decode cX8_ruleOf 8 = .ok (.ifCond .ne 5, 3) := by decide +kernel
theorem dX8_ruleOf_11 : decode cX8_ruleOf 11 = .ok (.iconst (-1), 1) := by decide +kernel
theorem dX8_ruleOf_12 : decode cX8_ruleOf 12 = .ok (.ireturn, 1) := by decide +kernel
theorem dX8_ruleOf_13 : decode cX8_ruleOf 13 = .ok (.iload_n 2, 1) := by decide +kernel
theorem dX8_ruleOf_14 : decode cX8_ruleOf 14 = .ok (.tableswitch 95 0 4 #[34, 44, 54, 64, 74], 34) := by decide +kernel
theorem dX8_ruleOf_48 : decode cX8_ruleOf 48 = .ok (.aload_n 0, 1) := by decide +kernel
theorem dX8_ruleOf_49 : decode cX8_ruleOf 49 = .ok (.getfield 25, 3) := by decide +kernel
theorem dX8_ruleOf_52 : decode cX8_ruleOf 52 = .ok (.getfield 160, 3) := by decide +kernel
theorem dX8_ruleOf_55 : decode cX8_ruleOf 55 = .ok (.iload_n 1, 1) := by decide +kernel
theorem dX8_ruleOf_56 : decode cX8_ruleOf 56 = .ok (.iaload, 1) := by decide +kernel
theorem dX8_ruleOf_57 : decode cX8_ruleOf 57 = .ok (.ireturn, 1) := by decide +kernel
theorem dX8_ruleOf_58 : decode cX8_ruleOf 58 = .ok (.aload_n 0, 1) := by decide +kernel
theorem dX8_ruleOf_59 : decode cX8_ruleOf 59 = .ok (.getfield 25, 3) := by decide +kernel
theorem dX8_ruleOf_62 : decode cX8_ruleOf 62 = .ok (.getfield 163, 3) := by decide +kernel
theorem dX8_ruleOf_65 : decode cX8_ruleOf 65 = .ok (.iload_n 1, 1) := by decide +kernel
theorem dX8_ruleOf_66 : decode cX8_ruleOf 66 = .ok (.iaload, 1) := by decide +kernel
theorem dX8_ruleOf_67 : decode cX8_ruleOf 67 = .ok (.ireturn, 1) := by decide +kernel
theorem dX8_ruleOf_68 : decode cX8_ruleOf 68 = .ok (.aload_n 0, 1) := by decide +kernel
theorem dX8_ruleOf_69 : decode cX8_ruleOf 69 = .ok (.getfield 25, 3) := by decide +kernel
theorem dX8_ruleOf_72 : decode cX8_ruleOf 72 = .ok (.getfield 166, 3) := by decide +kernel
theorem dX8_ruleOf_75 : decode cX8_ruleOf 75 = .ok (.iload_n 1, 1) := by decide +kernel
theorem dX8_ruleOf_76 : decode cX8_ruleOf 76 = .ok (.iaload, 1) := by decide +kernel
theorem dX8_ruleOf_77 : decode cX8_ruleOf 77 = .ok (.ireturn, 1) := by decide +kernel
theorem dX8_ruleOf_78 : decode cX8_ruleOf 78 = .ok (.aload_n 0, 1) := by decide +kernel
theorem dX8_ruleOf_79 : decode cX8_ruleOf 79 = .ok (.getfield 25, 3) := by decide +kernel
theorem dX8_ruleOf_82 : decode cX8_ruleOf 82 = .ok (.getfield 169, 3) := by decide +kernel
theorem dX8_ruleOf_85 : decode cX8_ruleOf 85 = .ok (.iload_n 1, 1) := by decide +kernel
theorem dX8_ruleOf_86 : decode cX8_ruleOf 86 = .ok (.iaload, 1) := by decide +kernel
theorem dX8_ruleOf_87 : decode cX8_ruleOf 87 = .ok (.ireturn, 1) := by decide +kernel
theorem dX8_ruleOf_88 : decode cX8_ruleOf 88 = .ok (.aload_n 0, 1) := by decide +kernel
theorem dX8_ruleOf_89 : decode cX8_ruleOf 89 = .ok (.getfield 25, 3) := by decide +kernel
theorem dX8_ruleOf_92 : decode cX8_ruleOf 92 = .ok (.iload_n 1, 1) := by decide +kernel
theorem dX8_ruleOf_93 : decode cX8_ruleOf 93 = .ok (.aload_n 0, 1) := by decide +kernel
theorem dX8_ruleOf_94 : decode cX8_ruleOf 94 = .ok (.getfield 57, 3) := by decide +kernel
theorem dX8_ruleOf_97 : decode cX8_ruleOf 97 = .ok (.invokevirtual 172, 3) := by decide +kernel
theorem dX8_ruleOf_100 : decode cX8_ruleOf 100 = .ok (.ifCond .eq 7, 3) := by decide +kernel
theorem dX8_ruleOf_103 : decode cX8_ruleOf 103 = .ok (.iconst 1, 1) := by decide +kernel
theorem dX8_ruleOf_104 : decode cX8_ruleOf 104 = .ok (.goto 4, 3) := by decide +kernel
theorem dX8_ruleOf_107 : decode cX8_ruleOf 107 = .ok (.iconst 0, 1) := by decide +kernel
theorem dX8_ruleOf_108 : decode cX8_ruleOf 108 = .ok (.ireturn, 1) := by decide +kernel
theorem dX8_ruleOf_109 : decode cX8_ruleOf 109 = .ok (.iconst (-1), 1) := by decide +kernel
theorem dX8_ruleOf_110 : decode cX8_ruleOf 110 = .ok (.ireturn, 1) := by decide +kernel
theorem dX8_ask_0 : decode cX8_ask 0 = .ok (.iload_n 1, 1) := by decide +kernel
theorem dX8_ask_1 : decode cX8_ask 1 = .ok (.invokestatic 61, 3) := by decide +kernel
theorem dX8_ask_4 : decode cX8_ask 4 = .ok (.ifCond .eq 26, 3) := by decide +kernel
theorem dX8_ask_7 : decode cX8_ask 7 = .ok (.iload_n 2, 1) := by decide +kernel
theorem dX8_ask_8 : decode cX8_ask 8 = .ok (.ifCond .lt 22, 3) := by decide +kernel
theorem dX8_ask_11 : decode cX8_ask 11 = .ok (.iload_n 2, 1) := by decide +kernel
theorem dX8_ask_12 : decode cX8_ask 12 = .ok (.iconst 3, 1) := by decide +kernel
theorem dX8_ask_13 : decode cX8_ask 13 = .ok (.if_icmp .ge 17, 3) := by decide +kernel
theorem dX8_ask_16 : decode cX8_ask 16 = .ok (.iload_n 3, 1) := by decide +kernel
theorem dX8_ask_17 : decode cX8_ask 17 = .ok (.aload_n 0, 1) := by decide +kernel
theorem dX8_ask_18 : decode cX8_ask 18 = .ok (.getfield 20, 3) := by decide +kernel
theorem dX8_ask_21 : decode cX8_ask 21 = .ok (.invokevirtual 176, 3) := by decide +kernel
theorem dX8_ask_24 : decode cX8_ask 24 = .ok (.iconst (-1), 1) := by decide +kernel
theorem dX8_ask_25 : decode cX8_ask 25 = .ok (.ixor, 1) := by decide +kernel
theorem dX8_ask_26 : decode cX8_ask 26 = .ok (.iand, 1) := by decide +kernel
theorem dX8_ask_27 : decode cX8_ask 27 = .ok (.ifCond .eq 5, 3) := by decide +kernel
theorem dX8_ask_30 : decode cX8_ask 30 = .ok (.iconst (-1), 1) := by decide +kernel
theorem dX8_ask_31 : decode cX8_ask 31 = .ok (.ireturn, 1) := by decide +kernel
theorem dX8_ask_32 : decode cX8_ask 32 = .ok (.aload_n 0, 1) := by decide +kernel
theorem dX8_ask_33 : decode cX8_ask 33 = .ok (.getfield 30, 3) := by decide +kernel
theorem dX8_ask_36 : decode cX8_ask 36 = .ok (.getfield 179, 3) := by decide +kernel
theorem dX8_ask_39 : decode cX8_ask 39 = .ok (.bipush 7, 2) := by decide +kernel
theorem dX8_ask_41 : decode cX8_ask 41 = .ok (.if_icmp .lt 6, 3) := by decide +kernel
theorem dX8_ask_44 : decode cX8_ask 44 = .ok (.bipush (-2), 2) := by decide +kernel
theorem dX8_ask_46 : decode cX8_ask 46 = .ok (.ireturn, 1) := by decide +kernel
theorem dX8_ask_47 : decode cX8_ask 47 = .ok (.aload_n 0, 1) := by decide +kernel
theorem dX8_ask_48 : decode cX8_ask 48 = .ok (.getfield 30, 3) := by decide +kernel
theorem dX8_ask_51 : decode cX8_ask 51 = .ok (.iload_n 1, 1) := by decide +kernel
theorem dX8_ask_52 : decode cX8_ask 52 = .ok (.iload_n 2, 1) := by decide +kernel
theorem dX8_ask_53 : decode cX8_ask 53 = .ok (.iload_n 3, 1) := by decide +kernel
theorem dX8_ask_54 : decode cX8_ask 54 = .ok (.invokevirtual 180, 3) := by decide +kernel
theorem dX8_ask_57 : decode cX8_ask 57 = .ok (.ireturn, 1) := by decide +kernel
theorem dX8_hold_0 : decode cX8_hold 0 = .ok (.aload_n 0, 1) := by decide +kernel
theorem dX8_hold_1 : decode cX8_hold 1 = .ok (.getfield 30, 3) := by decide +kernel
theorem dX8_hold_4 : decode cX8_hold 4 = .ok (.iload_n 1, 1) := by decide +kernel
theorem dX8_hold_5 : decode cX8_hold 5 = .ok (.invokevirtual 182, 3) := by decide +kernel
theorem dX8_hold_8 : decode cX8_hold 8 = .ok (.ifCond .eq 15, 3) := by decide +kernel
theorem dX8_hold_11 : decode cX8_hold 11 = .ok (.iload_n 2, 1) := by decide +kernel
theorem dX8_hold_12 : decode cX8_hold 12 = .ok (.iconst (-1), 1) := by decide +kernel
theorem dX8_hold_13 : decode cX8_hold 13 = .ok (.if_icmp .eq 13, 3) := by decide +kernel
theorem dX8_hold_16 : decode cX8_hold 16 = .ok (.iload_n 2, 1) := by decide +kernel
theorem dX8_hold_17 : decode cX8_hold 17 = .ok (.invokestatic 183, 3) := by decide +kernel
theorem dX8_hold_20 : decode cX8_hold 20 = .ok (.ifCond .ne 6, 3) := by decide +kernel
theorem dX8_hold_23 : decode cX8_hold 23 = .ok (.bipush (-9), 2) := by decide +kernel
theorem dX8_hold_25 : decode cX8_hold 25 = .ok (.ireturn, 1) := by decide +kernel
theorem dX8_hold_26 : decode cX8_hold 26 = .ok (.aload_n 0, 1) := by decide +kernel
theorem dX8_hold_27 : decode cX8_hold 27 = .ok (.getfield 30, 3) := by decide +kernel
theorem dX8_hold_30 : decode cX8_hold 30 = .ok (.getfield 186, 3) := by decide +kernel
theorem dX8_hold_33 : decode cX8_hold 33 = .ok (.iload_n 1, 1) := by decide +kernel
theorem dX8_hold_34 : decode cX8_hold 34 = .ok (.iaload, 1) := by decide +kernel
theorem dX8_hold_35 : decode cX8_hold 35 = .ok (.istore_n 3, 1) := by decide +kernel
theorem dX8_hold_36 : decode cX8_hold 36 = .ok (.iload_n 3, 1) := by decide +kernel
theorem dX8_hold_37 : decode cX8_hold 37 = .ok (.iconst 5, 1) := by decide +kernel
theorem dX8_hold_38 : decode cX8_hold 38 = .ok (.if_icmp .eq 19, 3) := by decide +kernel
theorem dX8_hold_41 : decode cX8_hold 41 = .ok (.iload_n 3, 1) := by decide +kernel
theorem dX8_hold_42 : decode cX8_hold 42 = .ok (.iconst 3, 1) := by decide +kernel
theorem dX8_hold_43 : decode cX8_hold 43 = .ok (.if_icmp .ne 17, 3) := by decide +kernel
theorem dX8_hold_46 : decode cX8_hold 46 = .ok (.aload_n 0, 1) := by decide +kernel
theorem dX8_hold_47 : decode cX8_hold 47 = .ok (.getfield 35, 3) := by decide +kernel
theorem dX8_hold_50 : decode cX8_hold 50 = .ok (.iload_n 2, 1) := by decide +kernel
theorem dX8_hold_51 : decode cX8_hold 51 = .ok (.invokevirtual 189, 3) := by decide +kernel
theorem dX8_hold_54 : decode cX8_hold 54 = .ok (.ifCond .ne 6, 3) := by decide +kernel
theorem dX8_hold_57 : decode cX8_hold 57 = .ok (.bipush (-4), 2) := by decide +kernel
theorem dX8_hold_59 : decode cX8_hold 59 = .ok (.ireturn, 1) := by decide +kernel
theorem dX8_hold_60 : decode cX8_hold 60 = .ok (.aload_n 0, 1) := by decide +kernel
theorem dX8_hold_61 : decode cX8_hold 61 = .ok (.getfield 30, 3) := by decide +kernel
theorem dX8_hold_64 : decode cX8_hold 64 = .ok (.getfield 194, 3) := by decide +kernel
theorem dX8_hold_67 : decode cX8_hold 67 = .ok (.iload_n 1, 1) := by decide +kernel
theorem dX8_hold_68 : decode cX8_hold 68 = .ok (.iaload, 1) := by decide +kernel
theorem dX8_hold_69 : decode cX8_hold 69 = .ok (.istore 4, 2) := by decide +kernel
theorem dX8_hold_71 : decode cX8_hold 71 = .ok (.aload_n 0, 1) := by decide +kernel
theorem dX8_hold_72 : decode cX8_hold 72 = .ok (.getfield 30, 3) := by decide +kernel
theorem dX8_hold_75 : decode cX8_hold 75 = .ok (.getfield 194, 3) := by decide +kernel
theorem dX8_hold_78 : decode cX8_hold 78 = .ok (.iload_n 1, 1) := by decide +kernel
theorem dX8_hold_79 : decode cX8_hold 79 = .ok (.iload_n 2, 1) := by decide +kernel
theorem dX8_hold_80 : decode cX8_hold 80 = .ok (.iastore, 1) := by decide +kernel
theorem dX8_hold_81 : decode cX8_hold 81 = .ok (.iload 4, 2) := by decide +kernel
theorem dX8_hold_83 : decode cX8_hold 83 = .ok (.ireturn, 1) := by decide +kernel
theorem dX8_isolate_0 : decode cX8_isolate 0 = .ok (.aload_n 0, 1) := by decide +kernel
theorem dX8_isolate_1 : decode cX8_isolate 1 = .ok (.iload_n 1, 1) := by decide +kernel
theorem dX8_isolate_2 : decode cX8_isolate 2 = .ok (.iconst 0, 1) := by decide +kernel
theorem dX8_isolate_3 : decode cX8_isolate 3 = .ok (.invokevirtual 197, 3) := by decide +kernel
theorem dX8_isolate_6 : decode cX8_isolate 6 = .ok (.istore_n 2, 1) := by decide +kernel
theorem dX8_isolate_7 : decode cX8_isolate 7 = .ok (.iload_n 2, 1) := by decide +kernel
theorem dX8_isolate_8 : decode cX8_isolate 8 = .ok (.ifCond .ge 5, 3) := by decide +kernel
theorem dX8_isolate_11 : decode cX8_isolate 11 = .ok (.iload_n 2, 1) := by decide +kernel
theorem dX8_isolate_12 : decode cX8_isolate 12 = .ok (.ireturn, 1) := by decide +kernel
theorem dX8_isolate_13 : decode cX8_isolate 13 = .ok (.aload_n 0, 1) := by decide +kernel
theorem dX8_isolate_14 : decode cX8_isolate 14 = .ok (.getfield 10, 3) := by decide +kernel
theorem dX8_isolate_17 : decode cX8_isolate 17 = .ok (.invokevirtual 90, 3) := by decide +kernel
theorem dX8_isolate_20 : decode cX8_isolate 20 = .ok (.istore_n 3, 1) := by decide +kernel
theorem dX8_isolate_21 : decode cX8_isolate 21 = .ok (.aload_n 0, 1) := by decide +kernel
theorem dX8_isolate_22 : decode cX8_isolate 22 = .ok (.getfield 30, 3) := by decide +kernel
theorem dX8_isolate_25 : decode cX8_isolate 25 = .ok (.getfield 186, 3) := by decide +kernel
theorem dX8_isolate_28 : decode cX8_isolate 28 = .ok (.iload_n 1, 1) := by decide +kernel
theorem dX8_isolate_29 : decode cX8_isolate 29 = .ok (.iconst 1, 1) := by decide +kernel
theorem dX8_isolate_30 : decode cX8_isolate 30 = .ok (.iastore, 1) := by decide +kernel
theorem dX8_isolate_31 : decode cX8_isolate 31 = .ok (.aload_n 0, 1) := by decide +kernel
theorem dX8_isolate_32 : decode cX8_isolate 32 = .ok (.getfield 10, 3) := by decide +kernel
theorem dX8_isolate_35 : decode cX8_isolate 35 = .ok (.invokevirtual 90, 3) := by decide +kernel
theorem dX8_isolate_38 : decode cX8_isolate 38 = .ok (.iload_n 3, 1) := by decide +kernel
theorem dX8_isolate_39 : decode cX8_isolate 39 = .ok (.iconst (-1), 1) := by decide +kernel
theorem dX8_isolate_40 : decode cX8_isolate 40 = .ok (.ixor, 1) := by decide +kernel
theorem dX8_isolate_41 : decode cX8_isolate 41 = .ok (.iand, 1) := by decide +kernel
theorem dX8_isolate_42 : decode cX8_isolate 42 = .ok (.invokestatic 200, 3) := by decide +kernel
theorem dX8_isolate_45 : decode cX8_isolate 45 = .ok (.ireturn, 1) := by decide +kernel
theorem dX8_test_0 : decode cX8_test 0 = .ok (.iload_n 2, 1) := by decide +kernel
theorem dX8_test_1 : decode cX8_test 1 = .ok (.ifCond .lt 9, 3) := by decide +kernel
theorem dX8_test_4 : decode cX8_test 4 = .ok (.iload_n 2, 1) := by decide +kernel
theorem dX8_test_5 : decode cX8_test 5 = .ok (.bipush 100, 2) := by decide +kernel
theorem dX8_test_7 : decode cX8_test 7 = .ok (.if_icmp .le 5, 3) := by decide +kernel
theorem dX8_test_10 : decode cX8_test 10 = .ok (.iconst (-1), 1) := by decide +kernel
theorem dX8_test_11 : decode cX8_test 11 = .ok (.ireturn, 1) := by decide +kernel
theorem dX8_test_12 : decode cX8_test 12 = .ok (.aload_n 0, 1) := by decide +kernel
theorem dX8_test_13 : decode cX8_test 13 = .ok (.iload_n 1, 1) := by decide +kernel
theorem dX8_test_14 : decode cX8_test 14 = .ok (.iconst 1, 1) := by decide +kernel
theorem dX8_test_15 : decode cX8_test 15 = .ok (.invokevirtual 197, 3) := by decide +kernel
theorem dX8_test_18 : decode cX8_test 18 = .ok (.istore_n 3, 1) := by decide +kernel
theorem dX8_test_19 : decode cX8_test 19 = .ok (.iload_n 3, 1) := by decide +kernel
theorem dX8_test_20 : decode cX8_test 20 = .ok (.ifCond .ge 5, 3) := by decide +kernel
theorem dX8_test_23 : decode cX8_test 23 = .ok (.iload_n 3, 1) := by decide +kernel
theorem dX8_test_24 : decode cX8_test 24 = .ok (.ireturn, 1) := by decide +kernel
theorem dX8_test_25 : decode cX8_test 25 = .ok (.aload_n 0, 1) := by decide +kernel
theorem dX8_test_26 : decode cX8_test 26 = .ok (.getfield 30, 3) := by decide +kernel
theorem dX8_test_29 : decode cX8_test 29 = .ok (.iload_n 1, 1) := by decide +kernel
theorem dX8_test_30 : decode cX8_test 30 = .ok (.iload_n 2, 1) := by decide +kernel
theorem dX8_test_31 : decode cX8_test 31 = .ok (.aload_n 0, 1) := by decide +kernel
theorem dX8_test_32 : decode cX8_test 32 = .ok (.getfield 57, 3) := by decide +kernel
theorem dX8_test_35 : decode cX8_test 35 = .ok (.invokevirtual 205, 3) := by decide +kernel
theorem dX8_test_38 : decode cX8_test 38 = .ok (.iload_n 2, 1) := by decide +kernel
theorem dX8_test_39 : decode cX8_test 39 = .ok (.bipush 10, 2) := by decide +kernel
theorem dX8_test_41 : decode cX8_test 41 = .ok (.if_icmp .gt 7, 3) := by decide +kernel
theorem dX8_test_44 : decode cX8_test 44 = .ok (.iconst 1, 1) := by decide +kernel
theorem dX8_test_45 : decode cX8_test 45 = .ok (.goto 4, 3) := by decide +kernel
theorem dX8_test_48 : decode cX8_test 48 = .ok (.iconst 0, 1) := by decide +kernel
theorem dX8_test_49 : decode cX8_test 49 = .ok (.ireturn, 1) := by decide +kernel
theorem dX8_start_0 : decode cX8_start 0 = .ok (.aload_n 0, 1) := by decide +kernel
theorem dX8_start_1 : decode cX8_start 1 = .ok (.iload_n 1, 1) := by decide +kernel
theorem dX8_start_2 : decode cX8_start 2 = .ok (.iconst 2, 1) := by decide +kernel
theorem dX8_start_3 : decode cX8_start 3 = .ok (.invokevirtual 197, 3) := by decide +kernel
theorem dX8_start_6 : decode cX8_start 6 = .ok (.istore_n 2, 1) := by decide +kernel
theorem dX8_start_7 : decode cX8_start 7 = .ok (.iload_n 2, 1) := by decide +kernel
theorem dX8_start_8 : decode cX8_start 8 = .ok (.ifCond .ge 5, 3) := by decide +kernel
theorem dX8_start_11 : decode cX8_start 11 = .ok (.iload_n 2, 1) := by decide +kernel
theorem dX8_start_12 : decode cX8_start 12 = .ok (.ireturn, 1) := by decide +kernel
theorem dX8_start_13 : decode cX8_start 13 = .ok (.aload_n 0, 1) := by decide +kernel
theorem dX8_start_14 : decode cX8_start 14 = .ok (.getfield 30, 3) := by decide +kernel
theorem dX8_start_17 : decode cX8_start 17 = .ok (.getfield 186, 3) := by decide +kernel
theorem dX8_start_20 : decode cX8_start 20 = .ok (.iload_n 1, 1) := by decide +kernel
theorem dX8_start_21 : decode cX8_start 21 = .ok (.iconst 3, 1) := by decide +kernel
theorem dX8_start_22 : decode cX8_start 22 = .ok (.iastore, 1) := by decide +kernel
theorem dX8_start_23 : decode cX8_start 23 = .ok (.iconst 1, 1) := by decide +kernel
theorem dX8_start_24 : decode cX8_start 24 = .ok (.ireturn, 1) := by decide +kernel
theorem dX8_hang_0 : decode cX8_hang 0 = .ok (.aload_n 0, 1) := by decide +kernel
theorem dX8_hang_1 : decode cX8_hang 1 = .ok (.iload_n 1, 1) := by decide +kernel
theorem dX8_hang_2 : decode cX8_hang 2 = .ok (.iconst 3, 1) := by decide +kernel
theorem dX8_hang_3 : decode cX8_hang 3 = .ok (.invokevirtual 197, 3) := by decide +kernel
theorem dX8_hang_6 : decode cX8_hang 6 = .ok (.istore_n 2, 1) := by decide +kernel
theorem dX8_hang_7 : decode cX8_hang 7 = .ok (.iload_n 2, 1) := by decide +kernel
theorem dX8_hang_8 : decode cX8_hang 8 = .ok (.ifCond .ge 5, 3) := by decide +kernel
theorem dX8_hang_11 : decode cX8_hang 11 = .ok (.iload_n 2, 1) := by decide +kernel
theorem dX8_hang_12 : decode cX8_hang 12 = .ok (.ireturn, 1) := by decide +kernel
theorem dX8_hang_13 : decode cX8_hang 13 = .ok (.aload_n 0, 1) := by decide +kernel
theorem dX8_hang_14 : decode cX8_hang 14 = .ok (.getfield 30, 3) := by decide +kernel
theorem dX8_hang_17 : decode cX8_hang 17 = .ok (.iload_n 1, 1) := by decide +kernel
theorem dX8_hang_18 : decode cX8_hang 18 = .ok (.aload_n 0, 1) := by decide +kernel
theorem dX8_hang_19 : decode cX8_hang 19 = .ok (.getfield 57, 3) := by decide +kernel
theorem dX8_hang_22 : decode cX8_hang 22 = .ok (.invokevirtual 209, 3) := by decide +kernel
theorem dX8_hang_25 : decode cX8_hang 25 = .ok (.iconst 1, 1) := by decide +kernel
theorem dX8_hang_26 : decode cX8_hang 26 = .ok (.ireturn, 1) := by decide +kernel
theorem dX8_back_0 : decode cX8_back 0 = .ok (.aload_n 0, 1) := by decide +kernel
theorem dX8_back_1 : decode cX8_back 1 = .ok (.iload_n 1, 1) := by decide +kernel
theorem dX8_back_2 : decode cX8_back 2 = .ok (.iconst 4, 1) := by decide +kernel
theorem dX8_back_3 : decode cX8_back 3 = .ok (.invokevirtual 197, 3) := by decide +kernel
theorem dX8_back_6 : decode cX8_back 6 = .ok (.istore_n 2, 1) := by decide +kernel
theorem dX8_back_7 : decode cX8_back 7 = .ok (.iload_n 2, 1) := by decide +kernel
theorem dX8_back_8 : decode cX8_back 8 = .ok (.ifCond .ge 5, 3) := by decide +kernel
theorem dX8_back_11 : decode cX8_back 11 = .ok (.iload_n 2, 1) := by decide +kernel
theorem dX8_back_12 : decode cX8_back 12 = .ok (.ireturn, 1) := by decide +kernel
theorem dX8_back_13 : decode cX8_back 13 = .ok (.aload_n 0, 1) := by decide +kernel
theorem dX8_back_14 : decode cX8_back 14 = .ok (.getfield 10, 3) := by decide +kernel
theorem dX8_back_17 : decode cX8_back 17 = .ok (.invokevirtual 90, 3) := by decide +kernel
theorem dX8_back_20 : decode cX8_back 20 = .ok (.istore_n 3, 1) := by decide +kernel
theorem dX8_back_21 : decode cX8_back 21 = .ok (.aload_n 0, 1) := by decide +kernel
theorem dX8_back_22 : decode cX8_back 22 = .ok (.getfield 30, 3) := by decide +kernel
theorem dX8_back_25 : decode cX8_back 25 = .ok (.getfield 186, 3) := by decide +kernel
theorem dX8_back_28 : decode cX8_back 28 = .ok (.iload_n 1, 1) := by decide +kernel
theorem dX8_back_29 : decode cX8_back 29 = .ok (.iconst 5, 1) := by decide +kernel
theorem dX8_back_30 : decode cX8_back 30 = .ok (.iastore, 1) := by decide +kernel
theorem dX8_back_31 : decode cX8_back 31 = .ok (.iload_n 3, 1) := by decide +kernel
theorem dX8_back_32 : decode cX8_back 32 = .ok (.aload_n 0, 1) := by decide +kernel
theorem dX8_back_33 : decode cX8_back 33 = .ok (.getfield 10, 3) := by decide +kernel
theorem dX8_back_36 : decode cX8_back 36 = .ok (.invokevirtual 90, 3) := by decide +kernel
theorem dX8_back_39 : decode cX8_back 39 = .ok (.iconst (-1), 1) := by decide +kernel
theorem dX8_back_40 : decode cX8_back 40 = .ok (.ixor, 1) := by decide +kernel
theorem dX8_back_41 : decode cX8_back 41 = .ok (.iand, 1) := by decide +kernel
theorem dX8_back_42 : decode cX8_back 42 = .ok (.invokestatic 200, 3) := by decide +kernel
theorem dX8_back_45 : decode cX8_back 45 = .ok (.ireturn, 1) := by decide +kernel
theorem dX8_may_0 : decode cX8_may 0 = .ok (.aload_n 0, 1) := by decide +kernel
theorem dX8_may_1 : decode cX8_may 1 = .ok (.getfield 30, 3) := by decide +kernel
theorem dX8_may_4 : decode cX8_may 4 = .ok (.iload_n 1, 1) := by decide +kernel
theorem dX8_may_5 : decode cX8_may 5 = .ok (.invokevirtual 182, 3) := by decide +kernel
theorem dX8_may_8 : decode cX8_may 8 = .ok (.ifCond .eq 12, 3) := by decide +kernel
theorem dX8_may_11 : decode cX8_may 11 = .ok (.iload_n 2, 1) := by decide +kernel
theorem dX8_may_12 : decode cX8_may 12 = .ok (.ifCond .lt 8, 3) := by decide +kernel
theorem dX8_may_15 : decode cX8_may 15 = .ok (.iload_n 2, 1) := by decide +kernel
theorem dX8_may_16 : decode cX8_may 16 = .ok (.iconst 5, 1) := by decide +kernel
theorem dX8_may_17 : decode cX8_may 17 = .ok (.if_icmp .le 5, 3) := by decide +kernel
theorem dX8_may_20 : decode cX8_may 20 = .ok (.iconst (-1), 1) := by decide +kernel
theorem dX8_may_21 : decode cX8_may 21 = .ok (.ireturn, 1) := by decide +kernel
theorem dX8_may_22 : decode cX8_may 22 = .ok (.aload_n 0, 1) := by decide +kernel
theorem dX8_may_23 : decode cX8_may 23 = .ok (.getfield 10, 3) := by decide +kernel
theorem dX8_may_26 : decode cX8_may 26 = .ok (.iload_n 1, 1) := by decide +kernel
theorem dX8_may_27 : decode cX8_may 27 = .ok (.iload_n 2, 1) := by decide +kernel
theorem dX8_may_28 : decode cX8_may 28 = .ok (.aload_n 0, 1) := by decide +kernel
theorem dX8_may_29 : decode cX8_may 29 = .ok (.getfield 57, 3) := by decide +kernel
theorem dX8_may_32 : decode cX8_may 32 = .ok (.invokevirtual 213, 3) := by decide +kernel
theorem dX8_may_35 : decode cX8_may 35 = .ok (.ireturn, 1) := by decide +kernel
theorem dX8_quarrels_0 : decode cX8_quarrels 0 = .ok (.aload_n 0, 1) := by decide +kernel
theorem dX8_quarrels_1 : decode cX8_quarrels 1 = .ok (.getfield 30, 3) := by decide +kernel
theorem dX8_quarrels_4 : decode cX8_quarrels 4 = .ok (.iload_n 1, 1) := by decide +kernel
theorem dX8_quarrels_5 : decode cX8_quarrels 5 = .ok (.invokevirtual 182, 3) := by decide +kernel
theorem dX8_quarrels_8 : decode cX8_quarrels 8 = .ok (.ifCond .ne 5, 3) := by decide +kernel
theorem dX8_quarrels_11 : decode cX8_quarrels 11 = .ok (.iconst (-1), 1) := by decide +kernel
theorem dX8_quarrels_12 : decode cX8_quarrels 12 = .ok (.ireturn, 1) := by decide +kernel
theorem dX8_quarrels_13 : decode cX8_quarrels 13 = .ok (.aload_n 0, 1) := by decide +kernel
theorem dX8_quarrels_14 : decode cX8_quarrels 14 = .ok (.getfield 10, 3) := by decide +kernel
theorem dX8_quarrels_17 : decode cX8_quarrels 17 = .ok (.iload_n 1, 1) := by decide +kernel
theorem dX8_quarrels_18 : decode cX8_quarrels 18 = .ok (.aload_n 0, 1) := by decide +kernel
theorem dX8_quarrels_19 : decode cX8_quarrels 19 = .ok (.getfield 57, 3) := by decide +kernel
theorem dX8_quarrels_22 : decode cX8_quarrels 22 = .ok (.invokevirtual 216, 3) := by decide +kernel
theorem dX8_quarrels_25 : decode cX8_quarrels 25 = .ok (.ireturn, 1) := by decide +kernel
theorem dX8_permitOf_0 : decode cX8_permitOf 0 = .ok (.aload_n 0, 1) := by decide +kernel
theorem dX8_permitOf_1 : decode cX8_permitOf 1 = .ok (.getfield 30, 3) := by decide +kernel
theorem dX8_permitOf_4 : decode cX8_permitOf 4 = .ok (.iload_n 1, 1) := by decide +kernel
theorem dX8_permitOf_5 : decode cX8_permitOf 5 = .ok (.invokevirtual 182, 3) := by decide +kernel
theorem dX8_permitOf_8 : decode cX8_permitOf 8 = .ok (.ifCond .ne 5, 3) := by decide +kernel
theorem dX8_permitOf_11 : decode cX8_permitOf 11 = .ok (.iconst (-1), 1) := by decide +kernel
theorem dX8_permitOf_12 : decode cX8_permitOf 12 = .ok (.ireturn, 1) := by decide +kernel
theorem dX8_permitOf_13 : decode cX8_permitOf 13 = .ok (.iload_n 2, 1) := by decide +kernel
theorem dX8_permitOf_14 : decode cX8_permitOf 14 = .ok (.tableswitch 177 0 8 #[50, 60, 70, 80, 90, 118, 127, 137, 147], 50) := by decide +kernel
theorem dX8_permitOf_64 : decode cX8_permitOf 64 = .ok (.aload_n 0, 1) := by decide +kernel
theorem dX8_permitOf_65 : decode cX8_permitOf 65 = .ok (.getfield 30, 3) := by decide +kernel
theorem dX8_permitOf_68 : decode cX8_permitOf 68 = .ok (.getfield 219, 3) := by decide +kernel
theorem dX8_permitOf_71 : decode cX8_permitOf 71 = .ok (.iload_n 1, 1) := by decide +kernel
theorem dX8_permitOf_72 : decode cX8_permitOf 72 = .ok (.iaload, 1) := by decide +kernel
theorem dX8_permitOf_73 : decode cX8_permitOf 73 = .ok (.ireturn, 1) := by decide +kernel
theorem dX8_permitOf_74 : decode cX8_permitOf 74 = .ok (.aload_n 0, 1) := by decide +kernel
theorem dX8_permitOf_75 : decode cX8_permitOf 75 = .ok (.getfield 30, 3) := by decide +kernel
theorem dX8_permitOf_78 : decode cX8_permitOf 78 = .ok (.getfield 222, 3) := by decide +kernel
theorem dX8_permitOf_81 : decode cX8_permitOf 81 = .ok (.iload_n 1, 1) := by decide +kernel
theorem dX8_permitOf_82 : decode cX8_permitOf 82 = .ok (.iaload, 1) := by decide +kernel
theorem dX8_permitOf_83 : decode cX8_permitOf 83 = .ok (.ireturn, 1) := by decide +kernel
theorem dX8_permitOf_84 : decode cX8_permitOf 84 = .ok (.aload_n 0, 1) := by decide +kernel
theorem dX8_permitOf_85 : decode cX8_permitOf 85 = .ok (.getfield 30, 3) := by decide +kernel
theorem dX8_permitOf_88 : decode cX8_permitOf 88 = .ok (.getfield 225, 3) := by decide +kernel
theorem dX8_permitOf_91 : decode cX8_permitOf 91 = .ok (.iload_n 1, 1) := by decide +kernel
theorem dX8_permitOf_92 : decode cX8_permitOf 92 = .ok (.iaload, 1) := by decide +kernel
theorem dX8_permitOf_93 : decode cX8_permitOf 93 = .ok (.ireturn, 1) := by decide +kernel
theorem dX8_permitOf_94 : decode cX8_permitOf 94 = .ok (.aload_n 0, 1) := by decide +kernel
theorem dX8_permitOf_95 : decode cX8_permitOf 95 = .ok (.getfield 30, 3) := by decide +kernel
theorem dX8_permitOf_98 : decode cX8_permitOf 98 = .ok (.getfield 186, 3) := by decide +kernel
theorem dX8_permitOf_101 : decode cX8_permitOf 101 = .ok (.iload_n 1, 1) := by decide +kernel
theorem dX8_permitOf_102 : decode cX8_permitOf 102 = .ok (.iaload, 1) := by decide +kernel
theorem dX8_permitOf_103 : decode cX8_permitOf 103 = .ok (.ireturn, 1) := by decide +kernel
theorem dX8_permitOf_104 : decode cX8_permitOf 104 = .ok (.aload_n 0, 1) := by decide +kernel
theorem dX8_permitOf_105 : decode cX8_permitOf 105 = .ok (.getfield 30, 3) := by decide +kernel
theorem dX8_permitOf_108 : decode cX8_permitOf 108 = .ok (.getfield 194, 3) := by decide +kernel
theorem dX8_permitOf_111 : decode cX8_permitOf 111 = .ok (.iload_n 1, 1) := by decide +kernel
theorem dX8_permitOf_112 : decode cX8_permitOf 112 = .ok (.iaload, 1) := by decide +kernel
theorem dX8_permitOf_113 : decode cX8_permitOf 113 = .ok (.iconst (-1), 1) := by decide +kernel
theorem dX8_permitOf_114 : decode cX8_permitOf 114 = .ok (.if_icmp .ne 8, 3) := by decide +kernel
theorem dX8_permitOf_117 : decode cX8_permitOf 117 = .ok (.bipush (-3), 2) := by decide +kernel
theorem dX8_permitOf_119 : decode cX8_permitOf 119 = .ok (.goto 12, 3) := by decide +kernel
theorem dX8_permitOf_122 : decode cX8_permitOf 122 = .ok (.aload_n 0, 1) := by decide +kernel
theorem dX8_permitOf_123 : decode cX8_permitOf 123 = .ok (.getfield 30, 3) := by decide +kernel
theorem dX8_permitOf_126 : decode cX8_permitOf 126 = .ok (.getfield 194, 3) := by decide +kernel
theorem dX8_permitOf_129 : decode cX8_permitOf 129 = .ok (.iload_n 1, 1) := by decide +kernel
theorem dX8_permitOf_130 : decode cX8_permitOf 130 = .ok (.iaload, 1) := by decide +kernel
theorem dX8_permitOf_131 : decode cX8_permitOf 131 = .ok (.ireturn, 1) := by decide +kernel
theorem dX8_permitOf_132 : decode cX8_permitOf 132 = .ok (.aload_n 0, 1) := by decide +kernel
theorem dX8_permitOf_133 : decode cX8_permitOf 133 = .ok (.getfield 35, 3) := by decide +kernel
theorem dX8_permitOf_136 : decode cX8_permitOf 136 = .ok (.iload_n 1, 1) := by decide +kernel
theorem dX8_permitOf_137 : decode cX8_permitOf 137 = .ok (.invokevirtual 228, 3) := by decide +kernel
theorem dX8_permitOf_140 : decode cX8_permitOf 140 = .ok (.ireturn, 1) := by decide +kernel
theorem dX8_permitOf_141 : decode cX8_permitOf 141 = .ok (.aload_n 0, 1) := by decide +kernel
theorem dX8_permitOf_142 : decode cX8_permitOf 142 = .ok (.getfield 30, 3) := by decide +kernel
theorem dX8_permitOf_145 : decode cX8_permitOf 145 = .ok (.getfield 231, 3) := by decide +kernel
theorem dX8_permitOf_148 : decode cX8_permitOf 148 = .ok (.iload_n 1, 1) := by decide +kernel
theorem dX8_permitOf_149 : decode cX8_permitOf 149 = .ok (.iaload, 1) := by decide +kernel
theorem dX8_permitOf_150 : decode cX8_permitOf 150 = .ok (.ireturn, 1) := by decide +kernel
theorem dX8_permitOf_151 : decode cX8_permitOf 151 = .ok (.aload_n 0, 1) := by decide +kernel
theorem dX8_permitOf_152 : decode cX8_permitOf 152 = .ok (.getfield 30, 3) := by decide +kernel
theorem dX8_permitOf_155 : decode cX8_permitOf 155 = .ok (.getfield 234, 3) := by decide +kernel
theorem dX8_permitOf_158 : decode cX8_permitOf 158 = .ok (.iload_n 1, 1) := by decide +kernel
theorem dX8_permitOf_159 : decode cX8_permitOf 159 = .ok (.iaload, 1) := by decide +kernel
theorem dX8_permitOf_160 : decode cX8_permitOf 160 = .ok (.ireturn, 1) := by decide +kernel
theorem dX8_permitOf_161 : decode cX8_permitOf 161 = .ok (.aload_n 0, 1) := by decide +kernel
theorem dX8_permitOf_162 : decode cX8_permitOf 162 = .ok (.getfield 30, 3) := by decide +kernel
theorem dX8_permitOf_165 : decode cX8_permitOf 165 = .ok (.getfield 186, 3) := by decide +kernel
theorem dX8_permitOf_168 : decode cX8_permitOf 168 = .ok (.iload_n 1, 1) := by decide +kernel
theorem dX8_permitOf_169 : decode cX8_permitOf 169 = .ok (.iaload, 1) := by decide +kernel
theorem dX8_permitOf_170 : decode cX8_permitOf 170 = .ok (.iconst 3, 1) := by decide +kernel
theorem dX8_permitOf_171 : decode cX8_permitOf 171 = .ok (.if_icmp .ne 10, 3) := by decide +kernel
theorem dX8_permitOf_174 : decode cX8_permitOf 174 = .ok (.aload_n 0, 1) := by decide +kernel
theorem dX8_permitOf_175 : decode cX8_permitOf 175 = .ok (.getfield 57, 3) := by decide +kernel
theorem dX8_permitOf_178 : decode cX8_permitOf 178 = .ok (.goto 12, 3) := by decide +kernel
theorem dX8_permitOf_181 : decode cX8_permitOf 181 = .ok (.aload_n 0, 1) := by decide +kernel
theorem dX8_permitOf_182 : decode cX8_permitOf 182 = .ok (.getfield 30, 3) := by decide +kernel
theorem dX8_permitOf_185 : decode cX8_permitOf 185 = .ok (.getfield 237, 3) := by decide +kernel
theorem dX8_permitOf_188 : decode cX8_permitOf 188 = .ok (.iload_n 1, 1) := by decide +kernel
theorem dX8_permitOf_189 : decode cX8_permitOf 189 = .ok (.iaload, 1) := by decide +kernel
theorem dX8_permitOf_190 : decode cX8_permitOf 190 = .ok (.ireturn, 1) := by decide +kernel
theorem dX8_permitOf_191 : decode cX8_permitOf 191 = .ok (.iconst (-1), 1) := by decide +kernel
theorem dX8_permitOf_192 : decode cX8_permitOf 192 = .ok (.ireturn, 1) := by decide +kernel
theorem dX8_enter_0 : decode cX8_enter 0 = .ok (.iload_n 1, 1) := by decide +kernel
theorem dX8_enter_1 : decode cX8_enter 1 = .ok (.invokestatic 183, 3) := by decide +kernel
theorem dX8_enter_4 : decode cX8_enter 4 = .ok (.ifCond .eq 14, 3) := by decide +kernel
theorem dX8_enter_7 : decode cX8_enter 7 = .ok (.aload_n 0, 1) := by decide +kernel
theorem dX8_enter_8 : decode cX8_enter 8 = .ok (.getfield 30, 3) := by decide +kernel
theorem dX8_enter_11 : decode cX8_enter 11 = .ok (.iload_n 2, 1) := by decide +kernel
theorem dX8_enter_12 : decode cX8_enter 12 = .ok (.invokevirtual 182, 3) := by decide +kernel
theorem dX8_enter_15 : decode cX8_enter 15 = .ok (.ifCond .ne 5, 3) := by decide +kernel
theorem dX8_enter_18 : decode cX8_enter 18 = .ok (.iconst (-1), 1) := by decide +kernel
theorem dX8_enter_19 : decode cX8_enter 19 = .ok (.ireturn, 1) := by decide +kernel
theorem dX8_enter_20 : decode cX8_enter 20 = .ok (.aload_n 0, 1) := by decide +kernel
theorem dX8_enter_21 : decode cX8_enter 21 = .ok (.getfield 35, 3) := by decide +kernel
theorem dX8_enter_24 : decode cX8_enter 24 = .ok (.iload_n 1, 1) := by decide +kernel
theorem dX8_enter_25 : decode cX8_enter 25 = .ok (.invokevirtual 189, 3) := by decide +kernel
theorem dX8_enter_28 : decode cX8_enter 28 = .ok (.ifCond .eq 16, 3) := by decide +kernel
theorem dX8_enter_31 : decode cX8_enter 31 = .ok (.aload_n 0, 1) := by decide +kernel
theorem dX8_enter_32 : decode cX8_enter 32 = .ok (.getfield 35, 3) := by decide +kernel
theorem dX8_enter_35 : decode cX8_enter 35 = .ok (.getfield 240, 3) := by decide +kernel
theorem dX8_enter_38 : decode cX8_enter 38 = .ok (.iload_n 1, 1) := by decide +kernel
theorem dX8_enter_39 : decode cX8_enter 39 = .ok (.iaload, 1) := by decide +kernel
theorem dX8_enter_40 : decode cX8_enter 40 = .ok (.iconst (-1), 1) := by decide +kernel
theorem dX8_enter_41 : decode cX8_enter 41 = .ok (.if_icmp .eq 6, 3) := by decide +kernel
theorem dX8_enter_44 : decode cX8_enter 44 = .ok (.bipush (-4), 2) := by decide +kernel
theorem dX8_enter_46 : decode cX8_enter 46 = .ok (.ireturn, 1) := by decide +kernel
theorem dX8_enter_47 : decode cX8_enter 47 = .ok (.aload_n 0, 1) := by decide +kernel
theorem dX8_enter_48 : decode cX8_enter 48 = .ok (.iload_n 2, 1) := by decide +kernel
theorem dX8_enter_49 : decode cX8_enter 49 = .ok (.iconst 5, 1) := by decide +kernel
theorem dX8_enter_50 : decode cX8_enter 50 = .ok (.invokevirtual 197, 3) := by decide +kernel
theorem dX8_enter_53 : decode cX8_enter 53 = .ok (.istore_n 3, 1) := by decide +kernel
theorem dX8_enter_54 : decode cX8_enter 54 = .ok (.iload_n 3, 1) := by decide +kernel
theorem dX8_enter_55 : decode cX8_enter 55 = .ok (.ifCond .ge 5, 3) := by decide +kernel
theorem dX8_enter_58 : decode cX8_enter 58 = .ok (.iload_n 3, 1) := by decide +kernel
theorem dX8_enter_59 : decode cX8_enter 59 = .ok (.ireturn, 1) := by decide +kernel
theorem dX8_enter_60 : decode cX8_enter 60 = .ok (.aload_n 0, 1) := by decide +kernel
theorem dX8_enter_61 : decode cX8_enter 61 = .ok (.getfield 35, 3) := by decide +kernel
theorem dX8_enter_64 : decode cX8_enter 64 = .ok (.getfield 240, 3) := by decide +kernel
theorem dX8_enter_67 : decode cX8_enter 67 = .ok (.iload_n 1, 1) := by decide +kernel
theorem dX8_enter_68 : decode cX8_enter 68 = .ok (.iload_n 2, 1) := by decide +kernel
theorem dX8_enter_69 : decode cX8_enter 69 = .ok (.iastore, 1) := by decide +kernel
theorem dX8_enter_70 : decode cX8_enter 70 = .ok (.aload_n 0, 1) := by decide +kernel
theorem dX8_enter_71 : decode cX8_enter 71 = .ok (.getfield 35, 3) := by decide +kernel
theorem dX8_enter_74 : decode cX8_enter 74 = .ok (.iload_n 2, 1) := by decide +kernel
theorem dX8_enter_75 : decode cX8_enter 75 = .ok (.invokevirtual 228, 3) := by decide +kernel
theorem dX8_enter_78 : decode cX8_enter 78 = .ok (.ireturn, 1) := by decide +kernel
theorem dX8_leave_0 : decode cX8_leave 0 = .ok (.iload_n 1, 1) := by decide +kernel
theorem dX8_leave_1 : decode cX8_leave 1 = .ok (.invokestatic 183, 3) := by decide +kernel
theorem dX8_leave_4 : decode cX8_leave 4 = .ok (.ifCond .ne 5, 3) := by decide +kernel
theorem dX8_leave_7 : decode cX8_leave 7 = .ok (.iconst (-1), 1) := by decide +kernel
theorem dX8_leave_8 : decode cX8_leave 8 = .ok (.ireturn, 1) := by decide +kernel
theorem dX8_leave_9 : decode cX8_leave 9 = .ok (.aload_n 0, 1) := by decide +kernel
theorem dX8_leave_10 : decode cX8_leave 10 = .ok (.getfield 35, 3) := by decide +kernel
theorem dX8_leave_13 : decode cX8_leave 13 = .ok (.getfield 240, 3) := by decide +kernel
theorem dX8_leave_16 : decode cX8_leave 16 = .ok (.iload_n 1, 1) := by decide +kernel
theorem dX8_leave_17 : decode cX8_leave 17 = .ok (.iaload, 1) := by decide +kernel
theorem dX8_leave_18 : decode cX8_leave 18 = .ok (.istore_n 2, 1) := by decide +kernel
theorem dX8_leave_19 : decode cX8_leave 19 = .ok (.iload_n 2, 1) := by decide +kernel
theorem dX8_leave_20 : decode cX8_leave 20 = .ok (.iconst (-1), 1) := by decide +kernel
theorem dX8_leave_21 : decode cX8_leave 21 = .ok (.if_icmp .ne 6, 3) := by decide +kernel
theorem dX8_leave_24 : decode cX8_leave 24 = .ok (.bipush (-4), 2) := by decide +kernel
theorem dX8_leave_26 : decode cX8_leave 26 = .ok (.ireturn, 1) := by decide +kernel
theorem dX8_leave_27 : decode cX8_leave 27 = .ok (.aload_n 0, 1) := by decide +kernel
theorem dX8_leave_28 : decode cX8_leave 28 = .ok (.getfield 35, 3) := by decide +kernel
theorem dX8_leave_31 : decode cX8_leave 31 = .ok (.getfield 240, 3) := by decide +kernel
theorem dX8_leave_34 : decode cX8_leave 34 = .ok (.iload_n 1, 1) := by decide +kernel
theorem dX8_leave_35 : decode cX8_leave 35 = .ok (.iconst (-1), 1) := by decide +kernel
theorem dX8_leave_36 : decode cX8_leave 36 = .ok (.iastore, 1) := by decide +kernel
theorem dX8_leave_37 : decode cX8_leave 37 = .ok (.iload_n 2, 1) := by decide +kernel
theorem dX8_leave_38 : decode cX8_leave 38 = .ok (.ireturn, 1) := by decide +kernel
theorem dX8_shift_0 : decode cX8_shift 0 = .ok (.iload_n 1, 1) := by decide +kernel
theorem dX8_shift_1 : decode cX8_shift 1 = .ok (.invokestatic 183, 3) := by decide +kernel
theorem dX8_shift_4 : decode cX8_shift 4 = .ok (.ifCond .ne 5, 3) := by decide +kernel
theorem dX8_shift_7 : decode cX8_shift 7 = .ok (.iconst (-1), 1) := by decide +kernel
theorem dX8_shift_8 : decode cX8_shift 8 = .ok (.ireturn, 1) := by decide +kernel
theorem dX8_shift_9 : decode cX8_shift 9 = .ok (.aload_n 0, 1) := by decide +kernel
theorem dX8_shift_10 : decode cX8_shift 10 = .ok (.getfield 35, 3) := by decide +kernel
theorem dX8_shift_13 : decode cX8_shift 13 = .ok (.getfield 240, 3) := by decide +kernel
theorem dX8_shift_16 : decode cX8_shift 16 = .ok (.iload_n 1, 1) := by decide +kernel
theorem dX8_shift_17 : decode cX8_shift 17 = .ok (.iaload, 1) := by decide +kernel
theorem dX8_shift_18 : decode cX8_shift 18 = .ok (.iconst (-1), 1) := by decide +kernel
theorem dX8_shift_19 : decode cX8_shift 19 = .ok (.if_icmp .ne 14, 3) := by decide +kernel
theorem dX8_shift_22 : decode cX8_shift 22 = .ok (.aload_n 0, 1) := by decide +kernel
theorem dX8_shift_23 : decode cX8_shift 23 = .ok (.getfield 30, 3) := by decide +kernel
theorem dX8_shift_26 : decode cX8_shift 26 = .ok (.iload_n 1, 1) := by decide +kernel
theorem dX8_shift_27 : decode cX8_shift 27 = .ok (.invokevirtual 243, 3) := by decide +kernel
theorem dX8_shift_30 : decode cX8_shift 30 = .ok (.ifCond .eq 7, 3) := by decide +kernel
theorem dX8_shift_33 : decode cX8_shift 33 = .ok (.iconst 1, 1) := by decide +kernel
theorem dX8_shift_34 : decode cX8_shift 34 = .ok (.goto 4, 3) := by decide +kernel
theorem dX8_shift_37 : decode cX8_shift 37 = .ok (.iconst 0, 1) := by decide +kernel
theorem dX8_shift_38 : decode cX8_shift 38 = .ok (.istore_n 3, 1) := by decide +kernel
theorem dX8_shift_39 : decode cX8_shift 39 = .ok (.aload_n 0, 1) := by decide +kernel
theorem dX8_shift_40 : decode cX8_shift 40 = .ok (.getfield 35, 3) := by decide +kernel
theorem dX8_shift_43 : decode cX8_shift 43 = .ok (.iload_n 1, 1) := by decide +kernel
theorem dX8_shift_44 : decode cX8_shift 44 = .ok (.invokevirtual 189, 3) := by decide +kernel
theorem dX8_shift_47 : decode cX8_shift 47 = .ok (.iload_n 2, 1) := by decide +kernel
theorem dX8_shift_48 : decode cX8_shift 48 = .ok (.if_icmp .eq 11, 3) := by decide +kernel
theorem dX8_shift_51 : decode cX8_shift 51 = .ok (.iload_n 2, 1) := by decide +kernel
theorem dX8_shift_52 : decode cX8_shift 52 = .ok (.ifCond .ne 10, 3) := by decide +kernel
theorem dX8_shift_55 : decode cX8_shift 55 = .ok (.iload_n 3, 1) := by decide +kernel
theorem dX8_shift_56 : decode cX8_shift 56 = .ok (.ifCond .eq 6, 3) := by decide +kernel
theorem dX8_shift_59 : decode cX8_shift 59 = .ok (.bipush (-4), 2) := by decide +kernel
theorem dX8_shift_61 : decode cX8_shift 61 = .ok (.ireturn, 1) := by decide +kernel
theorem dX8_shift_62 : decode cX8_shift 62 = .ok (.aload_n 0, 1) := by decide +kernel
theorem dX8_shift_63 : decode cX8_shift 63 = .ok (.getfield 35, 3) := by decide +kernel
theorem dX8_shift_66 : decode cX8_shift 66 = .ok (.iload_n 1, 1) := by decide +kernel
theorem dX8_shift_67 : decode cX8_shift 67 = .ok (.iload_n 2, 1) := by decide +kernel
theorem dX8_shift_68 : decode cX8_shift 68 = .ok (.invokevirtual 246, 3) := by decide +kernel
theorem dX8_shift_71 : decode cX8_shift 71 = .ok (.iconst 1, 1) := by decide +kernel
theorem dX8_shift_72 : decode cX8_shift 72 = .ok (.ireturn, 1) := by decide +kernel
theorem dX8_siren_0 : decode cX8_siren 0 = .ok (.aload_n 0, 1) := by decide +kernel
theorem dX8_siren_1 : decode cX8_siren 1 = .ok (.getfield 35, 3) := by decide +kernel
theorem dX8_siren_4 : decode cX8_siren 4 = .ok (.invokevirtual 250, 3) := by decide +kernel
theorem dX8_siren_7 : decode cX8_siren 7 = .ok (.istore_n 1, 1) := by decide +kernel
theorem dX8_siren_8 : decode cX8_siren 8 = .ok (.aload_n 0, 1) := by decide +kernel
theorem dX8_siren_9 : decode cX8_siren 9 = .ok (.getfield 30, 3) := by decide +kernel
theorem dX8_siren_12 : decode cX8_siren 12 = .ok (.aload_n 0, 1) := by decide +kernel
theorem dX8_siren_13 : decode cX8_siren 13 = .ok (.getfield 57, 3) := by decide +kernel
theorem dX8_siren_16 : decode cX8_siren 16 = .ok (.invokevirtual 253, 3) := by decide +kernel
theorem dX8_siren_19 : decode cX8_siren 19 = .ok (.iload_n 1, 1) := by decide +kernel
theorem dX8_siren_20 : decode cX8_siren 20 = .ok (.ireturn, 1) := by decide +kernel
theorem dX8_least_0 : decode cX8_least 0 = .ok (.aload_n 0, 1) := by decide +kernel
theorem dX8_least_1 : decode cX8_least 1 = .ok (.iload_n 1, 1) := by decide +kernel
theorem dX8_least_2 : decode cX8_least 2 = .ok (.invokevirtual 257, 3) := by decide +kernel
theorem dX8_least_5 : decode cX8_least 5 = .ok (.istore_n 2, 1) := by decide +kernel
theorem dX8_least_6 : decode cX8_least 6 = .ok (.iload_n 2, 1) := by decide +kernel
theorem dX8_least_7 : decode cX8_least 7 = .ok (.ifCond .ge 7, 3) := by decide +kernel
theorem dX8_least_10 : decode cX8_least 10 = .ok (.iload_n 2, 1) := by decide +kernel
theorem dX8_least_11 : decode cX8_least 11 = .ok (.goto 11, 3) := by decide +kernel
theorem dX8_least_14 : decode cX8_least 14 = .ok (.aload_n 0, 1) := by decide +kernel
theorem dX8_least_15 : decode cX8_least 15 = .ok (.getfield 20, 3) := by decide +kernel
theorem dX8_least_18 : decode cX8_least 18 = .ok (.iload_n 2, 1) := by decide +kernel
theorem dX8_least_19 : decode cX8_least 19 = .ok (.invokevirtual 260, 3) := by decide +kernel
theorem dX8_least_22 : decode cX8_least 22 = .ok (.ireturn, 1) := by decide +kernel
theorem dX8_leastSet_0 : decode cX8_leastSet 0 = .ok (.iload_n 1, 1) := by decide +kernel
theorem dX8_leastSet_1 : decode cX8_leastSet 1 = .ok (.invokestatic 61, 3) := by decide +kernel
theorem dX8_leastSet_4 : decode cX8_leastSet 4 = .ok (.ifCond .ne 5, 3) := by decide +kernel
theorem dX8_leastSet_7 : decode cX8_leastSet 7 = .ok (.iconst (-1), 1) := by decide +kernel
theorem dX8_leastSet_8 : decode cX8_leastSet 8 = .ok (.ireturn, 1) := by decide +kernel
theorem dX8_leastSet_9 : decode cX8_leastSet 9 = .ok (.aload_n 0, 1) := by decide +kernel
theorem dX8_leastSet_10 : decode cX8_leastSet 10 = .ok (.getfield 20, 3) := by decide +kernel
theorem dX8_leastSet_13 : decode cX8_leastSet 13 = .ok (.iload_n 1, 1) := by decide +kernel
theorem dX8_leastSet_14 : decode cX8_leastSet 14 = .ok (.aload_n 0, 1) := by decide +kernel
theorem dX8_leastSet_15 : decode cX8_leastSet 15 = .ok (.getfield 25, 3) := by decide +kernel
theorem dX8_leastSet_18 : decode cX8_leastSet 18 = .ok (.aload_n 0, 1) := by decide +kernel
theorem dX8_leastSet_19 : decode cX8_leastSet 19 = .ok (.getfield 57, 3) := by decide +kernel
theorem dX8_leastSet_22 : decode cX8_leastSet 22 = .ok (.invokevirtual 114, 3) := by decide +kernel
theorem dX8_leastSet_25 : decode cX8_leastSet 25 = .ok (.invokevirtual 263, 3) := by decide +kernel
theorem dX8_leastSet_28 : decode cX8_leastSet 28 = .ok (.ireturn, 1) := by decide +kernel
theorem dX8_risk_0 : decode cX8_risk 0 = .ok (.aload_n 0, 1) := by decide +kernel
theorem dX8_risk_1 : decode cX8_risk 1 = .ok (.getfield 20, 3) := by decide +kernel
theorem dX8_risk_4 : decode cX8_risk 4 = .ok (.iload_n 1, 1) := by decide +kernel
theorem dX8_risk_5 : decode cX8_risk 5 = .ok (.invokevirtual 104, 3) := by decide +kernel
theorem dX8_risk_8 : decode cX8_risk 8 = .ok (.ifCond .ne 5, 3) := by decide +kernel
theorem dX8_risk_11 : decode cX8_risk 11 = .ok (.iconst (-1), 1) := by decide +kernel
theorem dX8_risk_12 : decode cX8_risk 12 = .ok (.ireturn, 1) := by decide +kernel
theorem dX8_risk_13 : decode cX8_risk 13 = .ok (.aload_n 0, 1) := by decide +kernel
theorem dX8_risk_14 : decode cX8_risk 14 = .ok (.getfield 25, 3) := by decide +kernel
theorem dX8_risk_17 : decode cX8_risk 17 = .ok (.aload_n 0, 1) := by decide +kernel
theorem dX8_risk_18 : decode cX8_risk 18 = .ok (.getfield 57, 3) := by decide +kernel
theorem dX8_risk_21 : decode cX8_risk 21 = .ok (.invokevirtual 114, 3) := by decide +kernel
theorem dX8_risk_24 : decode cX8_risk 24 = .ok (.istore_n 2, 1) := by decide +kernel
theorem dX8_risk_25 : decode cX8_risk 25 = .ok (.aload_n 0, 1) := by decide +kernel
theorem dX8_risk_26 : decode cX8_risk 26 = .ok (.getfield 10, 3) := by decide +kernel
theorem dX8_risk_29 : decode cX8_risk 29 = .ok (.invokevirtual 90, 3) := by decide +kernel
theorem dX8_risk_32 : decode cX8_risk 32 = .ok (.iconst 1, 1) := by decide +kernel
theorem dX8_risk_33 : decode cX8_risk 33 = .ok (.iload_n 1, 1) := by decide +kernel
theorem dX8_risk_34 : decode cX8_risk 34 = .ok (.ishl, 1) := by decide +kernel
theorem dX8_risk_35 : decode cX8_risk 35 = .ok (.iconst (-1), 1) := by decide +kernel
theorem dX8_risk_36 : decode cX8_risk 36 = .ok (.ixor, 1) := by decide +kernel
theorem dX8_risk_37 : decode cX8_risk 37 = .ok (.iand, 1) := by decide +kernel
theorem dX8_risk_38 : decode cX8_risk 38 = .ok (.istore_n 3, 1) := by decide +kernel
theorem dX8_risk_39 : decode cX8_risk 39 = .ok (.iconst 0, 1) := by decide +kernel
theorem dX8_risk_40 : decode cX8_risk 40 = .ok (.istore 4, 2) := by decide +kernel
theorem dX8_risk_42 : decode cX8_risk 42 = .ok (.iconst 0, 1) := by decide +kernel
theorem dX8_risk_43 : decode cX8_risk 43 = .ok (.istore 5, 2) := by decide +kernel
theorem dX8_risk_45 : decode cX8_risk 45 = .ok (.iload 5, 2) := by decide +kernel
theorem dX8_risk_47 : decode cX8_risk 47 = .ok (.aload_n 0, 1) := by decide +kernel
theorem dX8_risk_48 : decode cX8_risk 48 = .ok (.getfield 30, 3) := by decide +kernel
theorem dX8_risk_51 : decode cX8_risk 51 = .ok (.getfield 179, 3) := by decide +kernel
theorem dX8_risk_54 : decode cX8_risk 54 = .ok (.if_icmp .ge 73, 3) := by decide +kernel
theorem dX8_risk_57 : decode cX8_risk 57 = .ok (.aload_n 0, 1) := by decide +kernel
theorem dX8_risk_58 : decode cX8_risk 58 = .ok (.getfield 30, 3) := by decide +kernel
theorem dX8_risk_61 : decode cX8_risk 61 = .ok (.getfield 186, 3) := by decide +kernel
theorem dX8_risk_64 : decode cX8_risk 64 = .ok (.iload 5, 2) := by decide +kernel
theorem dX8_risk_66 : decode cX8_risk 66 = .ok (.iaload, 1) := by decide +kernel
theorem dX8_risk_67 : decode cX8_risk 67 = .ok (.iconst 3, 1) := by decide +kernel
theorem dX8_risk_68 : decode cX8_risk 68 = .ok (.if_icmp .ne 7, 3) := by decide +kernel
theorem dX8_risk_71 : decode cX8_risk 71 = .ok (.iconst 1, 1) := by decide +kernel
theorem dX8_risk_72 : decode cX8_risk 72 = .ok (.goto 4, 3) := by decide +kernel
theorem dX8_risk_75 : decode cX8_risk 75 = .ok (.iconst 0, 1) := by decide +kernel
theorem dX8_risk_76 : decode cX8_risk 76 = .ok (.istore 6, 2) := by decide +kernel
theorem dX8_risk_78 : decode cX8_risk 78 = .ok (.iload 6, 2) := by decide +kernel
theorem dX8_risk_80 : decode cX8_risk 80 = .ok (.ifCond .eq 41, 3) := by decide +kernel
theorem dX8_risk_83 : decode cX8_risk 83 = .ok (.aload_n 0, 1) := by decide +kernel
theorem dX8_risk_84 : decode cX8_risk 84 = .ok (.getfield 20, 3) := by decide +kernel
theorem dX8_risk_87 : decode cX8_risk 87 = .ok (.aload_n 0, 1) := by decide +kernel
theorem dX8_risk_88 : decode cX8_risk 88 = .ok (.getfield 30, 3) := by decide +kernel
theorem dX8_risk_91 : decode cX8_risk 91 = .ok (.getfield 219, 3) := by decide +kernel
theorem dX8_risk_94 : decode cX8_risk 94 = .ok (.iload 5, 2) := by decide +kernel
theorem dX8_risk_96 : decode cX8_risk 96 = .ok (.iaload, 1) := by decide +kernel
theorem dX8_risk_97 : decode cX8_risk 97 = .ok (.iload_n 3, 1) := by decide +kernel
theorem dX8_risk_98 : decode cX8_risk 98 = .ok (.aload_n 0, 1) := by decide +kernel
theorem dX8_risk_99 : decode cX8_risk 99 = .ok (.getfield 20, 3) := by decide +kernel
theorem dX8_risk_102 : decode cX8_risk 102 = .ok (.invokevirtual 111, 3) := by decide +kernel
theorem dX8_risk_105 : decode cX8_risk 105 = .ok (.iload_n 2, 1) := by decide +kernel
theorem dX8_risk_106 : decode cX8_risk 106 = .ok (.invokevirtual 119, 3) := by decide +kernel
theorem dX8_risk_109 : decode cX8_risk 109 = .ok (.ifCond .ne 12, 3) := by decide +kernel
theorem dX8_risk_112 : decode cX8_risk 112 = .ok (.iload 4, 2) := by decide +kernel
theorem dX8_risk_114 : decode cX8_risk 114 = .ok (.iconst 1, 1) := by decide +kernel
theorem dX8_risk_115 : decode cX8_risk 115 = .ok (.iload 5, 2) := by decide +kernel
theorem dX8_risk_117 : decode cX8_risk 117 = .ok (.ishl, 1) := by decide +kernel
theorem dX8_risk_118 : decode cX8_risk 118 = .ok (.ior, 1) := by decide +kernel
theorem dX8_risk_119 : decode cX8_risk 119 = .ok (.istore 4, 2) := by decide +kernel
theorem dX8_risk_121 : decode cX8_risk 121 = .ok (.iinc 5 1, 3) := by decide +kernel
theorem dX8_risk_124 : decode cX8_risk 124 = .ok (.goto (-79), 3) := by decide +kernel
theorem dX8_risk_127 : decode cX8_risk 127 = .ok (.iload 4, 2) := by decide +kernel
theorem dX8_risk_129 : decode cX8_risk 129 = .ok (.ireturn, 1) := by decide +kernel
theorem dX8_right_0 : decode cX8_right 0 = .ok (.aload_n 0, 1) := by decide +kernel
theorem dX8_right_1 : decode cX8_right 1 = .ok (.getfield 30, 3) := by decide +kernel
theorem dX8_right_4 : decode cX8_right 4 = .ok (.iload_n 1, 1) := by decide +kernel
theorem dX8_right_5 : decode cX8_right 5 = .ok (.invokevirtual 182, 3) := by decide +kernel
theorem dX8_right_8 : decode cX8_right 8 = .ok (.ifCond .eq 19, 3) := by decide +kernel
theorem dX8_right_11 : decode cX8_right 11 = .ok (.aload_n 0, 1) := by decide +kernel
theorem dX8_right_12 : decode cX8_right 12 = .ok (.iload_n 2, 1) := by decide +kernel
theorem dX8_right_13 : decode cX8_right 13 = .ok (.invokevirtual 266, 3) := by decide +kernel
theorem dX8_right_16 : decode cX8_right 16 = .ok (.ifCond .eq 11, 3) := by decide +kernel
theorem dX8_right_19 : decode cX8_right 19 = .ok (.aload_n 0, 1) := by decide +kernel
theorem dX8_right_20 : decode cX8_right 20 = .ok (.iload_n 3, 1) := by decide +kernel
theorem dX8_right_21 : decode cX8_right 21 = .ok (.invokevirtual 266, 3) := by decide +kernel
theorem dX8_right_24 : decode cX8_right 24 = .ok (.ifCond .ne 5, 3) := by decide +kernel
theorem dX8_right_27 : decode cX8_right 27 = .ok (.iconst (-1), 1) := by decide +kernel
theorem dX8_right_28 : decode cX8_right 28 = .ok (.ireturn, 1) := by decide +kernel
theorem dX8_right_29 : decode cX8_right 29 = .ok (.iload_n 2, 1) := by decide +kernel
theorem dX8_right_30 : decode cX8_right 30 = .ok (.aload_n 0, 1) := by decide +kernel
theorem dX8_right_31 : decode cX8_right 31 = .ok (.getfield 57, 3) := by decide +kernel
theorem dX8_right_34 : decode cX8_right 34 = .ok (.if_icmp .ne 14, 3) := by decide +kernel
theorem dX8_right_37 : decode cX8_right 37 = .ok (.aload_n 0, 1) := by decide +kernel
theorem dX8_right_38 : decode cX8_right 38 = .ok (.getfield 30, 3) := by decide +kernel
theorem dX8_right_41 : decode cX8_right 41 = .ok (.iconst 3, 1) := by decide +kernel
theorem dX8_right_42 : decode cX8_right 42 = .ok (.invokevirtual 131, 3) := by decide +kernel
theorem dX8_right_45 : decode cX8_right 45 = .ok (.goto 12, 3) := by decide +kernel
theorem dX8_right_48 : decode cX8_right 48 = .ok (.aload_n 0, 1) := by decide +kernel
theorem dX8_right_49 : decode cX8_right 49 = .ok (.getfield 46, 3) := by decide +kernel
theorem dX8_right_52 : decode cX8_right 52 = .ok (.getfield 269, 3) := by decide +kernel
theorem dX8_right_55 : decode cX8_right 55 = .ok (.iload_n 2, 1) := by decide +kernel
theorem dX8_right_56 : decode cX8_right 56 = .ok (.iaload, 1) := by decide +kernel
theorem dX8_right_57 : decode cX8_right 57 = .ok (.istore 4, 2) := by decide +kernel
theorem dX8_right_59 : decode cX8_right 59 = .ok (.iload 4, 2) := by decide +kernel
theorem dX8_right_61 : decode cX8_right 61 = .ok (.iload_n 1, 1) := by decide +kernel
theorem dX8_right_62 : decode cX8_right 62 = .ok (.ishr, 1) := by decide +kernel
theorem dX8_right_63 : decode cX8_right 63 = .ok (.iconst 1, 1) := by decide +kernel
theorem dX8_right_64 : decode cX8_right 64 = .ok (.iand, 1) := by decide +kernel
theorem dX8_right_65 : decode cX8_right 65 = .ok (.ifCond .ne 5, 3) := by decide +kernel
theorem dX8_right_68 : decode cX8_right 68 = .ok (.iconst 2, 1) := by decide +kernel
theorem dX8_right_69 : decode cX8_right 69 = .ok (.ireturn, 1) := by decide +kernel
theorem dX8_right_70 : decode cX8_right 70 = .ok (.iload_n 2, 1) := by decide +kernel
theorem dX8_right_71 : decode cX8_right 71 = .ok (.aload_n 0, 1) := by decide +kernel
theorem dX8_right_72 : decode cX8_right 72 = .ok (.getfield 57, 3) := by decide +kernel
theorem dX8_right_75 : decode cX8_right 75 = .ok (.if_icmp .ne 13, 3) := by decide +kernel
theorem dX8_right_78 : decode cX8_right 78 = .ok (.aload_n 0, 1) := by decide +kernel
theorem dX8_right_79 : decode cX8_right 79 = .ok (.getfield 10, 3) := by decide +kernel
theorem dX8_right_82 : decode cX8_right 82 = .ok (.invokevirtual 90, 3) := by decide +kernel
theorem dX8_right_85 : decode cX8_right 85 = .ok (.goto 12, 3) := by decide +kernel
theorem dX8_right_88 : decode cX8_right 88 = .ok (.aload_n 0, 1) := by decide +kernel
theorem dX8_right_89 : decode cX8_right 89 = .ok (.getfield 46, 3) := by decide +kernel
theorem dX8_right_92 : decode cX8_right 92 = .ok (.getfield 272, 3) := by decide +kernel
theorem dX8_right_95 : decode cX8_right 95 = .ok (.iload_n 2, 1) := by decide +kernel
theorem dX8_right_96 : decode cX8_right 96 = .ok (.iaload, 1) := by decide +kernel
theorem dX8_right_97 : decode cX8_right 97 = .ok (.istore 5, 2) := by decide +kernel
theorem dX8_right_99 : decode cX8_right 99 = .ok (.aload_n 0, 1) := by decide +kernel
theorem dX8_right_100 : decode cX8_right 100 = .ok (.getfield 20, 3) := by decide +kernel
theorem dX8_right_103 : decode cX8_right 103 = .ok (.aload_n 0, 1) := by decide +kernel
theorem dX8_right_104 : decode cX8_right 104 = .ok (.getfield 30, 3) := by decide +kernel
theorem dX8_right_107 : decode cX8_right 107 = .ok (.getfield 219, 3) := by decide +kernel
theorem dX8_right_110 : decode cX8_right 110 = .ok (.iload_n 1, 1) := by decide +kernel
theorem dX8_right_111 : decode cX8_right 111 = .ok (.iaload, 1) := by decide +kernel
theorem dX8_right_112 : decode cX8_right 112 = .ok (.iload 5, 2) := by decide +kernel
theorem dX8_right_114 : decode cX8_right 114 = .ok (.aload_n 0, 1) := by decide +kernel
theorem dX8_right_115 : decode cX8_right 115 = .ok (.getfield 20, 3) := by decide +kernel
theorem dX8_right_118 : decode cX8_right 118 = .ok (.iload_n 3, 1) := by decide +kernel
theorem dX8_right_119 : decode cX8_right 119 = .ok (.invokevirtual 275, 3) := by decide +kernel
theorem dX8_right_122 : decode cX8_right 122 = .ok (.aload_n 0, 1) := by decide +kernel
theorem dX8_right_123 : decode cX8_right 123 = .ok (.getfield 25, 3) := by decide +kernel
theorem dX8_right_126 : decode cX8_right 126 = .ok (.iload_n 2, 1) := by decide +kernel
theorem dX8_right_127 : decode cX8_right 127 = .ok (.invokevirtual 114, 3) := by decide +kernel
theorem dX8_right_130 : decode cX8_right 130 = .ok (.invokevirtual 119, 3) := by decide +kernel
theorem dX8_right_133 : decode cX8_right 133 = .ok (.ifCond .eq 7, 3) := by decide +kernel
theorem dX8_right_136 : decode cX8_right 136 = .ok (.iconst 1, 1) := by decide +kernel
theorem dX8_right_137 : decode cX8_right 137 = .ok (.goto 4, 3) := by decide +kernel
theorem dX8_right_140 : decode cX8_right 140 = .ok (.iconst 0, 1) := by decide +kernel
theorem dX8_right_141 : decode cX8_right 141 = .ok (.ireturn, 1) := by decide +kernel
theorem dX8_order_0 : decode cX8_order 0 = .ok (.aload_n 0, 1) := by decide +kernel
theorem dX8_order_1 : decode cX8_order 1 = .ok (.getfield 53, 3) := by decide +kernel
theorem dX8_order_4 : decode cX8_order 4 = .ok (.aload_n 0, 1) := by decide +kernel
theorem dX8_order_5 : decode cX8_order 5 = .ok (.getfield 30, 3) := by decide +kernel
theorem dX8_order_8 : decode cX8_order 8 = .ok (.aload_n 0, 1) := by decide +kernel
theorem dX8_order_9 : decode cX8_order 9 = .ok (.getfield 10, 3) := by decide +kernel
theorem dX8_order_12 : decode cX8_order 12 = .ok (.invokevirtual 90, 3) := by decide +kernel
theorem dX8_order_15 : decode cX8_order 15 = .ok (.invokevirtual 278, 3) := by decide +kernel
theorem dX8_order_18 : decode cX8_order 18 = .ok (.ireturn, 1) := by decide +kernel
theorem dX8_ordered_0 : decode cX8_ordered 0 = .ok (.iload_n 1, 1) := by decide +kernel
theorem dX8_ordered_1 : decode cX8_ordered 1 = .ok (.ifCond .lt 14, 3) := by decide +kernel
theorem dX8_ordered_4 : decode cX8_ordered 4 = .ok (.iload_n 1, 1) := by decide +kernel
theorem dX8_ordered_5 : decode cX8_ordered 5 = .ok (.aload_n 0, 1) := by decide +kernel
theorem dX8_ordered_6 : decode cX8_ordered 6 = .ok (.getfield 53, 3) := by decide +kernel
theorem dX8_ordered_9 : decode cX8_ordered 9 = .ok (.getfield 282, 3) := by decide +kernel
theorem dX8_ordered_12 : decode cX8_ordered 12 = .ok (.if_icmp .lt 6, 3) := by decide +kernel
theorem dX8_ordered_15 : decode cX8_ordered 15 = .ok (.bipush (-3), 2) := by decide +kernel
theorem dX8_ordered_17 : decode cX8_ordered 17 = .ok (.ireturn, 1) := by decide +kernel
theorem dX8_ordered_18 : decode cX8_ordered 18 = .ok (.aload_n 0, 1) := by decide +kernel
theorem dX8_ordered_19 : decode cX8_ordered 19 = .ok (.getfield 53, 3) := by decide +kernel
theorem dX8_ordered_22 : decode cX8_ordered 22 = .ok (.getfield 285, 3) := by decide +kernel
theorem dX8_ordered_25 : decode cX8_ordered 25 = .ok (.iload_n 1, 1) := by decide +kernel
theorem dX8_ordered_26 : decode cX8_ordered 26 = .ok (.iaload, 1) := by decide +kernel
theorem dX8_ordered_27 : decode cX8_ordered 27 = .ok (.ireturn, 1) := by decide +kernel
theorem dX8_row_0 : decode cX8_row 0 = .ok (.iload_n 2, 1) := by decide +kernel
theorem dX8_row_1 : decode cX8_row 1 = .ok (.ifCond .lt 8, 3) := by decide +kernel
theorem dX8_row_4 : decode cX8_row 4 = .ok (.iload_n 2, 1) := by decide +kernel
theorem dX8_row_5 : decode cX8_row 5 = .ok (.iconst 3, 1) := by decide +kernel
theorem dX8_row_6 : decode cX8_row 6 = .ok (.if_icmp .lt 5, 3) := by decide +kernel
theorem dX8_row_9 : decode cX8_row 9 = .ok (.iconst (-1), 1) := by decide +kernel
theorem dX8_row_10 : decode cX8_row 10 = .ok (.ireturn, 1) := by decide +kernel
theorem dX8_row_11 : decode cX8_row 11 = .ok (.iload_n 1, 1) := by decide +kernel
theorem dX8_row_12 : decode cX8_row 12 = .ok (.ifCond .lt 14, 3) := by decide +kernel
theorem dX8_row_15 : decode cX8_row 15 = .ok (.iload_n 1, 1) := by decide +kernel
theorem dX8_row_16 : decode cX8_row 16 = .ok (.aload_n 0, 1) := by decide +kernel
theorem dX8_row_17 : decode cX8_row 17 = .ok (.getfield 53, 3) := by decide +kernel
theorem dX8_row_20 : decode cX8_row 20 = .ok (.getfield 288, 3) := by decide +kernel
theorem dX8_row_23 : decode cX8_row 23 = .ok (.if_icmp .lt 6, 3) := by decide +kernel
theorem dX8_row_26 : decode cX8_row 26 = .ok (.bipush (-3), 2) := by decide +kernel
theorem dX8_row_28 : decode cX8_row 28 = .ok (.ireturn, 1) := by decide +kernel
theorem dX8_row_29 : decode cX8_row 29 = .ok (.aload_n 0, 1) := by decide +kernel
theorem dX8_row_30 : decode cX8_row 30 = .ok (.getfield 53, 3) := by decide +kernel
theorem dX8_row_33 : decode cX8_row 33 = .ok (.getfield 291, 3) := by decide +kernel
theorem dX8_row_36 : decode cX8_row 36 = .ok (.iload_n 1, 1) := by decide +kernel
theorem dX8_row_37 : decode cX8_row 37 = .ok (.iconst 3, 1) := by decide +kernel
theorem dX8_row_38 : decode cX8_row 38 = .ok (.imul, 1) := by decide +kernel
theorem dX8_row_39 : decode cX8_row 39 = .ok (.iload_n 2, 1) := by decide +kernel
theorem dX8_row_40 : decode cX8_row 40 = .ok (.iadd, 1) := by decide +kernel
theorem dX8_row_41 : decode cX8_row 41 = .ok (.iaload, 1) := by decide +kernel
theorem dX8_row_42 : decode cX8_row 42 = .ok (.ireturn, 1) := by decide +kernel
theorem dX8_alter_0 : decode cX8_alter 0 = .ok (.iload_n 2, 1) := by decide +kernel
theorem dX8_alter_1 : decode cX8_alter 1 = .ok (.ifCond .lt 8, 3) := by decide +kernel
theorem dX8_alter_4 : decode cX8_alter 4 = .ok (.iload_n 2, 1) := by decide +kernel
theorem dX8_alter_5 : decode cX8_alter 5 = .ok (.iconst 3, 1) := by decide +kernel
theorem dX8_alter_6 : decode cX8_alter 6 = .ok (.if_icmp .lt 5, 3) := by decide +kernel
theorem dX8_alter_9 : decode cX8_alter 9 = .ok (.iconst (-1), 1) := by decide +kernel
theorem dX8_alter_10 : decode cX8_alter 10 = .ok (.ireturn, 1) := by decide +kernel
theorem dX8_alter_11 : decode cX8_alter 11 = .ok (.iload_n 1, 1) := by decide +kernel
theorem dX8_alter_12 : decode cX8_alter 12 = .ok (.ifCond .lt 14, 3) := by decide +kernel
theorem dX8_alter_15 : decode cX8_alter 15 = .ok (.iload_n 1, 1) := by decide +kernel
theorem dX8_alter_16 : decode cX8_alter 16 = .ok (.aload_n 0, 1) := by decide +kernel
theorem dX8_alter_17 : decode cX8_alter 17 = .ok (.getfield 53, 3) := by decide +kernel
theorem dX8_alter_20 : decode cX8_alter 20 = .ok (.getfield 288, 3) := by decide +kernel
theorem dX8_alter_23 : decode cX8_alter 23 = .ok (.if_icmp .lt 6, 3) := by decide +kernel
theorem dX8_alter_26 : decode cX8_alter 26 = .ok (.bipush (-3), 2) := by decide +kernel
theorem dX8_alter_28 : decode cX8_alter 28 = .ok (.ireturn, 1) := by decide +kernel
theorem dX8_alter_29 : decode cX8_alter 29 = .ok (.aload_n 0, 1) := by decide +kernel
theorem dX8_alter_30 : decode cX8_alter 30 = .ok (.getfield 53, 3) := by decide +kernel
theorem dX8_alter_33 : decode cX8_alter 33 = .ok (.getfield 291, 3) := by decide +kernel
theorem dX8_alter_36 : decode cX8_alter 36 = .ok (.iload_n 1, 1) := by decide +kernel
theorem dX8_alter_37 : decode cX8_alter 37 = .ok (.iconst 3, 1) := by decide +kernel
theorem dX8_alter_38 : decode cX8_alter 38 = .ok (.imul, 1) := by decide +kernel
theorem dX8_alter_39 : decode cX8_alter 39 = .ok (.iload_n 2, 1) := by decide +kernel
theorem dX8_alter_40 : decode cX8_alter 40 = .ok (.iadd, 1) := by decide +kernel
theorem dX8_alter_41 : decode cX8_alter 41 = .ok (.iaload, 1) := by decide +kernel
theorem dX8_alter_42 : decode cX8_alter 42 = .ok (.istore 4, 2) := by decide +kernel
theorem dX8_alter_44 : decode cX8_alter 44 = .ok (.aload_n 0, 1) := by decide +kernel
theorem dX8_alter_45 : decode cX8_alter 45 = .ok (.getfield 53, 3) := by decide +kernel
theorem dX8_alter_48 : decode cX8_alter 48 = .ok (.getfield 291, 3) := by decide +kernel
theorem dX8_alter_51 : decode cX8_alter 51 = .ok (.iload_n 1, 1) := by decide +kernel
theorem dX8_alter_52 : decode cX8_alter 52 = .ok (.iconst 3, 1) := by decide +kernel
theorem dX8_alter_53 : decode cX8_alter 53 = .ok (.imul, 1) := by decide +kernel
theorem dX8_alter_54 : decode cX8_alter 54 = .ok (.iload_n 2, 1) := by decide +kernel
theorem dX8_alter_55 : decode cX8_alter 55 = .ok (.iadd, 1) := by decide +kernel
theorem dX8_alter_56 : decode cX8_alter 56 = .ok (.iload_n 3, 1) := by decide +kernel
theorem dX8_alter_57 : decode cX8_alter 57 = .ok (.iastore, 1) := by decide +kernel
theorem dX8_alter_58 : decode cX8_alter 58 = .ok (.iload 4, 2) := by decide +kernel
theorem dX8_alter_60 : decode cX8_alter 60 = .ok (.ireturn, 1) := by decide +kernel
theorem dX8_drop_0 : decode cX8_drop 0 = .ok (.aload_n 0, 1) := by decide +kernel
theorem dX8_drop_1 : decode cX8_drop 1 = .ok (.getfield 53, 3) := by decide +kernel
theorem dX8_drop_4 : decode cX8_drop 4 = .ok (.getfield 288, 3) := by decide +kernel
theorem dX8_drop_7 : decode cX8_drop 7 = .ok (.ifCond .ne 6, 3) := by decide +kernel
theorem dX8_drop_10 : decode cX8_drop 10 = .ok (.bipush (-3), 2) := by decide +kernel
theorem dX8_drop_12 : decode cX8_drop 12 = .ok (.ireturn, 1) := by decide +kernel
theorem dX8_drop_13 : decode cX8_drop 13 = .ok (.aload_n 0, 1) := by decide +kernel
theorem dX8_drop_14 : decode cX8_drop 14 = .ok (.getfield 53, 3) := by decide +kernel
theorem dX8_drop_17 : decode cX8_drop 17 = .ok (.dup, 1) := by decide +kernel
theorem dX8_drop_18 : decode cX8_drop 18 = .ok (.getfield 288, 3) := by decide +kernel
theorem dX8_drop_21 : decode cX8_drop 21 = .ok (.iconst 1, 1) := by decide +kernel
theorem dX8_drop_22 : decode cX8_drop 22 = .ok (.isub, 1) := by decide +kernel
theorem dX8_drop_23 : decode cX8_drop 23 = .ok (.putfield 288, 3) := by decide +kernel
theorem dX8_drop_26 : decode cX8_drop 26 = .ok (.aload_n 0, 1) := by decide +kernel
theorem dX8_drop_27 : decode cX8_drop 27 = .ok (.getfield 53, 3) := by decide +kernel
theorem dX8_drop_30 : decode cX8_drop 30 = .ok (.getfield 288, 3) := by decide +kernel
theorem dX8_drop_33 : decode cX8_drop 33 = .ok (.ireturn, 1) := by decide +kernel
theorem dX8_check_0 : decode cX8_check 0 = .ok (.aload_n 0, 1) := by decide +kernel
theorem dX8_check_1 : decode cX8_check 1 = .ok (.getfield 53, 3) := by decide +kernel
theorem dX8_check_4 : decode cX8_check 4 = .ok (.getfield 294, 3) := by decide +kernel
theorem dX8_check_7 : decode cX8_check 7 = .ok (.ifCond .eq 13, 3) := by decide +kernel
theorem dX8_check_10 : decode cX8_check 10 = .ok (.aload_n 0, 1) := by decide +kernel
theorem dX8_check_11 : decode cX8_check 11 = .ok (.getfield 53, 3) := by decide +kernel
theorem dX8_check_14 : decode cX8_check 14 = .ok (.invokevirtual 298, 3) := by decide +kernel
theorem dX8_check_17 : decode cX8_check 17 = .ok (.goto 5, 3) := by decide +kernel
theorem dX8_check_20 : decode cX8_check 20 = .ok (.bipush (-3), 2) := by decide +kernel
theorem dX8_check_22 : decode cX8_check 22 = .ok (.ireturn, 1) := by decide +kernel
theorem dX8_many_0 : decode cX8_many 0 = .ok (.iload_n 1, 1) := by decide +kernel
theorem dX8_many_1 : decode cX8_many 1 = .ok (.tableswitch 154 0 10 #[59, 64, 72, 80, 88, 100, 111, 119, 130, 138, 146], 59) := by decide +kernel
theorem dX8_many_60 : decode cX8_many 60 = .ok (.aload_n 0, 1) := by decide +kernel
theorem dX8_many_61 : decode cX8_many 61 = .ok (.getfield 57, 3) := by decide +kernel
theorem dX8_many_64 : decode cX8_many 64 = .ok (.ireturn, 1) := by decide +kernel
theorem dX8_many_65 : decode cX8_many 65 = .ok (.aload_n 0, 1) := by decide +kernel
theorem dX8_many_66 : decode cX8_many 66 = .ok (.getfield 20, 3) := by decide +kernel
theorem dX8_many_69 : decode cX8_many 69 = .ok (.getfield 65, 3) := by decide +kernel
theorem dX8_many_72 : decode cX8_many 72 = .ok (.ireturn, 1) := by decide +kernel
theorem dX8_many_73 : decode cX8_many 73 = .ok (.aload_n 0, 1) := by decide +kernel
theorem dX8_many_74 : decode cX8_many 74 = .ok (.getfield 25, 3) := by decide +kernel
theorem dX8_many_77 : decode cX8_many 77 = .ok (.getfield 151, 3) := by decide +kernel
theorem dX8_many_80 : decode cX8_many 80 = .ok (.ireturn, 1) := by decide +kernel
theorem dX8_many_81 : decode cX8_many 81 = .ok (.aload_n 0, 1) := by decide +kernel
theorem dX8_many_82 : decode cX8_many 82 = .ok (.getfield 30, 3) := by decide +kernel
theorem dX8_many_85 : decode cX8_many 85 = .ok (.getfield 179, 3) := by decide +kernel
theorem dX8_many_88 : decode cX8_many 88 = .ok (.ireturn, 1) := by decide +kernel
theorem dX8_many_89 : decode cX8_many 89 = .ok (.aload_n 0, 1) := by decide +kernel
theorem dX8_many_90 : decode cX8_many 90 = .ok (.getfield 30, 3) := by decide +kernel
theorem dX8_many_93 : decode cX8_many 93 = .ok (.iconst 3, 1) := by decide +kernel
theorem dX8_many_94 : decode cX8_many 94 = .ok (.invokevirtual 131, 3) := by decide +kernel
theorem dX8_many_97 : decode cX8_many 97 = .ok (.invokestatic 200, 3) := by decide +kernel
theorem dX8_many_100 : decode cX8_many 100 = .ok (.ireturn, 1) := by decide +kernel
theorem dX8_many_101 : decode cX8_many 101 = .ok (.aload_n 0, 1) := by decide +kernel
theorem dX8_many_102 : decode cX8_many 102 = .ok (.getfield 10, 3) := by decide +kernel
theorem dX8_many_105 : decode cX8_many 105 = .ok (.invokevirtual 90, 3) := by decide +kernel
theorem dX8_many_108 : decode cX8_many 108 = .ok (.invokestatic 200, 3) := by decide +kernel
theorem dX8_many_111 : decode cX8_many 111 = .ok (.ireturn, 1) := by decide +kernel
theorem dX8_many_112 : decode cX8_many 112 = .ok (.aload_n 0, 1) := by decide +kernel
theorem dX8_many_113 : decode cX8_many 113 = .ok (.getfield 35, 3) := by decide +kernel
theorem dX8_many_116 : decode cX8_many 116 = .ok (.invokevirtual 301, 3) := by decide +kernel
theorem dX8_many_119 : decode cX8_many 119 = .ok (.ireturn, 1) := by decide +kernel
theorem dX8_many_120 : decode cX8_many 120 = .ok (.aload_n 0, 1) := by decide +kernel
theorem dX8_many_121 : decode cX8_many 121 = .ok (.getfield 35, 3) := by decide +kernel
theorem dX8_many_124 : decode cX8_many 124 = .ok (.getfield 304, 3) := by decide +kernel
theorem dX8_many_127 : decode cX8_many 127 = .ok (.invokestatic 200, 3) := by decide +kernel
theorem dX8_many_130 : decode cX8_many 130 = .ok (.ireturn, 1) := by decide +kernel
theorem dX8_many_131 : decode cX8_many 131 = .ok (.aload_n 0, 1) := by decide +kernel
theorem dX8_many_132 : decode cX8_many 132 = .ok (.getfield 39, 3) := by decide +kernel
theorem dX8_many_135 : decode cX8_many 135 = .ok (.getfield 138, 3) := by decide +kernel
theorem dX8_many_138 : decode cX8_many 138 = .ok (.ireturn, 1) := by decide +kernel
theorem dX8_many_139 : decode cX8_many 139 = .ok (.aload_n 0, 1) := by decide +kernel
theorem dX8_many_140 : decode cX8_many 140 = .ok (.getfield 53, 3) := by decide +kernel
theorem dX8_many_143 : decode cX8_many 143 = .ok (.getfield 288, 3) := by decide +kernel
theorem dX8_many_146 : decode cX8_many 146 = .ok (.ireturn, 1) := by decide +kernel
theorem dX8_many_147 : decode cX8_many 147 = .ok (.aload_n 0, 1) := by decide +kernel
theorem dX8_many_148 : decode cX8_many 148 = .ok (.getfield 30, 3) := by decide +kernel
theorem dX8_many_151 : decode cX8_many 151 = .ok (.invokevirtual 307, 3) := by decide +kernel
theorem dX8_many_154 : decode cX8_many 154 = .ok (.ireturn, 1) := by decide +kernel
theorem dX8_many_155 : decode cX8_many 155 = .ok (.iconst (-1), 1) := by decide +kernel
theorem dX8_many_156 : decode cX8_many 156 = .ok (.ireturn, 1) := by decide +kernel
theorem dX8_isPlace_0 : decode cX8_isPlace 0 = .ok (.iload_n 0, 1) := by decide +kernel
theorem dX8_isPlace_1 : decode cX8_isPlace 1 = .ok (.ifCond .lt 13, 3) := by decide +kernel
theorem dX8_isPlace_4 : decode cX8_isPlace 4 = .ok (.iload_n 0, 1) := by decide +kernel
theorem dX8_isPlace_5 : decode cX8_isPlace 5 = .ok (.bipush 10, 2) := by decide +kernel
theorem dX8_isPlace_7 : decode cX8_isPlace 7 = .ok (.if_icmp .ge 7, 3) := by decide +kernel
theorem dX8_isPlace_10 : decode cX8_isPlace 10 = .ok (.iconst 1, 1) := by decide +kernel
theorem dX8_isPlace_11 : decode cX8_isPlace 11 = .ok (.goto 4, 3) := by decide +kernel
theorem dX8_isPlace_14 : decode cX8_isPlace 14 = .ok (.iconst 0, 1) := by decide +kernel
theorem dX8_isPlace_15 : decode cX8_isPlace 15 = .ok (.ireturn, 1) := by decide +kernel
theorem dX8_isMan_0 : decode cX8_isMan 0 = .ok (.iload_n 0, 1) := by decide +kernel
theorem dX8_isMan_1 : decode cX8_isMan 1 = .ok (.ifCond .lt 13, 3) := by decide +kernel
theorem dX8_isMan_4 : decode cX8_isMan 4 = .ok (.iload_n 0, 1) := by decide +kernel
theorem dX8_isMan_5 : decode cX8_isMan 5 = .ok (.bipush 8, 2) := by decide +kernel
theorem dX8_isMan_7 : decode cX8_isMan 7 = .ok (.if_icmp .ge 7, 3) := by decide +kernel
theorem dX8_isMan_10 : decode cX8_isMan 10 = .ok (.iconst 1, 1) := by decide +kernel
theorem dX8_isMan_11 : decode cX8_isMan 11 = .ok (.goto 4, 3) := by decide +kernel
theorem dX8_isMan_14 : decode cX8_isMan 14 = .ok (.iconst 0, 1) := by decide +kernel
theorem dX8_isMan_15 : decode cX8_isMan 15 = .ok (.ireturn, 1) := by decide +kernel
theorem dX8_isPast_0 : decode cX8_isPast 0 = .ok (.iload_n 1, 1) := by decide +kernel
theorem dX8_isPast_1 : decode cX8_isPast 1 = .ok (.ifCond .lt 15, 3) := by decide +kernel
theorem dX8_isPast_4 : decode cX8_isPast 4 = .ok (.iload_n 1, 1) := by decide +kernel
theorem dX8_isPast_5 : decode cX8_isPast 5 = .ok (.aload_n 0, 1) := by decide +kernel
theorem dX8_isPast_6 : decode cX8_isPast 6 = .ok (.getfield 57, 3) := by decide +kernel
theorem dX8_isPast_9 : decode cX8_isPast 9 = .ok (.if_icmp .gt 7, 3) := by decide +kernel
theorem dX8_isPast_12 : decode cX8_isPast 12 = .ok (.iconst 1, 1) := by decide +kernel
theorem dX8_isPast_13 : decode cX8_isPast 13 = .ok (.goto 4, 3) := by decide +kernel
theorem dX8_isPast_16 : decode cX8_isPast 16 = .ok (.iconst 0, 1) := by decide +kernel
theorem dX8_isPast_17 : decode cX8_isPast 17 = .ok (.ireturn, 1) := by decide +kernel
theorem dX8_refusalOf_0 : decode cX8_refusalOf 0 = .ok (.aload_n 0, 1) := by decide +kernel
theorem dX8_refusalOf_1 : decode cX8_refusalOf 1 = .ok (.getfield 30, 3) := by decide +kernel
theorem dX8_refusalOf_4 : decode cX8_refusalOf 4 = .ok (.iload_n 1, 1) := by decide +kernel
theorem dX8_refusalOf_5 : decode cX8_refusalOf 5 = .ok (.invokevirtual 182, 3) := by decide +kernel
theorem dX8_refusalOf_8 : decode cX8_refusalOf 8 = .ok (.ifCond .ne 5, 3) := by decide +kernel
theorem dX8_refusalOf_11 : decode cX8_refusalOf 11 = .ok (.iconst (-1), 1) := by decide +kernel
theorem dX8_refusalOf_12 : decode cX8_refusalOf 12 = .ok (.ireturn, 1) := by decide +kernel
theorem dX8_refusalOf_13 : decode cX8_refusalOf 13 = .ok (.aload_n 0, 1) := by decide +kernel
theorem dX8_refusalOf_14 : decode cX8_refusalOf 14 = .ok (.getfield 10, 3) := by decide +kernel
theorem dX8_refusalOf_17 : decode cX8_refusalOf 17 = .ok (.iload_n 1, 1) := by decide +kernel
theorem dX8_refusalOf_18 : decode cX8_refusalOf 18 = .ok (.iload_n 2, 1) := by decide +kernel
theorem dX8_refusalOf_19 : decode cX8_refusalOf 19 = .ok (.aload_n 0, 1) := by decide +kernel
theorem dX8_refusalOf_20 : decode cX8_refusalOf 20 = .ok (.getfield 57, 3) := by decide +kernel
theorem dX8_refusalOf_23 : decode cX8_refusalOf 23 = .ok (.invokevirtual 213, 3) := by decide +kernel
theorem dX8_refusalOf_26 : decode cX8_refusalOf 26 = .ok (.istore_n 3, 1) := by decide +kernel
theorem dX8_refusalOf_27 : decode cX8_refusalOf 27 = .ok (.iload_n 3, 1) := by decide +kernel
theorem dX8_refusalOf_28 : decode cX8_refusalOf 28 = .ok (.ifCond .ne 7, 3) := by decide +kernel
theorem dX8_refusalOf_31 : decode cX8_refusalOf 31 = .ok (.iconst 0, 1) := by decide +kernel
theorem dX8_refusalOf_32 : decode cX8_refusalOf 32 = .ok (.goto 7, 3) := by decide +kernel
theorem dX8_refusalOf_35 : decode cX8_refusalOf 35 = .ok (.bipush (-10), 2) := by decide +kernel
theorem dX8_refusalOf_37 : decode cX8_refusalOf 37 = .ok (.iload_n 3, 1) := by decide +kernel
theorem dX8_refusalOf_38 : decode cX8_refusalOf 38 = .ok (.isub, 1) := by decide +kernel
theorem dX8_refusalOf_39 : decode cX8_refusalOf 39 = .ok (.ireturn, 1) := by decide +kernel
theorem dJ6_bitCount_0f7a4_0 : decode cJ6_bitCount_0f7a4 0 = .ok (.iload_n 0, 1) := by decide +kernel
theorem dJ6_bitCount_0f7a4_1 : decode cJ6_bitCount_0f7a4 1 = .ok (.iload_n 0, 1) := by decide +kernel
theorem dJ6_bitCount_0f7a4_2 : decode cJ6_bitCount_0f7a4 2 = .ok (.iconst 1, 1) := by decide +kernel
theorem dJ6_bitCount_0f7a4_3 : decode cJ6_bitCount_0f7a4 3 = .ok (.iushr, 1) := by decide +kernel
theorem dJ6_bitCount_0f7a4_4 : decode cJ6_bitCount_0f7a4 4 = .ok (.ldc_w 265, 3) := by decide +kernel
theorem dJ6_bitCount_0f7a4_7 : decode cJ6_bitCount_0f7a4 7 = .ok (.iand, 1) := by decide +kernel
theorem dJ6_bitCount_0f7a4_8 : decode cJ6_bitCount_0f7a4 8 = .ok (.isub, 1) := by decide +kernel
theorem dJ6_bitCount_0f7a4_9 : decode cJ6_bitCount_0f7a4 9 = .ok (.istore_n 0, 1) := by decide +kernel
theorem dJ6_bitCount_0f7a4_10 : decode cJ6_bitCount_0f7a4 10 = .ok (.iload_n 0, 1) := by decide +kernel
theorem dJ6_bitCount_0f7a4_11 : decode cJ6_bitCount_0f7a4 11 = .ok (.ldc_w 266, 3) := by decide +kernel
theorem dJ6_bitCount_0f7a4_14 : decode cJ6_bitCount_0f7a4 14 = .ok (.iand, 1) := by decide +kernel
theorem dJ6_bitCount_0f7a4_15 : decode cJ6_bitCount_0f7a4 15 = .ok (.iload_n 0, 1) := by decide +kernel
theorem dJ6_bitCount_0f7a4_16 : decode cJ6_bitCount_0f7a4 16 = .ok (.iconst 2, 1) := by decide +kernel
theorem dJ6_bitCount_0f7a4_17 : decode cJ6_bitCount_0f7a4 17 = .ok (.iushr, 1) := by decide +kernel
theorem dJ6_bitCount_0f7a4_18 : decode cJ6_bitCount_0f7a4 18 = .ok (.ldc_w 266, 3) := by decide +kernel
theorem dJ6_bitCount_0f7a4_21 : decode cJ6_bitCount_0f7a4 21 = .ok (.iand, 1) := by decide +kernel
theorem dJ6_bitCount_0f7a4_22 : decode cJ6_bitCount_0f7a4 22 = .ok (.iadd, 1) := by decide +kernel
theorem dJ6_bitCount_0f7a4_23 : decode cJ6_bitCount_0f7a4 23 = .ok (.istore_n 0, 1) := by decide +kernel
theorem dJ6_bitCount_0f7a4_24 : decode cJ6_bitCount_0f7a4 24 = .ok (.iload_n 0, 1) := by decide +kernel
theorem dJ6_bitCount_0f7a4_25 : decode cJ6_bitCount_0f7a4 25 = .ok (.iload_n 0, 1) := by decide +kernel
theorem dJ6_bitCount_0f7a4_26 : decode cJ6_bitCount_0f7a4 26 = .ok (.iconst 4, 1) := by decide +kernel
theorem dJ6_bitCount_0f7a4_27 : decode cJ6_bitCount_0f7a4 27 = .ok (.iushr, 1) := by decide +kernel
theorem dJ6_bitCount_0f7a4_28 : decode cJ6_bitCount_0f7a4 28 = .ok (.iadd, 1) := by decide +kernel
theorem dJ6_bitCount_0f7a4_29 : decode cJ6_bitCount_0f7a4 29 = .ok (.ldc_w 267, 3) := by decide +kernel
theorem dJ6_bitCount_0f7a4_32 : decode cJ6_bitCount_0f7a4 32 = .ok (.iand, 1) := by decide +kernel
theorem dJ6_bitCount_0f7a4_33 : decode cJ6_bitCount_0f7a4 33 = .ok (.istore_n 0, 1) := by decide +kernel
theorem dJ6_bitCount_0f7a4_34 : decode cJ6_bitCount_0f7a4 34 = .ok (.iload_n 0, 1) := by decide +kernel
theorem dJ6_bitCount_0f7a4_35 : decode cJ6_bitCount_0f7a4 35 = .ok (.iload_n 0, 1) := by decide +kernel
theorem dJ6_bitCount_0f7a4_36 : decode cJ6_bitCount_0f7a4 36 = .ok (.bipush 8, 2) := by decide +kernel
theorem dJ6_bitCount_0f7a4_38 : decode cJ6_bitCount_0f7a4 38 = .ok (.iushr, 1) := by decide +kernel
theorem dJ6_bitCount_0f7a4_39 : decode cJ6_bitCount_0f7a4 39 = .ok (.iadd, 1) := by decide +kernel
theorem dJ6_bitCount_0f7a4_40 : decode cJ6_bitCount_0f7a4 40 = .ok (.istore_n 0, 1) := by decide +kernel
theorem dJ6_bitCount_0f7a4_41 : decode cJ6_bitCount_0f7a4 41 = .ok (.iload_n 0, 1) := by decide +kernel
theorem dJ6_bitCount_0f7a4_42 : decode cJ6_bitCount_0f7a4 42 = .ok (.iload_n 0, 1) := by decide +kernel
theorem dJ6_bitCount_0f7a4_43 : decode cJ6_bitCount_0f7a4 43 = .ok (.bipush 16, 2) := by decide +kernel
theorem dJ6_bitCount_0f7a4_45 : decode cJ6_bitCount_0f7a4 45 = .ok (.iushr, 1) := by decide +kernel
theorem dJ6_bitCount_0f7a4_46 : decode cJ6_bitCount_0f7a4 46 = .ok (.iadd, 1) := by decide +kernel
theorem dJ6_bitCount_0f7a4_47 : decode cJ6_bitCount_0f7a4 47 = .ok (.istore_n 0, 1) := by decide +kernel
theorem dJ6_bitCount_0f7a4_48 : decode cJ6_bitCount_0f7a4 48 = .ok (.iload_n 0, 1) := by decide +kernel
theorem dJ6_bitCount_0f7a4_49 : decode cJ6_bitCount_0f7a4 49 = .ok (.bipush 63, 2) := by decide +kernel
theorem dJ6_bitCount_0f7a4_51 : decode cJ6_bitCount_0f7a4 51 = .ok (.iand, 1) := by decide +kernel
theorem dJ6_bitCount_0f7a4_52 : decode cJ6_bitCount_0f7a4 52 = .ok (.ireturn, 1) := by decide +kernel
theorem dJ9_min_7cf53_0 : decode cJ9_min_7cf53 0 = .ok (.iload_n 0, 1) := by decide +kernel
theorem dJ9_min_7cf53_1 : decode cJ9_min_7cf53 1 = .ok (.iload_n 1, 1) := by decide +kernel
theorem dJ9_min_7cf53_2 : decode cJ9_min_7cf53 2 = .ok (.if_icmp .gt 7, 3) := by decide +kernel
theorem dJ9_min_7cf53_5 : decode cJ9_min_7cf53 5 = .ok (.iload_n 0, 1) := by decide +kernel
theorem dJ9_min_7cf53_6 : decode cJ9_min_7cf53 6 = .ok (.goto 4, 3) := by decide +kernel
theorem dJ9_min_7cf53_9 : decode cJ9_min_7cf53 9 = .ok (.iload_n 1, 1) := by decide +kernel
theorem dJ9_min_7cf53_10 : decode cJ9_min_7cf53 10 = .ok (.ireturn, 1) := by decide +kernel
theorem dJ0_length_8abf5_0 : decode cJ0_length_8abf5 0 = .ok (.aload_n 0, 1) := by decide +kernel
theorem dJ0_length_8abf5_1 : decode cJ0_length_8abf5 1 = .ok (.getfield 9, 3) := by decide +kernel
theorem dJ0_length_8abf5_4 : decode cJ0_length_8abf5 4 = .ok (.arraylength, 1) := by decide +kernel
theorem dJ0_length_8abf5_5 : decode cJ0_length_8abf5 5 = .ok (.aload_n 0, 1) := by decide +kernel
theorem dJ0_length_8abf5_6 : decode cJ0_length_8abf5 6 = .ok (.invokevirtual 335, 3) := by decide +kernel
theorem dJ0_length_8abf5_9 : decode cJ0_length_8abf5 9 = .ok (.ishr, 1) := by decide +kernel
theorem dJ0_length_8abf5_10 : decode cJ0_length_8abf5 10 = .ok (.ireturn, 1) := by decide +kernel
theorem dJ0_charAt_5068e_0 : decode cJ0_charAt_5068e 0 = .ok (.aload_n 0, 1) := by decide +kernel
theorem dJ0_charAt_5068e_1 : decode cJ0_charAt_5068e 1 = .ok (.invokevirtual 492, 3) := by decide +kernel
theorem dJ0_charAt_5068e_4 : decode cJ0_charAt_5068e 4 = .ok (.ifCond .eq 12, 3) := by decide +kernel
theorem dJ0_charAt_5068e_7 : decode cJ0_charAt_5068e 7 = .ok (.aload_n 0, 1) := by decide +kernel
theorem dJ0_charAt_5068e_8 : decode cJ0_charAt_5068e 8 = .ok (.getfield 9, 3) := by decide +kernel
theorem dJ0_charAt_5068e_11 : decode cJ0_charAt_5068e 11 = .ok (.iload_n 1, 1) := by decide +kernel
theorem dJ0_charAt_5068e_12 : decode cJ0_charAt_5068e 12 = .ok (.invokestatic 495, 3) := by decide +kernel
theorem dJ0_charAt_5068e_15 : decode cJ0_charAt_5068e 15 = .ok (.ireturn, 1) := by decide +kernel
theorem dJ0_charAt_5068e_16 : decode cJ0_charAt_5068e 16 = .ok (.aload_n 0, 1) := by decide +kernel
theorem dJ0_charAt_5068e_17 : decode cJ0_charAt_5068e 17 = .ok (.getfield 9, 3) := by decide +kernel
theorem dJ0_charAt_5068e_20 : decode cJ0_charAt_5068e 20 = .ok (.iload_n 1, 1) := by decide +kernel
theorem dJ0_charAt_5068e_21 : decode cJ0_charAt_5068e 21 = .ok (.invokestatic 498, 3) := by decide +kernel
theorem dJ0_charAt_5068e_24 : decode cJ0_charAt_5068e 24 = .ok (.ireturn, 1) := by decide +kernel
theorem dJ0_coder_7d493_0 : decode cJ0_coder_7d493 0 = .ok (.getstatic 38, 3) := by decide +kernel
theorem dJ0_coder_7d493_3 : decode cJ0_coder_7d493 3 = .ok (.ifCond .eq 10, 3) := by decide +kernel
theorem dJ0_coder_7d493_6 : decode cJ0_coder_7d493 6 = .ok (.aload_n 0, 1) := by decide +kernel
theorem dJ0_coder_7d493_7 : decode cJ0_coder_7d493 7 = .ok (.getfield 15, 3) := by decide +kernel
theorem dJ0_coder_7d493_10 : decode cJ0_coder_7d493 10 = .ok (.goto 4, 3) := by decide +kernel
theorem dJ0_coder_7d493_13 : decode cJ0_coder_7d493 13 = .ok (.iconst 1, 1) := by decide +kernel
theorem dJ0_coder_7d493_14 : decode cJ0_coder_7d493 14 = .ok (.ireturn, 1) := by decide +kernel
theorem dJ0_isLatin1_aae02_0 : decode cJ0_isLatin1_aae02 0 = .ok (.getstatic 38, 3) := by decide +kernel
theorem dJ0_isLatin1_aae02_3 : decode cJ0_isLatin1_aae02 3 = .ok (.ifCond .eq 14, 3) := by decide +kernel
theorem dJ0_isLatin1_aae02_6 : decode cJ0_isLatin1_aae02 6 = .ok (.aload_n 0, 1) := by decide +kernel
theorem dJ0_isLatin1_aae02_7 : decode cJ0_isLatin1_aae02 7 = .ok (.getfield 15, 3) := by decide +kernel
theorem dJ0_isLatin1_aae02_10 : decode cJ0_isLatin1_aae02 10 = .ok (.ifCond .ne 7, 3) := by decide +kernel
theorem dJ0_isLatin1_aae02_13 : decode cJ0_isLatin1_aae02 13 = .ok (.iconst 1, 1) := by decide +kernel
theorem dJ0_isLatin1_aae02_14 : decode cJ0_isLatin1_aae02 14 = .ok (.goto 4, 3) := by decide +kernel
theorem dJ0_isLatin1_aae02_17 : decode cJ0_isLatin1_aae02 17 = .ok (.iconst 0, 1) := by decide +kernel
theorem dJ0_isLatin1_aae02_18 : decode cJ0_isLatin1_aae02 18 = .ok (.ireturn, 1) := by decide +kernel
theorem dJ0_checkIndex_df160_0 : decode cJ0_checkIndex_df160 0 = .ok (.iload_n 0, 1) := by decide +kernel
theorem dJ0_checkIndex_df160_1 : decode cJ0_checkIndex_df160 1 = .ok (.iload_n 1, 1) := by decide +kernel
theorem dJ0_checkIndex_df160_2 : decode cJ0_checkIndex_df160 2 = .ok (.getstatic 1053, 3) := by decide +kernel
theorem dJ0_checkIndex_df160_5 : decode cJ0_checkIndex_df160 5 = .ok (.invokestatic 1059, 3) := by decide +kernel
theorem dJ0_checkIndex_df160_8 : decode cJ0_checkIndex_df160 8 = .ok (.pop, 1) := by decide +kernel
theorem dJ0_checkIndex_df160_9 : decode cJ0_checkIndex_df160 9 = .ok (.return_, 1) := by decide +kernel
theorem dJ1_charAt_3b067_0 : decode cJ1_charAt_3b067 0 = .ok (.iload_n 1, 1) := by decide +kernel
theorem dJ1_charAt_3b067_1 : decode cJ1_charAt_3b067 1 = .ok (.aload_n 0, 1) := by decide +kernel
theorem dJ1_charAt_3b067_2 : decode cJ1_charAt_3b067 2 = .ok (.arraylength, 1) := by decide +kernel
theorem dJ1_charAt_3b067_3 : decode cJ1_charAt_3b067 3 = .ok (.invokestatic 9, 3) := by decide +kernel
theorem dJ1_charAt_3b067_6 : decode cJ1_charAt_3b067 6 = .ok (.aload_n 0, 1) := by decide +kernel
theorem dJ1_charAt_3b067_7 : decode cJ1_charAt_3b067 7 = .ok (.iload_n 1, 1) := by decide +kernel
theorem dJ1_charAt_3b067_8 : decode cJ1_charAt_3b067 8 = .ok (.baload, 1) := by decide +kernel
theorem dJ1_charAt_3b067_9 : decode cJ1_charAt_3b067 9 = .ok (.sipush 255, 3) := by decide +kernel
theorem dJ1_charAt_3b067_12 : decode cJ1_charAt_3b067 12 = .ok (.iand, 1) := by decide +kernel
theorem dJ1_charAt_3b067_13 : decode cJ1_charAt_3b067 13 = .ok (.i2c, 1) := by decide +kernel
theorem dJ1_charAt_3b067_14 : decode cJ1_charAt_3b067 14 = .ok (.ireturn, 1) := by decide +kernel
theorem dJ2_getChar_3b067_0 : decode cJ2_getChar_3b067 0 = .ok (.getstatic 44, 3) := by decide +kernel
theorem dJ2_getChar_3b067_3 : decode cJ2_getChar_3b067 3 = .ok (.ifCond .ne 25, 3) := by decide +kernel
theorem dJ2_getChar_3b067_6 : decode cJ2_getChar_3b067 6 = .ok (.iload_n 1, 1) := by decide +kernel
theorem dJ2_getChar_3b067_7 : decode cJ2_getChar_3b067 7 = .ok (.ifCond .lt 11, 3) := by decide +kernel
theorem dJ2_getChar_3b067_10 : decode cJ2_getChar_3b067 10 = .ok (.iload_n 1, 1) := by decide +kernel
theorem dJ2_getChar_3b067_11 : decode cJ2_getChar_3b067 11 = .ok (.aload_n 0, 1) := by decide +kernel
theorem dJ2_getChar_3b067_12 : decode cJ2_getChar_3b067 12 = .ok (.invokestatic 48, 3) := by decide +kernel
theorem dJ2_getChar_3b067_15 : decode cJ2_getChar_3b067 15 = .ok (.if_icmp .lt 13, 3) := by decide +kernel
theorem dJ2_getChar_3b067_18 : decode cJ2_getChar_3b067 18 = .ok (.new 52, 3) := by decide +kernel
theorem dJ2_getChar_3b067_21 : decode cJ2_getChar_3b067 21 = .ok (.dup, 1) := by decide +kernel
theorem dJ2_getChar_3b067_22 : decode cJ2_getChar_3b067 22 = .ok (.ldc 54, 2) := by decide +kernel
theorem dJ2_getChar_3b067_24 : decode cJ2_getChar_3b067 24 = .ok (.invokespecial 56, 3) := by decide +kernel
theorem dJ2_getChar_3b067_27 : decode cJ2_getChar_3b067 27 = .ok (.athrow, 1) := by decide +kernel
theorem dJ2_getChar_3b067_28 : decode cJ2_getChar_3b067 28 = .ok (.iload_n 1, 1) := by decide +kernel
theorem dJ2_getChar_3b067_29 : decode cJ2_getChar_3b067 29 = .ok (.iconst 1, 1) := by decide +kernel
theorem dJ2_getChar_3b067_30 : decode cJ2_getChar_3b067 30 = .ok (.ishl, 1) := by decide +kernel
theorem dJ2_getChar_3b067_31 : decode cJ2_getChar_3b067 31 = .ok (.istore_n 1, 1) := by decide +kernel
theorem dJ2_getChar_3b067_32 : decode cJ2_getChar_3b067 32 = .ok (.aload_n 0, 1) := by decide +kernel
theorem dJ2_getChar_3b067_33 : decode cJ2_getChar_3b067 33 = .ok (.iload_n 1, 1) := by decide +kernel
theorem dJ2_getChar_3b067_34 : decode cJ2_getChar_3b067 34 = .ok (.iinc 1 1, 3) := by decide +kernel
theorem dJ2_getChar_3b067_37 : decode cJ2_getChar_3b067 37 = .ok (.baload, 1) := by decide +kernel
theorem dJ2_getChar_3b067_38 : decode cJ2_getChar_3b067 38 = .ok (.sipush 255, 3) := by decide +kernel
theorem dJ2_getChar_3b067_41 : decode cJ2_getChar_3b067 41 = .ok (.iand, 1) := by decide +kernel
theorem dJ2_getChar_3b067_42 : decode cJ2_getChar_3b067 42 = .ok (.getstatic 59, 3) := by decide +kernel
theorem dJ2_getChar_3b067_45 : decode cJ2_getChar_3b067 45 = .ok (.ishl, 1) := by decide +kernel
theorem dJ2_getChar_3b067_46 : decode cJ2_getChar_3b067 46 = .ok (.aload_n 0, 1) := by decide +kernel
theorem dJ2_getChar_3b067_47 : decode cJ2_getChar_3b067 47 = .ok (.iload_n 1, 1) := by decide +kernel
theorem dJ2_getChar_3b067_48 : decode cJ2_getChar_3b067 48 = .ok (.baload, 1) := by decide +kernel
theorem dJ2_getChar_3b067_49 : decode cJ2_getChar_3b067 49 = .ok (.sipush 255, 3) := by decide +kernel
theorem dJ2_getChar_3b067_52 : decode cJ2_getChar_3b067 52 = .ok (.iand, 1) := by decide +kernel
theorem dJ2_getChar_3b067_53 : decode cJ2_getChar_3b067 53 = .ok (.getstatic 63, 3) := by decide +kernel
theorem dJ2_getChar_3b067_56 : decode cJ2_getChar_3b067 56 = .ok (.ishl, 1) := by decide +kernel
theorem dJ2_getChar_3b067_57 : decode cJ2_getChar_3b067 57 = .ok (.ior, 1) := by decide +kernel
theorem dJ2_getChar_3b067_58 : decode cJ2_getChar_3b067 58 = .ok (.i2c, 1) := by decide +kernel
theorem dJ2_getChar_3b067_59 : decode cJ2_getChar_3b067 59 = .ok (.ireturn, 1) := by decide +kernel
theorem dJ2_length_9d52b_0 : decode cJ2_length_9d52b 0 = .ok (.aload_n 0, 1) := by decide +kernel
theorem dJ2_length_9d52b_1 : decode cJ2_length_9d52b 1 = .ok (.arraylength, 1) := by decide +kernel
theorem dJ2_length_9d52b_2 : decode cJ2_length_9d52b 2 = .ok (.iconst 1, 1) := by decide +kernel
theorem dJ2_length_9d52b_3 : decode cJ2_length_9d52b 3 = .ok (.ishr, 1) := by decide +kernel
theorem dJ2_length_9d52b_4 : decode cJ2_length_9d52b 4 = .ok (.ireturn, 1) := by decide +kernel
theorem dJ2_charAt_3b067_0 : decode cJ2_charAt_3b067 0 = .ok (.iload_n 1, 1) := by decide +kernel
theorem dJ2_charAt_3b067_1 : decode cJ2_charAt_3b067 1 = .ok (.aload_n 0, 1) := by decide +kernel
theorem dJ2_charAt_3b067_2 : decode cJ2_charAt_3b067 2 = .ok (.invokestatic 67, 3) := by decide +kernel
theorem dJ2_charAt_3b067_5 : decode cJ2_charAt_3b067 5 = .ok (.aload_n 0, 1) := by decide +kernel
theorem dJ2_charAt_3b067_6 : decode cJ2_charAt_3b067 6 = .ok (.iload_n 1, 1) := by decide +kernel
theorem dJ2_charAt_3b067_7 : decode cJ2_charAt_3b067 7 = .ok (.invokestatic 71, 3) := by decide +kernel
theorem dJ2_charAt_3b067_10 : decode cJ2_charAt_3b067 10 = .ok (.ireturn, 1) := by decide +kernel
theorem dJ2_checkIndex_2214a_0 : decode cJ2_checkIndex_2214a 0 = .ok (.iload_n 0, 1) := by decide +kernel
theorem dJ2_checkIndex_2214a_1 : decode cJ2_checkIndex_2214a 1 = .ok (.aload_n 1, 1) := by decide +kernel
theorem dJ2_checkIndex_2214a_2 : decode cJ2_checkIndex_2214a 2 = .ok (.invokestatic 48, 3) := by decide +kernel
theorem dJ2_checkIndex_2214a_5 : decode cJ2_checkIndex_2214a 5 = .ok (.invokestatic 414, 3) := by decide +kernel
theorem dJ2_checkIndex_2214a_8 : decode cJ2_checkIndex_2214a 8 = .ok (.return_, 1) := by decide +kernel
theorem dJ3_checkIndex_8e157_0 : decode cJ3_checkIndex_8e157 0 = .ok (.iload_n 0, 1) := by decide +kernel
theorem dJ3_checkIndex_8e157_1 : decode cJ3_checkIndex_8e157 1 = .ok (.ifCond .lt 8, 3) := by decide +kernel
theorem dJ3_checkIndex_8e157_4 : decode cJ3_checkIndex_8e157 4 = .ok (.iload_n 0, 1) := by decide +kernel
theorem dJ3_checkIndex_8e157_5 : decode cJ3_checkIndex_8e157 5 = .ok (.iload_n 1, 1) := by decide +kernel
theorem dJ3_checkIndex_8e157_6 : decode cJ3_checkIndex_8e157 6 = .ok (.if_icmp .lt 10, 3) := by decide +kernel
theorem dJ3_checkIndex_8e157_9 : decode cJ3_checkIndex_8e157 9 = .ok (.aload_n 2, 1) := by decide +kernel
theorem dJ3_checkIndex_8e157_10 : decode cJ3_checkIndex_8e157 10 = .ok (.iload_n 0, 1) := by decide +kernel
theorem dJ3_checkIndex_8e157_11 : decode cJ3_checkIndex_8e157 11 = .ok (.iload_n 1, 1) := by decide +kernel
theorem dJ3_checkIndex_8e157_12 : decode cJ3_checkIndex_8e157 12 = .ok (.invokestatic 95, 3) := by decide +kernel
theorem dJ3_checkIndex_8e157_15 : decode cJ3_checkIndex_8e157 15 = .ok (.athrow, 1) := by decide +kernel
theorem dJ3_checkIndex_8e157_16 : decode cJ3_checkIndex_8e157 16 = .ok (.iload_n 0, 1) := by decide +kernel
theorem dJ3_checkIndex_8e157_17 : decode cJ3_checkIndex_8e157 17 = .ok (.ireturn, 1) := by decide +kernel
end
section
theorem dX9_init_0 : decode cX9_init 0 = .ok (.aload_n 0, 1) := by decide +kernel
theorem dX9_init_1 : decode cX9_init 1 = .ok (.invokespecial 1, 3) := by decide +kernel
theorem dX9_init_4 : decode cX9_init 4 = .ok (.aload_n 0, 1) := by decide +kernel
theorem dX9_init_5 : decode cX9_init 5 = .ok (.bipush 12, 2) := by decide +kernel
theorem dX9_init_7 : decode cX9_init 7 = .ok (.newarray .int, 2) := by decide +kernel
theorem dX9_init_9 : decode cX9_init 9 = .ok (.putfield 7, 3) := by decide +kernel
theorem dX9_init_12 : decode cX9_init 12 = .ok (.aload_n 0, 1) := by decide +kernel
theorem dX9_init_13 : decode cX9_init 13 = .ok (.bipush 12, 2) := by decide +kernel
theorem dX9_init_15 : decode cX9_init 15 = .ok (.newarray .int, 2) := by decide +kernel
theorem dX9_init_17 : decode cX9_init 17 = .ok (.putfield 13, 3) := by decide +kernel
theorem dX9_init_20 : decode cX9_init 20 = .ok (.aload_n 0, 1) := by decide +kernel
theorem dX9_init_21 : decode cX9_init 21 = .ok (.bipush 12, 2) := by decide +kernel
theorem dX9_init_23 : decode cX9_init 23 = .ok (.newarray .int, 2) := by decide +kernel
theorem dX9_init_25 : decode cX9_init 25 = .ok (.putfield 16, 3) := by decide +kernel
theorem dX9_init_28 : decode cX9_init 28 = .ok (.aload_n 0, 1) := by decide +kernel
theorem dX9_init_29 : decode cX9_init 29 = .ok (.bipush 12, 2) := by decide +kernel
theorem dX9_init_31 : decode cX9_init 31 = .ok (.newarray .int, 2) := by decide +kernel
theorem dX9_init_33 : decode cX9_init 33 = .ok (.putfield 19, 3) := by decide +kernel
theorem dX9_init_36 : decode cX9_init 36 = .ok (.aload_n 0, 1) := by decide +kernel
theorem dX9_init_37 : decode cX9_init 37 = .ok (.bipush 12, 2) := by decide +kernel
theorem dX9_init_39 : decode cX9_init 39 = .ok (.newarray .boolean, 2) := by decide +kernel
theorem dX9_init_41 : decode cX9_init 41 = .ok (.putfield 22, 3) := by decide +kernel
theorem dX9_init_44 : decode cX9_init 44 = .ok (.aload_n 0, 1) := by decide +kernel
theorem dX9_init_45 : decode cX9_init 45 = .ok (.bipush 30, 2) := by decide +kernel
theorem dX9_init_47 : decode cX9_init 47 = .ok (.newarray .boolean, 2) := by decide +kernel
theorem dX9_init_49 : decode cX9_init 49 = .ok (.putfield 26, 3) := by decide +kernel
theorem dX9_init_52 : decode cX9_init 52 = .ok (.aload_n 0, 1) := by decide +kernel
theorem dX9_init_53 : decode cX9_init 53 = .ok (.bipush 12, 2) := by decide +kernel
theorem dX9_init_55 : decode cX9_init 55 = .ok (.newarray .int, 2) := by decide +kernel
theorem dX9_init_57 : decode cX9_init 57 = .ok (.putfield 29, 3) := by decide +kernel
theorem dX9_init_60 : decode cX9_init 60 = .ok (.aload_n 0, 1) := by decide +kernel
theorem dX9_init_61 : decode cX9_init 61 = .ok (.bipush 12, 2) := by decide +kernel
theorem dX9_init_63 : decode cX9_init 63 = .ok (.newarray .int, 2) := by decide +kernel
theorem dX9_init_65 : decode cX9_init 65 = .ok (.putfield 32, 3) := by decide +kernel
theorem dX9_init_68 : decode cX9_init 68 = .ok (.aload_n 0, 1) := by decide +kernel
theorem dX9_init_69 : decode cX9_init 69 = .ok (.bipush 12, 2) := by decide +kernel
theorem dX9_init_71 : decode cX9_init 71 = .ok (.newarray .int, 2) := by decide +kernel
theorem dX9_init_73 : decode cX9_init 73 = .ok (.putfield 35, 3) := by decide +kernel
theorem dX9_init_76 : decode cX9_init 76 = .ok (.aload_n 0, 1) := by decide +kernel
theorem dX9_init_77 : decode cX9_init 77 = .ok (.bipush 12, 2) := by decide +kernel
theorem dX9_init_79 : decode cX9_init 79 = .ok (.newarray .int, 2) := by decide +kernel
theorem dX9_init_81 : decode cX9_init 81 = .ok (.putfield 38, 3) := by decide +kernel
theorem dX9_init_84 : decode cX9_init 84 = .ok (.aload_n 0, 1) := by decide +kernel
theorem dX9_init_85 : decode cX9_init 85 = .ok (.bipush 12, 2) := by decide +kernel
theorem dX9_init_87 : decode cX9_init 87 = .ok (.newarray .int, 2) := by decide +kernel
theorem dX9_init_89 : decode cX9_init 89 = .ok (.putfield 41, 3) := by decide +kernel
theorem dX9_init_92 : decode cX9_init 92 = .ok (.aload_n 0, 1) := by decide +kernel
theorem dX9_init_93 : decode cX9_init 93 = .ok (.bipush 12, 2) := by decide +kernel
theorem dX9_init_95 : decode cX9_init 95 = .ok (.newarray .int, 2) := by decide +kernel
theorem dX9_init_97 : decode cX9_init 97 = .ok (.putfield 44, 3) := by decide +kernel
theorem dX9_init_100 : decode cX9_init 100 = .ok (.aload_n 0, 1) := by decide +kernel
theorem dX9_init_101 : decode cX9_init 101 = .ok (.bipush 8, 2) := by decide +kernel
theorem dX9_init_103 : decode cX9_init 103 = .ok (.newarray .boolean, 2) := by decide +kernel
theorem dX9_init_105 : decode cX9_init 105 = .ok (.putfield 47, 3) := by decide +kernel
theorem dX9_init_108 : decode cX9_init 108 = .ok (.aload_n 0, 1) := by decide +kernel
theorem dX9_init_109 : decode cX9_init 109 = .ok (.bipush 8, 2) := by decide +kernel
theorem dX9_init_111 : decode cX9_init 111 = .ok (.newarray .int, 2) := by decide +kernel
theorem dX9_init_113 : decode cX9_init 113 = .ok (.putfield 50, 3) := by decide +kernel
theorem dX9_init_116 : decode cX9_init 116 = .ok (.aload_n 0, 1) := by decide +kernel
theorem dX9_init_117 : decode cX9_init 117 = .ok (.bipush 7, 2) := by decide +kernel
theorem dX9_init_119 : decode cX9_init 119 = .ok (.newarray .int, 2) := by decide +kernel
theorem dX9_init_121 : decode cX9_init 121 = .ok (.putfield 53, 3) := by decide +kernel
theorem dX9_init_124 : decode cX9_init 124 = .ok (.aload_n 0, 1) := by decide +kernel
theorem dX9_init_125 : decode cX9_init 125 = .ok (.bipush 7, 2) := by decide +kernel
theorem dX9_init_127 : decode cX9_init 127 = .ok (.newarray .int, 2) := by decide +kernel
theorem dX9_init_129 : decode cX9_init 129 = .ok (.putfield 56, 3) := by decide +kernel
theorem dX9_init_132 : decode cX9_init 132 = .ok (.aload_n 0, 1) := by decide +kernel
theorem dX9_init_133 : decode cX9_init 133 = .ok (.bipush 7, 2) := by decide +kernel
theorem dX9_init_135 : decode cX9_init 135 = .ok (.newarray .int, 2) := by decide +kernel
theorem dX9_init_137 : decode cX9_init 137 = .ok (.putfield 59, 3) := by decide +kernel
theorem dX9_init_140 : decode cX9_init 140 = .ok (.aload_n 0, 1) := by decide +kernel
theorem dX9_init_141 : decode cX9_init 141 = .ok (.bipush 7, 2) := by decide +kernel
theorem dX9_init_143 : decode cX9_init 143 = .ok (.newarray .int, 2) := by decide +kernel
theorem dX9_init_145 : decode cX9_init 145 = .ok (.putfield 62, 3) := by decide +kernel
theorem dX9_init_148 : decode cX9_init 148 = .ok (.aload_n 0, 1) := by decide +kernel
theorem dX9_init_149 : decode cX9_init 149 = .ok (.bipush 7, 2) := by decide +kernel
theorem dX9_init_151 : decode cX9_init 151 = .ok (.newarray .int, 2) := by decide +kernel
theorem dX9_init_153 : decode cX9_init 153 = .ok (.putfield 65, 3) := by decide +kernel
theorem dX9_init_156 : decode cX9_init 156 = .ok (.aload_n 0, 1) := by decide +kernel
theorem dX9_init_157 : decode cX9_init 157 = .ok (.bipush 7, 2) := by decide +kernel
theorem dX9_init_159 : decode cX9_init 159 = .ok (.newarray .int, 2) := by decide +kernel
theorem dX9_init_161 : decode cX9_init 161 = .ok (.putfield 68, 3) := by decide +kernel
theorem dX9_init_164 : decode cX9_init 164 = .ok (.aload_n 0, 1) := by decide +kernel
theorem dX9_init_165 : decode cX9_init 165 = .ok (.bipush 7, 2) := by decide +kernel
theorem dX9_init_167 : decode cX9_init 167 = .ok (.newarray .int, 2) := by decide +kernel
theorem dX9_init_169 : decode cX9_init 169 = .ok (.putfield 71, 3) := by decide +kernel
theorem dX9_init_172 : decode cX9_init 172 = .ok (.aload_n 0, 1) := by decide +kernel
theorem dX9_init_173 : decode cX9_init 173 = .ok (.bipush 7, 2) := by decide +kernel
theorem dX9_init_175 : decode cX9_init 175 = .ok (.newarray .int, 2) := by decide +kernel
theorem dX9_init_177 : decode cX9_init 177 = .ok (.putfield 74, 3) := by decide +kernel
theorem dX9_init_180 : decode cX9_init 180 = .ok (.aload_n 0, 1) := by decide +kernel
theorem dX9_init_181 : decode cX9_init 181 = .ok (.sipush 301, 3) := by decide +kernel
theorem dX9_init_184 : decode cX9_init 184 = .ok (.newarray .int, 2) := by decide +kernel
theorem dX9_init_186 : decode cX9_init 186 = .ok (.putfield 77, 3) := by decide +kernel
theorem dX9_init_189 : decode cX9_init 189 = .ok (.aload_n 0, 1) := by decide +kernel
theorem dX9_init_190 : decode cX9_init 190 = .ok (.sipush 301, 3) := by decide +kernel
theorem dX9_init_193 : decode cX9_init 193 = .ok (.newarray .int, 2) := by decide +kernel
theorem dX9_init_195 : decode cX9_init 195 = .ok (.putfield 80, 3) := by decide +kernel
theorem dX9_init_198 : decode cX9_init 198 = .ok (.aload_n 0, 1) := by decide +kernel
theorem dX9_init_199 : decode cX9_init 199 = .ok (.bipush 60, 2) := by decide +kernel
theorem dX9_init_201 : decode cX9_init 201 = .ok (.newarray .int, 2) := by decide +kernel
theorem dX9_init_203 : decode cX9_init 203 = .ok (.putfield 83, 3) := by decide +kernel
theorem dX9_init_206 : decode cX9_init 206 = .ok (.aload_n 0, 1) := by decide +kernel
theorem dX9_init_207 : decode cX9_init 207 = .ok (.bipush 10, 2) := by decide +kernel
theorem dX9_init_209 : decode cX9_init 209 = .ok (.newarray .int, 2) := by decide +kernel
theorem dX9_init_211 : decode cX9_init 211 = .ok (.putfield 86, 3) := by decide +kernel
theorem dX9_init_214 : decode cX9_init 214 = .ok (.aload_n 0, 1) := by decide +kernel
theorem dX9_init_215 : decode cX9_init 215 = .ok (.sipush 896, 3) := by decide +kernel
theorem dX9_init_218 : decode cX9_init 218 = .ok (.newarray .int, 2) := by decide +kernel
theorem dX9_init_220 : decode cX9_init 220 = .ok (.putfield 89, 3) := by decide +kernel
theorem dX9_init_223 : decode cX9_init 223 = .ok (.aload_n 0, 1) := by decide +kernel
theorem dX9_init_224 : decode cX9_init 224 = .ok (.bipush 7, 2) := by decide +kernel
theorem dX9_init_226 : decode cX9_init 226 = .ok (.newarray .int, 2) := by decide +kernel
theorem dX9_init_228 : decode cX9_init 228 = .ok (.putfield 92, 3) := by decide +kernel
theorem dX9_init_231 : decode cX9_init 231 = .ok (.aload_n 0, 1) := by decide +kernel
theorem dX9_init_232 : decode cX9_init 232 = .ok (.bipush 84, 2) := by decide +kernel
theorem dX9_init_234 : decode cX9_init 234 = .ok (.newarray .int, 2) := by decide +kernel
theorem dX9_init_236 : decode cX9_init 236 = .ok (.putfield 95, 3) := by decide +kernel
theorem dX9_init_239 : decode cX9_init 239 = .ok (.aload_n 0, 1) := by decide +kernel
theorem dX9_init_240 : decode cX9_init 240 = .ok (.bipush 84, 2) := by decide +kernel
theorem dX9_init_242 : decode cX9_init 242 = .ok (.newarray .int, 2) := by decide +kernel
theorem dX9_init_244 : decode cX9_init 244 = .ok (.putfield 98, 3) := by decide +kernel
theorem dX9_init_247 : decode cX9_init 247 = .ok (.iconst 0, 1) := by decide +kernel
theorem dX9_init_248 : decode cX9_init 248 = .ok (.istore_n 1, 1) := by decide +kernel
theorem dX9_init_249 : decode cX9_init 249 = .ok (.iload_n 1, 1) := by decide +kernel
theorem dX9_init_250 : decode cX9_init 250 = .ok (.bipush 8, 2) := by decide +kernel
theorem dX9_init_252 : decode cX9_init 252 = .ok (.if_icmp .ge 16, 3) := by decide +kernel
theorem dX9_init_255 : decode cX9_init 255 = .ok (.aload_n 0, 1) := by decide +kernel
theorem dX9_init_256 : decode cX9_init 256 = .ok (.getfield 50, 3) := by decide +kernel
theorem dX9_init_259 : decode cX9_init 259 = .ok (.iload_n 1, 1) := by decide +kernel
theorem dX9_init_260 : decode cX9_init 260 = .ok (.iconst (-1), 1) := by decide +kernel
theorem dX9_init_261 : decode cX9_init 261 = .ok (.iastore, 1) := by decide +kernel
theorem dX9_init_262 : decode cX9_init 262 = .ok (.iinc 1 1, 3) := by decide +kernel
theorem dX9_init_265 : decode cX9_init 265 = .ok (.goto (-16), 3) := by decide +kernel
theorem dX9_init_268 : decode cX9_init 268 = .ok (.return_, 1) := by decide +kernel
theorem dX9_in_0 : decode cX9_in 0 = .ok (.iload_n 0, 1) := by decide +kernel
theorem dX9_in_1 : decode cX9_in 1 = .ok (.iload_n 1, 1) := by decide +kernel
theorem dX9_in_2 : decode cX9_in 2 = .ok (.if_icmp .lt 12, 3) := by decide +kernel
theorem dX9_in_5 : decode cX9_in 5 = .ok (.iload_n 0, 1) := by decide +kernel
theorem dX9_in_6 : decode cX9_in 6 = .ok (.iload_n 2, 1) := by decide +kernel
theorem dX9_in_7 : decode cX9_in 7 = .ok (.if_icmp .gt 7, 3) := by decide +kernel
theorem dX9_in_10 : decode cX9_in 10 = .ok (.iconst 1, 1) := by decide +kernel
theorem dX9_in_11 : decode cX9_in 11 = .ok (.goto 4, 3) := by decide +kernel
theorem dX9_in_14 : decode cX9_in 14 = .ok (.iconst 0, 1) := by decide +kernel
theorem dX9_in_15 : decode cX9_in 15 = .ok (.ireturn, 1) := by decide +kernel
theorem dX9_has_0 : decode cX9_has 0 = .ok (.iload_n 0, 1) := by decide +kernel
theorem dX9_has_1 : decode cX9_has 1 = .ok (.iload_n 1, 1) := by decide +kernel
theorem dX9_has_2 : decode cX9_has 2 = .ok (.ishr, 1) := by decide +kernel
theorem dX9_has_3 : decode cX9_has 3 = .ok (.iconst 1, 1) := by decide +kernel
theorem dX9_has_4 : decode cX9_has 4 = .ok (.iand, 1) := by decide +kernel
theorem dX9_has_5 : decode cX9_has 5 = .ok (.iconst 1, 1) := by decide +kernel
theorem dX9_has_6 : decode cX9_has 6 = .ok (.if_icmp .ne 7, 3) := by decide +kernel
theorem dX9_has_9 : decode cX9_has 9 = .ok (.iconst 1, 1) := by decide +kernel
theorem dX9_has_10 : decode cX9_has 10 = .ok (.goto 4, 3) := by decide +kernel
theorem dX9_has_13 : decode cX9_has 13 = .ok (.iconst 0, 1) := by decide +kernel
theorem dX9_has_14 : decode cX9_has 14 = .ok (.ireturn, 1) := by decide +kernel
theorem dX9_ones_0 : decode cX9_ones 0 = .ok (.iconst 0, 1) := by decide +kernel
theorem dX9_ones_1 : decode cX9_ones 1 = .ok (.istore_n 1, 1) := by decide +kernel
theorem dX9_ones_2 : decode cX9_ones 2 = .ok (.iconst 0, 1) := by decide +kernel
theorem dX9_ones_3 : decode cX9_ones 3 = .ok (.istore_n 2, 1) := by decide +kernel
theorem dX9_ones_4 : decode cX9_ones 4 = .ok (.iload_n 2, 1) := by decide +kernel
theorem dX9_ones_5 : decode cX9_ones 5 = .ok (.bipush 12, 2) := by decide +kernel
theorem dX9_ones_7 : decode cX9_ones 7 = .ok (.if_icmp .ge 17, 3) := by decide +kernel
theorem dX9_ones_10 : decode cX9_ones 10 = .ok (.iload_n 1, 1) := by decide +kernel
theorem dX9_ones_11 : decode cX9_ones 11 = .ok (.iload_n 0, 1) := by decide +kernel
theorem dX9_ones_12 : decode cX9_ones 12 = .ok (.iload_n 2, 1) := by decide +kernel
theorem dX9_ones_13 : decode cX9_ones 13 = .ok (.ishr, 1) := by decide +kernel
theorem dX9_ones_14 : decode cX9_ones 14 = .ok (.iconst 1, 1) := by decide +kernel
theorem dX9_ones_15 : decode cX9_ones 15 = .ok (.iand, 1) := by decide +kernel
theorem dX9_ones_16 : decode cX9_ones 16 = .ok (.iadd, 1) := by decide +kernel
theorem dX9_ones_17 : decode cX9_ones 17 = .ok (.istore_n 1, 1) := by decide +kernel
theorem dX9_ones_18 : decode cX9_ones 18 = .ok (.iinc 2 1, 3) := by decide +kernel
theorem dX9_ones_21 : decode cX9_ones 21 = .ok (.goto (-17), 3) := by decide +kernel
theorem dX9_ones_24 : decode cX9_ones 24 = .ok (.iload_n 1, 1) := by decide +kernel
theorem dX9_ones_25 : decode cX9_ones 25 = .ok (.ireturn, 1) := by decide +kernel
theorem dX9_isPipe_0 : decode cX9_isPipe 0 = .ok (.iload_n 1, 1) := by decide +kernel
theorem dX9_isPipe_1 : decode cX9_isPipe 1 = .ok (.iconst 0, 1) := by decide +kernel
theorem dX9_isPipe_2 : decode cX9_isPipe 2 = .ok (.aload_n 0, 1) := by decide +kernel
theorem dX9_isPipe_3 : decode cX9_isPipe 3 = .ok (.getfield 101, 3) := by decide +kernel
theorem dX9_isPipe_6 : decode cX9_isPipe 6 = .ok (.iconst 1, 1) := by decide +kernel
theorem dX9_isPipe_7 : decode cX9_isPipe 7 = .ok (.isub, 1) := by decide +kernel
theorem dX9_isPipe_8 : decode cX9_isPipe 8 = .ok (.invokestatic 105, 3) := by decide +kernel
theorem dX9_isPipe_11 : decode cX9_isPipe 11 = .ok (.ireturn, 1) := by decide +kernel
theorem dX9_isPlace_0 : decode cX9_isPlace 0 = .ok (.iload_n 0, 1) := by decide +kernel
theorem dX9_isPlace_1 : decode cX9_isPlace 1 = .ok (.iconst 0, 1) := by decide +kernel
theorem dX9_isPlace_2 : decode cX9_isPlace 2 = .ok (.bipush 9, 2) := by decide +kernel
theorem dX9_isPlace_4 : decode cX9_isPlace 4 = .ok (.invokestatic 105, 3) := by decide +kernel
theorem dX9_isPlace_7 : decode cX9_isPlace 7 = .ok (.ireturn, 1) := by decide +kernel
theorem dX9_isFitting_0 : decode cX9_isFitting 0 = .ok (.aload_n 0, 1) := by decide +kernel
theorem dX9_isFitting_1 : decode cX9_isFitting 1 = .ok (.iload_n 1, 1) := by decide +kernel
theorem dX9_isFitting_2 : decode cX9_isFitting 2 = .ok (.invokevirtual 109, 3) := by decide +kernel
theorem dX9_isFitting_5 : decode cX9_isFitting 5 = .ok (.ifCond .eq 17, 3) := by decide +kernel
theorem dX9_isFitting_8 : decode cX9_isFitting 8 = .ok (.aload_n 0, 1) := by decide +kernel
theorem dX9_isFitting_9 : decode cX9_isFitting 9 = .ok (.getfield 16, 3) := by decide +kernel
theorem dX9_isFitting_12 : decode cX9_isFitting 12 = .ok (.iload_n 1, 1) := by decide +kernel
theorem dX9_isFitting_13 : decode cX9_isFitting 13 = .ok (.iaload, 1) := by decide +kernel
theorem dX9_isFitting_14 : decode cX9_isFitting 14 = .ok (.iconst 2, 1) := by decide +kernel
theorem dX9_isFitting_15 : decode cX9_isFitting 15 = .ok (.if_icmp .ge 7, 3) := by decide +kernel
theorem dX9_isFitting_18 : decode cX9_isFitting 18 = .ok (.iconst 1, 1) := by decide +kernel
theorem dX9_isFitting_19 : decode cX9_isFitting 19 = .ok (.goto 4, 3) := by decide +kernel
theorem dX9_isFitting_22 : decode cX9_isFitting 22 = .ok (.iconst 0, 1) := by decide +kernel
theorem dX9_isFitting_23 : decode cX9_isFitting 23 = .ok (.ireturn, 1) := by decide +kernel
theorem dX9_isPermit_0 : decode cX9_isPermit 0 = .ok (.iload_n 1, 1) := by decide +kernel
theorem dX9_isPermit_1 : decode cX9_isPermit 1 = .ok (.iconst 0, 1) := by decide +kernel
theorem dX9_isPermit_2 : decode cX9_isPermit 2 = .ok (.aload_n 0, 1) := by decide +kernel
theorem dX9_isPermit_3 : decode cX9_isPermit 3 = .ok (.getfield 113, 3) := by decide +kernel
theorem dX9_isPermit_6 : decode cX9_isPermit 6 = .ok (.iconst 1, 1) := by decide +kernel
theorem dX9_isPermit_7 : decode cX9_isPermit 7 = .ok (.isub, 1) := by decide +kernel
theorem dX9_isPermit_8 : decode cX9_isPermit 8 = .ok (.invokestatic 105, 3) := by decide +kernel
theorem dX9_isPermit_11 : decode cX9_isPermit 11 = .ok (.ireturn, 1) := by decide +kernel
theorem dX9_isMan_0 : decode cX9_isMan 0 = .ok (.iload_n 0, 1) := by decide +kernel
theorem dX9_isMan_1 : decode cX9_isMan 1 = .ok (.iconst 0, 1) := by decide +kernel
theorem dX9_isMan_2 : decode cX9_isMan 2 = .ok (.bipush 7, 2) := by decide +kernel
theorem dX9_isMan_4 : decode cX9_isMan 4 = .ok (.invokestatic 105, 3) := by decide +kernel
theorem dX9_isMan_7 : decode cX9_isMan 7 = .ok (.ireturn, 1) := by decide +kernel
theorem dX9_pipe_0 : decode cX9_pipe 0 = .ok (.iload_n 1, 1) := by decide +kernel
theorem dX9_pipe_1 : decode cX9_pipe 1 = .ok (.invokestatic 116, 3) := by decide +kernel
theorem dX9_pipe_4 : decode cX9_pipe 4 = .ok (.ifCond .eq 24, 3) := by decide +kernel
theorem dX9_pipe_7 : decode cX9_pipe 7 = .ok (.iload_n 2, 1) := by decide +kernel
theorem dX9_pipe_8 : decode cX9_pipe 8 = .ok (.invokestatic 116, 3) := by decide +kernel
theorem dX9_pipe_11 : decode cX9_pipe 11 = .ok (.ifCond .eq 17, 3) := by decide +kernel
theorem dX9_pipe_14 : decode cX9_pipe 14 = .ok (.iload_n 1, 1) := by decide +kernel
theorem dX9_pipe_15 : decode cX9_pipe 15 = .ok (.iload_n 2, 1) := by decide +kernel
theorem dX9_pipe_16 : decode cX9_pipe 16 = .ok (.if_icmp .eq 12, 3) := by decide +kernel
theorem dX9_pipe_19 : decode cX9_pipe 19 = .ok (.iload_n 3, 1) := by decide +kernel
theorem dX9_pipe_20 : decode cX9_pipe 20 = .ok (.iconst 0, 1) := by decide +kernel
theorem dX9_pipe_21 : decode cX9_pipe 21 = .ok (.iconst 2, 1) := by decide +kernel
theorem dX9_pipe_22 : decode cX9_pipe 22 = .ok (.invokestatic 105, 3) := by decide +kernel
theorem dX9_pipe_25 : decode cX9_pipe 25 = .ok (.ifCond .ne 5, 3) := by decide +kernel
theorem dX9_pipe_28 : decode cX9_pipe 28 = .ok (.iconst (-1), 1) := by decide +kernel
theorem dX9_pipe_29 : decode cX9_pipe 29 = .ok (.ireturn, 1) := by decide +kernel
theorem dX9_pipe_30 : decode cX9_pipe 30 = .ok (.aload_n 0, 1) := by decide +kernel
theorem dX9_pipe_31 : decode cX9_pipe 31 = .ok (.getfield 101, 3) := by decide +kernel
theorem dX9_pipe_34 : decode cX9_pipe 34 = .ok (.bipush 12, 2) := by decide +kernel
theorem dX9_pipe_36 : decode cX9_pipe 36 = .ok (.if_icmp .ne 6, 3) := by decide +kernel
theorem dX9_pipe_39 : decode cX9_pipe 39 = .ok (.bipush (-2), 2) := by decide +kernel
theorem dX9_pipe_41 : decode cX9_pipe 41 = .ok (.ireturn, 1) := by decide +kernel
theorem dX9_pipe_42 : decode cX9_pipe 42 = .ok (.aload_n 0, 1) := by decide +kernel
theorem dX9_pipe_43 : decode cX9_pipe 43 = .ok (.getfield 7, 3) := by decide +kernel
theorem dX9_pipe_46 : decode cX9_pipe 46 = .ok (.aload_n 0, 1) := by decide +kernel
theorem dX9_pipe_47 : decode cX9_pipe 47 = .ok (.getfield 101, 3) := by decide +kernel
theorem dX9_pipe_50 : decode cX9_pipe 50 = .ok (.iload_n 1, 1) := by decide +kernel
theorem dX9_pipe_51 : decode cX9_pipe 51 = .ok (.iastore, 1) := by decide +kernel
theorem dX9_pipe_52 : decode cX9_pipe 52 = .ok (.aload_n 0, 1) := by decide +kernel
theorem dX9_pipe_53 : decode cX9_pipe 53 = .ok (.getfield 13, 3) := by decide +kernel
theorem dX9_pipe_56 : decode cX9_pipe 56 = .ok (.aload_n 0, 1) := by decide +kernel
theorem dX9_pipe_57 : decode cX9_pipe 57 = .ok (.getfield 101, 3) := by decide +kernel
theorem dX9_pipe_60 : decode cX9_pipe 60 = .ok (.iload_n 2, 1) := by decide +kernel
theorem dX9_pipe_61 : decode cX9_pipe 61 = .ok (.iastore, 1) := by decide +kernel
theorem dX9_pipe_62 : decode cX9_pipe 62 = .ok (.aload_n 0, 1) := by decide +kernel
theorem dX9_pipe_63 : decode cX9_pipe 63 = .ok (.getfield 16, 3) := by decide +kernel
theorem dX9_pipe_66 : decode cX9_pipe 66 = .ok (.aload_n 0, 1) := by decide +kernel
theorem dX9_pipe_67 : decode cX9_pipe 67 = .ok (.getfield 101, 3) := by decide +kernel
theorem dX9_pipe_70 : decode cX9_pipe 70 = .ok (.iload_n 3, 1) := by decide +kernel
theorem dX9_pipe_71 : decode cX9_pipe 71 = .ok (.iastore, 1) := by decide +kernel
theorem dX9_pipe_72 : decode cX9_pipe 72 = .ok (.aload_n 0, 1) := by decide +kernel
theorem dX9_pipe_73 : decode cX9_pipe 73 = .ok (.getfield 19, 3) := by decide +kernel
theorem dX9_pipe_76 : decode cX9_pipe 76 = .ok (.aload_n 0, 1) := by decide +kernel
theorem dX9_pipe_77 : decode cX9_pipe 77 = .ok (.getfield 101, 3) := by decide +kernel
theorem dX9_pipe_80 : decode cX9_pipe 80 = .ok (.aload_n 0, 1) := by decide +kernel
theorem dX9_pipe_81 : decode cX9_pipe 81 = .ok (.getfield 119, 3) := by decide +kernel
theorem dX9_pipe_84 : decode cX9_pipe 84 = .ok (.iastore, 1) := by decide +kernel
theorem dX9_pipe_85 : decode cX9_pipe 85 = .ok (.aload_n 0, 1) := by decide +kernel
theorem dX9_pipe_86 : decode cX9_pipe 86 = .ok (.getfield 22, 3) := by decide +kernel
theorem dX9_pipe_89 : decode cX9_pipe 89 = .ok (.aload_n 0, 1) := by decide +kernel
theorem dX9_pipe_90 : decode cX9_pipe 90 = .ok (.getfield 101, 3) := by decide +kernel
theorem dX9_pipe_93 : decode cX9_pipe 93 = .ok (.iconst 0, 1) := by decide +kernel
theorem dX9_pipe_94 : decode cX9_pipe 94 = .ok (.bastore, 1) := by decide +kernel
theorem dX9_pipe_95 : decode cX9_pipe 95 = .ok (.aload_n 0, 1) := by decide +kernel
theorem dX9_pipe_96 : decode cX9_pipe 96 = .ok (.dup, 1) := by decide +kernel
theorem dX9_pipe_97 : decode cX9_pipe 97 = .ok (.getfield 101, 3) := by decide +kernel
theorem dX9_pipe_100 : decode cX9_pipe 100 = .ok (.iconst 1, 1) := by decide +kernel
theorem dX9_pipe_101 : decode cX9_pipe 101 = .ok (.iadd, 1) := by decide +kernel
theorem dX9_pipe_102 : decode cX9_pipe 102 = .ok (.putfield 101, 3) := by decide +kernel
theorem dX9_pipe_105 : decode cX9_pipe 105 = .ok (.aload_n 0, 1) := by decide +kernel
theorem dX9_pipe_106 : decode cX9_pipe 106 = .ok (.getfield 101, 3) := by decide +kernel
theorem dX9_pipe_109 : decode cX9_pipe 109 = .ok (.iconst 1, 1) := by decide +kernel
theorem dX9_pipe_110 : decode cX9_pipe 110 = .ok (.isub, 1) := by decide +kernel
theorem dX9_pipe_111 : decode cX9_pipe 111 = .ok (.ireturn, 1) := by decide +kernel
theorem dX9_hasLocks_0 : decode cX9_hasLocks 0 = .ok (.aload_n 0, 1) := by decide +kernel
theorem dX9_hasLocks_1 : decode cX9_hasLocks 1 = .ok (.getfield 62, 3) := by decide +kernel
theorem dX9_hasLocks_4 : decode cX9_hasLocks 4 = .ok (.iload_n 1, 1) := by decide +kernel
theorem dX9_hasLocks_5 : decode cX9_hasLocks 5 = .ok (.iaload, 1) := by decide +kernel
theorem dX9_hasLocks_6 : decode cX9_hasLocks 6 = .ok (.iconst 1, 1) := by decide +kernel
theorem dX9_hasLocks_7 : decode cX9_hasLocks 7 = .ok (.iconst 4, 1) := by decide +kernel
theorem dX9_hasLocks_8 : decode cX9_hasLocks 8 = .ok (.invokestatic 105, 3) := by decide +kernel
theorem dX9_hasLocks_11 : decode cX9_hasLocks 11 = .ok (.ireturn, 1) := by decide +kernel
theorem dX9_locks_0 : decode cX9_locks 0 = .ok (.iconst 0, 1) := by decide +kernel
theorem dX9_locks_1 : decode cX9_locks 1 = .ok (.istore_n 2, 1) := by decide +kernel
theorem dX9_locks_2 : decode cX9_locks 2 = .ok (.iconst 0, 1) := by decide +kernel
theorem dX9_locks_3 : decode cX9_locks 3 = .ok (.istore_n 3, 1) := by decide +kernel
theorem dX9_locks_4 : decode cX9_locks 4 = .ok (.iload_n 3, 1) := by decide +kernel
theorem dX9_locks_5 : decode cX9_locks 5 = .ok (.aload_n 0, 1) := by decide +kernel
theorem dX9_locks_6 : decode cX9_locks 6 = .ok (.getfield 113, 3) := by decide +kernel
theorem dX9_locks_9 : decode cX9_locks 9 = .ok (.if_icmp .ge 38, 3) := by decide +kernel
theorem dX9_locks_12 : decode cX9_locks 12 = .ok (.iload_n 2, 1) := by decide +kernel
theorem dX9_locks_13 : decode cX9_locks 13 = .ok (.aload_n 0, 1) := by decide +kernel
theorem dX9_locks_14 : decode cX9_locks 14 = .ok (.iload_n 3, 1) := by decide +kernel
theorem dX9_locks_15 : decode cX9_locks 15 = .ok (.invokevirtual 122, 3) := by decide +kernel
theorem dX9_locks_18 : decode cX9_locks 18 = .ok (.ifCond .eq 20, 3) := by decide +kernel
theorem dX9_locks_21 : decode cX9_locks 21 = .ok (.aload_n 0, 1) := by decide +kernel
theorem dX9_locks_22 : decode cX9_locks 22 = .ok (.getfield 59, 3) := by decide +kernel
theorem dX9_locks_25 : decode cX9_locks 25 = .ok (.iload_n 3, 1) := by decide +kernel
theorem dX9_locks_26 : decode cX9_locks 26 = .ok (.iaload, 1) := by decide +kernel
theorem dX9_locks_27 : decode cX9_locks 27 = .ok (.iload_n 1, 1) := by decide +kernel
theorem dX9_locks_28 : decode cX9_locks 28 = .ok (.invokestatic 125, 3) := by decide +kernel
theorem dX9_locks_31 : decode cX9_locks 31 = .ok (.ifCond .eq 7, 3) := by decide +kernel
theorem dX9_locks_34 : decode cX9_locks 34 = .ok (.iconst 1, 1) := by decide +kernel
theorem dX9_locks_35 : decode cX9_locks 35 = .ok (.goto 4, 3) := by decide +kernel
theorem dX9_locks_38 : decode cX9_locks 38 = .ok (.iconst 0, 1) := by decide +kernel
theorem dX9_locks_39 : decode cX9_locks 39 = .ok (.iadd, 1) := by decide +kernel
theorem dX9_locks_40 : decode cX9_locks 40 = .ok (.istore_n 2, 1) := by decide +kernel
theorem dX9_locks_41 : decode cX9_locks 41 = .ok (.iinc 3 1, 3) := by decide +kernel
theorem dX9_locks_44 : decode cX9_locks 44 = .ok (.goto (-40), 3) := by decide +kernel
theorem dX9_locks_47 : decode cX9_locks 47 = .ok (.iload_n 2, 1) := by decide +kernel
theorem dX9_locks_48 : decode cX9_locks 48 = .ok (.ireturn, 1) := by decide +kernel
theorem dX9_closedNow_0 : decode cX9_closedNow 0 = .ok (.iconst 0, 1) := by decide +kernel
theorem dX9_closedNow_1 : decode cX9_closedNow 1 = .ok (.istore_n 1, 1) := by decide +kernel
theorem dX9_closedNow_2 : decode cX9_closedNow 2 = .ok (.iconst 0, 1) := by decide +kernel
theorem dX9_closedNow_3 : decode cX9_closedNow 3 = .ok (.istore_n 2, 1) := by decide +kernel
theorem dX9_closedNow_4 : decode cX9_closedNow 4 = .ok (.iload_n 2, 1) := by decide +kernel
theorem dX9_closedNow_5 : decode cX9_closedNow 5 = .ok (.aload_n 0, 1) := by decide +kernel
theorem dX9_closedNow_6 : decode cX9_closedNow 6 = .ok (.getfield 101, 3) := by decide +kernel
theorem dX9_closedNow_9 : decode cX9_closedNow 9 = .ok (.if_icmp .ge 36, 3) := by decide +kernel
theorem dX9_closedNow_12 : decode cX9_closedNow 12 = .ok (.iload_n 1, 1) := by decide +kernel
theorem dX9_closedNow_13 : decode cX9_closedNow 13 = .ok (.aload_n 0, 1) := by decide +kernel
theorem dX9_closedNow_14 : decode cX9_closedNow 14 = .ok (.getfield 22, 3) := by decide +kernel
theorem dX9_closedNow_17 : decode cX9_closedNow 17 = .ok (.iload_n 2, 1) := by decide +kernel
theorem dX9_closedNow_18 : decode cX9_closedNow 18 = .ok (.baload, 1) := by decide +kernel
theorem dX9_closedNow_19 : decode cX9_closedNow 19 = .ok (.ifCond .ne 11, 3) := by decide +kernel
theorem dX9_closedNow_22 : decode cX9_closedNow 22 = .ok (.aload_n 0, 1) := by decide +kernel
theorem dX9_closedNow_23 : decode cX9_closedNow 23 = .ok (.iload_n 2, 1) := by decide +kernel
theorem dX9_closedNow_24 : decode cX9_closedNow 24 = .ok (.invokevirtual 129, 3) := by decide +kernel
theorem dX9_closedNow_27 : decode cX9_closedNow 27 = .ok (.ifCond .le 9, 3) := by decide +kernel
theorem dX9_closedNow_30 : decode cX9_closedNow 30 = .ok (.iconst 1, 1) := by decide +kernel
theorem dX9_closedNow_31 : decode cX9_closedNow 31 = .ok (.iload_n 2, 1) := by decide +kernel
theorem dX9_closedNow_32 : decode cX9_closedNow 32 = .ok (.ishl, 1) := by decide +kernel
theorem dX9_closedNow_33 : decode cX9_closedNow 33 = .ok (.goto 4, 3) := by decide +kernel
theorem dX9_closedNow_36 : decode cX9_closedNow 36 = .ok (.iconst 0, 1) := by decide +kernel
theorem dX9_closedNow_37 : decode cX9_closedNow 37 = .ok (.ior, 1) := by decide +kernel
theorem dX9_closedNow_38 : decode cX9_closedNow 38 = .ok (.istore_n 1, 1) := by decide +kernel
theorem dX9_closedNow_39 : decode cX9_closedNow 39 = .ok (.iinc 2 1, 3) := by decide +kernel
theorem dX9_closedNow_42 : decode cX9_closedNow 42 = .ok (.goto (-38), 3) := by decide +kernel
theorem dX9_closedNow_45 : decode cX9_closedNow 45 = .ok (.iload_n 1, 1) := by decide +kernel
theorem dX9_closedNow_46 : decode cX9_closedNow 46 = .ok (.ireturn, 1) := by decide +kernel
theorem dX9_of_0 : decode cX9_of 0 = .ok (.aload_n 0, 1) := by decide +kernel
theorem dX9_of_1 : decode cX9_of 1 = .ok (.iload_n 1, 1) := by decide +kernel
theorem dX9_of_2 : decode cX9_of 2 = .ok (.invokevirtual 109, 3) := by decide +kernel
theorem dX9_of_5 : decode cX9_of 5 = .ok (.ifCond .eq 12, 3) := by decide +kernel
theorem dX9_of_8 : decode cX9_of 8 = .ok (.iload_n 2, 1) := by decide +kernel
theorem dX9_of_9 : decode cX9_of 9 = .ok (.iconst 0, 1) := by decide +kernel
theorem dX9_of_10 : decode cX9_of 10 = .ok (.iconst 5, 1) := by decide +kernel
theorem dX9_of_11 : decode cX9_of 11 = .ok (.invokestatic 105, 3) := by decide +kernel
theorem dX9_of_14 : decode cX9_of 14 = .ok (.ifCond .ne 5, 3) := by decide +kernel
theorem dX9_of_17 : decode cX9_of 17 = .ok (.iconst (-1), 1) := by decide +kernel
theorem dX9_of_18 : decode cX9_of 18 = .ok (.ireturn, 1) := by decide +kernel
theorem dX9_of_19 : decode cX9_of 19 = .ok (.iload_n 2, 1) := by decide +kernel
theorem dX9_of_20 : decode cX9_of 20 = .ok (.tableswitch 73 0 4 #[36, 43, 50, 57, 64], 36) := by decide +kernel
theorem dX9_of_56 : decode cX9_of 56 = .ok (.aload_n 0, 1) := by decide +kernel
theorem dX9_of_57 : decode cX9_of 57 = .ok (.getfield 7, 3) := by decide +kernel
theorem dX9_of_60 : decode cX9_of 60 = .ok (.iload_n 1, 1) := by decide +kernel
theorem dX9_of_61 : decode cX9_of 61 = .ok (.iaload, 1) := by decide +kernel
theorem dX9_of_62 : decode cX9_of 62 = .ok (.ireturn, 1) := by decide +kernel
theorem dX9_of_63 : decode cX9_of 63 = .ok (.aload_n 0, 1) := by decide +kernel
theorem dX9_of_64 : decode cX9_of 64 = .ok (.getfield 13, 3) := by decide +kernel
theorem dX9_of_67 : decode cX9_of 67 = .ok (.iload_n 1, 1) := by decide +kernel
theorem dX9_of_68 : decode cX9_of 68 = .ok (.iaload, 1) := by decide +kernel
theorem dX9_of_69 : decode cX9_of 69 = .ok (.ireturn, 1) := by decide +kernel
theorem dX9_of_70 : decode cX9_of 70 = .ok (.aload_n 0, 1) := by decide +kernel
theorem dX9_of_71 : decode cX9_of 71 = .ok (.getfield 16, 3) := by decide +kernel
theorem dX9_of_74 : decode cX9_of 74 = .ok (.iload_n 1, 1) := by decide +kernel
theorem dX9_of_75 : decode cX9_of 75 = .ok (.iaload, 1) := by decide +kernel
theorem dX9_of_76 : decode cX9_of 76 = .ok (.ireturn, 1) := by decide +kernel
theorem dX9_of_77 : decode cX9_of 77 = .ok (.aload_n 0, 1) := by decide +kernel
theorem dX9_of_78 : decode cX9_of 78 = .ok (.getfield 19, 3) := by decide +kernel
theorem dX9_of_81 : decode cX9_of 81 = .ok (.iload_n 1, 1) := by decide +kernel
theorem dX9_of_82 : decode cX9_of 82 = .ok (.iaload, 1) := by decide +kernel
theorem dX9_of_83 : decode cX9_of 83 = .ok (.ireturn, 1) := by decide +kernel
theorem dX9_of_84 : decode cX9_of 84 = .ok (.aload_n 0, 1) := by decide +kernel
theorem dX9_of_85 : decode cX9_of 85 = .ok (.invokevirtual 133, 3) := by decide +kernel
theorem dX9_of_88 : decode cX9_of 88 = .ok (.iload_n 1, 1) := by decide +kernel
theorem dX9_of_89 : decode cX9_of 89 = .ok (.ishr, 1) := by decide +kernel
theorem dX9_of_90 : decode cX9_of 90 = .ok (.iconst 1, 1) := by decide +kernel
theorem dX9_of_91 : decode cX9_of 91 = .ok (.iand, 1) := by decide +kernel
theorem dX9_of_92 : decode cX9_of 92 = .ok (.ireturn, 1) := by decide +kernel
theorem dX9_of_93 : decode cX9_of 93 = .ok (.aload_n 0, 1) := by decide +kernel
theorem dX9_of_94 : decode cX9_of 94 = .ok (.iload_n 1, 1) := by decide +kernel
theorem dX9_of_95 : decode cX9_of 95 = .ok (.invokevirtual 129, 3) := by decide +kernel
theorem dX9_of_98 : decode cX9_of 98 = .ok (.ireturn, 1) := by decide +kernel
theorem dX9_source_0 : decode cX9_source 0 = .ok (.iload_n 1, 1) := by decide +kernel
theorem dX9_source_1 : decode cX9_source 1 = .ok (.invokestatic 116, 3) := by decide +kernel
theorem dX9_source_4 : decode cX9_source 4 = .ok (.ifCond .eq 12, 3) := by decide +kernel
theorem dX9_source_7 : decode cX9_source 7 = .ok (.iload_n 2, 1) := by decide +kernel
theorem dX9_source_8 : decode cX9_source 8 = .ok (.iconst 0, 1) := by decide +kernel
theorem dX9_source_9 : decode cX9_source 9 = .ok (.iconst 2, 1) := by decide +kernel
theorem dX9_source_10 : decode cX9_source 10 = .ok (.invokestatic 105, 3) := by decide +kernel
theorem dX9_source_13 : decode cX9_source 13 = .ok (.ifCond .ne 5, 3) := by decide +kernel
theorem dX9_source_16 : decode cX9_source 16 = .ok (.iconst (-1), 1) := by decide +kernel
theorem dX9_source_17 : decode cX9_source 17 = .ok (.ireturn, 1) := by decide +kernel
theorem dX9_source_18 : decode cX9_source 18 = .ok (.iconst 3, 1) := by decide +kernel
theorem dX9_source_19 : decode cX9_source 19 = .ok (.iload_n 1, 1) := by decide +kernel
theorem dX9_source_20 : decode cX9_source 20 = .ok (.imul, 1) := by decide +kernel
theorem dX9_source_21 : decode cX9_source 21 = .ok (.iload_n 2, 1) := by decide +kernel
theorem dX9_source_22 : decode cX9_source 22 = .ok (.iadd, 1) := by decide +kernel
theorem dX9_source_23 : decode cX9_source 23 = .ok (.istore 4, 2) := by decide +kernel
theorem dX9_source_25 : decode cX9_source 25 = .ok (.aload_n 0, 1) := by decide +kernel
theorem dX9_source_26 : decode cX9_source 26 = .ok (.getfield 26, 3) := by decide +kernel
theorem dX9_source_29 : decode cX9_source 29 = .ok (.iload 4, 2) := by decide +kernel
theorem dX9_source_31 : decode cX9_source 31 = .ok (.baload, 1) := by decide +kernel
theorem dX9_source_32 : decode cX9_source 32 = .ok (.istore 5, 2) := by decide +kernel
theorem dX9_source_34 : decode cX9_source 34 = .ok (.aload_n 0, 1) := by decide +kernel
theorem dX9_source_35 : decode cX9_source 35 = .ok (.getfield 26, 3) := by decide +kernel
theorem dX9_source_38 : decode cX9_source 38 = .ok (.iload 4, 2) := by decide +kernel
theorem dX9_source_40 : decode cX9_source 40 = .ok (.iload_n 3, 1) := by decide +kernel
theorem dX9_source_41 : decode cX9_source 41 = .ok (.bastore, 1) := by decide +kernel
theorem dX9_source_42 : decode cX9_source 42 = .ok (.iload 5, 2) := by decide +kernel
theorem dX9_source_44 : decode cX9_source 44 = .ok (.iload_n 3, 1) := by decide +kernel
theorem dX9_source_45 : decode cX9_source 45 = .ok (.if_icmp .ne 7, 3) := by decide +kernel
theorem dX9_source_48 : decode cX9_source 48 = .ok (.iconst 0, 1) := by decide +kernel
theorem dX9_source_49 : decode cX9_source 49 = .ok (.goto 4, 3) := by decide +kernel
theorem dX9_source_52 : decode cX9_source 52 = .ok (.iconst 1, 1) := by decide +kernel
theorem dX9_source_53 : decode cX9_source 53 = .ok (.ireturn, 1) := by decide +kernel
theorem dX9_turn_0 : decode cX9_turn 0 = .ok (.aload_n 0, 1) := by decide +kernel
theorem dX9_turn_1 : decode cX9_turn 1 = .ok (.iload_n 1, 1) := by decide +kernel
theorem dX9_turn_2 : decode cX9_turn 2 = .ok (.invokevirtual 137, 3) := by decide +kernel
theorem dX9_turn_5 : decode cX9_turn 5 = .ok (.ifCond .ne 5, 3) := by decide +kernel
theorem dX9_turn_8 : decode cX9_turn 8 = .ok (.iconst (-1), 1) := by decide +kernel
theorem dX9_turn_9 : decode cX9_turn 9 = .ok (.ireturn, 1) := by decide +kernel
theorem dX9_turn_10 : decode cX9_turn 10 = .ok (.iload_n 2, 1) := by decide +kernel
theorem dX9_turn_11 : decode cX9_turn 11 = .ok (.ifCond .ne 14, 3) := by decide +kernel
theorem dX9_turn_14 : decode cX9_turn 14 = .ok (.aload_n 0, 1) := by decide +kernel
theorem dX9_turn_15 : decode cX9_turn 15 = .ok (.iload_n 1, 1) := by decide +kernel
theorem dX9_turn_16 : decode cX9_turn 16 = .ok (.invokevirtual 129, 3) := by decide +kernel
theorem dX9_turn_19 : decode cX9_turn 19 = .ok (.ifCond .le 6, 3) := by decide +kernel
theorem dX9_turn_22 : decode cX9_turn 22 = .ok (.bipush (-5), 2) := by decide +kernel
theorem dX9_turn_24 : decode cX9_turn 24 = .ok (.ireturn, 1) := by decide +kernel
theorem dX9_turn_25 : decode cX9_turn 25 = .ok (.aload_n 0, 1) := by decide +kernel
theorem dX9_turn_26 : decode cX9_turn 26 = .ok (.getfield 22, 3) := by decide +kernel
theorem dX9_turn_29 : decode cX9_turn 29 = .ok (.iload_n 1, 1) := by decide +kernel
theorem dX9_turn_30 : decode cX9_turn 30 = .ok (.baload, 1) := by decide +kernel
theorem dX9_turn_31 : decode cX9_turn 31 = .ok (.istore_n 3, 1) := by decide +kernel
theorem dX9_turn_32 : decode cX9_turn 32 = .ok (.aload_n 0, 1) := by decide +kernel
theorem dX9_turn_33 : decode cX9_turn 33 = .ok (.getfield 22, 3) := by decide +kernel
theorem dX9_turn_36 : decode cX9_turn 36 = .ok (.iload_n 1, 1) := by decide +kernel
theorem dX9_turn_37 : decode cX9_turn 37 = .ok (.iload_n 2, 1) := by decide +kernel
theorem dX9_turn_38 : decode cX9_turn 38 = .ok (.bastore, 1) := by decide +kernel
theorem dX9_turn_39 : decode cX9_turn 39 = .ok (.iload_n 3, 1) := by decide +kernel
theorem dX9_turn_40 : decode cX9_turn 40 = .ok (.iload_n 2, 1) := by decide +kernel
theorem dX9_turn_41 : decode cX9_turn 41 = .ok (.if_icmp .ne 7, 3) := by decide +kernel
theorem dX9_turn_44 : decode cX9_turn 44 = .ok (.iconst 0, 1) := by decide +kernel
theorem dX9_turn_45 : decode cX9_turn 45 = .ok (.goto 4, 3) := by decide +kernel
theorem dX9_turn_48 : decode cX9_turn 48 = .ok (.iconst 1, 1) := by decide +kernel
theorem dX9_turn_49 : decode cX9_turn 49 = .ok (.ireturn, 1) := by decide +kernel
theorem dX9_reach_0 : decode cX9_reach 0 = .ok (.iconst 0, 1) := by decide +kernel
theorem dX9_reach_1 : decode cX9_reach 1 = .ok (.istore 5, 2) := by decide +kernel
theorem dX9_reach_3 : decode cX9_reach 3 = .ok (.iload 5, 2) := by decide +kernel
theorem dX9_reach_5 : decode cX9_reach 5 = .ok (.bipush 10, 2) := by decide +kernel
theorem dX9_reach_7 : decode cX9_reach 7 = .ok (.if_icmp .ge 29, 3) := by decide +kernel
theorem dX9_reach_10 : decode cX9_reach 10 = .ok (.aload_n 0, 1) := by decide +kernel
theorem dX9_reach_11 : decode cX9_reach 11 = .ok (.getfield 86, 3) := by decide +kernel
theorem dX9_reach_14 : decode cX9_reach 14 = .ok (.iload 5, 2) := by decide +kernel
theorem dX9_reach_16 : decode cX9_reach 16 = .ok (.iload 5, 2) := by decide +kernel
theorem dX9_reach_18 : decode cX9_reach 18 = .ok (.iload_n 1, 1) := by decide +kernel
theorem dX9_reach_19 : decode cX9_reach 19 = .ok (.if_icmp .ne 7, 3) := by decide +kernel
theorem dX9_reach_22 : decode cX9_reach 22 = .ok (.iconst 0, 1) := by decide +kernel
theorem dX9_reach_23 : decode cX9_reach 23 = .ok (.goto 6, 3) := by decide +kernel
theorem dX9_reach_26 : decode cX9_reach 26 = .ok (.sipush 1000, 3) := by decide +kernel
theorem dX9_reach_29 : decode cX9_reach 29 = .ok (.iastore, 1) := by decide +kernel
theorem dX9_reach_30 : decode cX9_reach 30 = .ok (.iinc 5 1, 3) := by decide +kernel
theorem dX9_reach_33 : decode cX9_reach 33 = .ok (.goto (-30), 3) := by decide +kernel
theorem dX9_reach_36 : decode cX9_reach 36 = .ok (.iconst 1, 1) := by decide +kernel
theorem dX9_reach_37 : decode cX9_reach 37 = .ok (.istore 5, 2) := by decide +kernel
theorem dX9_reach_39 : decode cX9_reach 39 = .ok (.iload 5, 2) := by decide +kernel
theorem dX9_reach_41 : decode cX9_reach 41 = .ok (.ifCond .eq 202, 3) := by decide +kernel
theorem dX9_reach_44 : decode cX9_reach 44 = .ok (.iconst 0, 1) := by decide +kernel
theorem dX9_reach_45 : decode cX9_reach 45 = .ok (.istore 5, 2) := by decide +kernel
theorem dX9_reach_47 : decode cX9_reach 47 = .ok (.iconst 0, 1) := by decide +kernel
theorem dX9_reach_48 : decode cX9_reach 48 = .ok (.istore 6, 2) := by decide +kernel
theorem dX9_reach_50 : decode cX9_reach 50 = .ok (.iload 6, 2) := by decide +kernel
theorem dX9_reach_52 : decode cX9_reach 52 = .ok (.aload_n 0, 1) := by decide +kernel
theorem dX9_reach_53 : decode cX9_reach 53 = .ok (.getfield 101, 3) := by decide +kernel
theorem dX9_reach_56 : decode cX9_reach 56 = .ok (.if_icmp .ge 184, 3) := by decide +kernel
theorem dX9_reach_59 : decode cX9_reach 59 = .ok (.iload 4, 2) := by decide +kernel
theorem dX9_reach_61 : decode cX9_reach 61 = .ok (.ifCond .eq 7, 3) := by decide +kernel
theorem dX9_reach_64 : decode cX9_reach 64 = .ok (.iconst 1, 1) := by decide +kernel
theorem dX9_reach_65 : decode cX9_reach 65 = .ok (.goto 25, 3) := by decide +kernel
theorem dX9_reach_68 : decode cX9_reach 68 = .ok (.iload_n 2, 1) := by decide +kernel
theorem dX9_reach_69 : decode cX9_reach 69 = .ok (.iload 6, 2) := by decide +kernel
theorem dX9_reach_71 : decode cX9_reach 71 = .ok (.invokestatic 125, 3) := by decide +kernel
theorem dX9_reach_74 : decode cX9_reach 74 = .ok (.ifCond .eq 15, 3) := by decide +kernel
theorem dX9_reach_77 : decode cX9_reach 77 = .ok (.iconst 1, 1) := by decide +kernel
theorem dX9_reach_78 : decode cX9_reach 78 = .ok (.aload_n 0, 1) := by decide +kernel
theorem dX9_reach_79 : decode cX9_reach 79 = .ok (.getfield 16, 3) := by decide +kernel
theorem dX9_reach_82 : decode cX9_reach 82 = .ok (.iload 6, 2) := by decide +kernel
theorem dX9_reach_84 : decode cX9_reach 84 = .ok (.iaload, 1) := by decide +kernel
theorem dX9_reach_85 : decode cX9_reach 85 = .ok (.iadd, 1) := by decide +kernel
theorem dX9_reach_86 : decode cX9_reach 86 = .ok (.goto 4, 3) := by decide +kernel
theorem dX9_reach_89 : decode cX9_reach 89 = .ok (.iconst 0, 1) := by decide +kernel
theorem dX9_reach_90 : decode cX9_reach 90 = .ok (.istore 7, 2) := by decide +kernel
theorem dX9_reach_92 : decode cX9_reach 92 = .ok (.aload_n 0, 1) := by decide +kernel
theorem dX9_reach_93 : decode cX9_reach 93 = .ok (.getfield 19, 3) := by decide +kernel
theorem dX9_reach_96 : decode cX9_reach 96 = .ok (.iload 6, 2) := by decide +kernel
theorem dX9_reach_98 : decode cX9_reach 98 = .ok (.iaload, 1) := by decide +kernel
theorem dX9_reach_99 : decode cX9_reach 99 = .ok (.iload_n 3, 1) := by decide +kernel
theorem dX9_reach_100 : decode cX9_reach 100 = .ok (.if_icmp .gt 63, 3) := by decide +kernel
theorem dX9_reach_103 : decode cX9_reach 103 = .ok (.aload_n 0, 1) := by decide +kernel
theorem dX9_reach_104 : decode cX9_reach 104 = .ok (.getfield 86, 3) := by decide +kernel
theorem dX9_reach_107 : decode cX9_reach 107 = .ok (.aload_n 0, 1) := by decide +kernel
theorem dX9_reach_108 : decode cX9_reach 108 = .ok (.getfield 7, 3) := by decide +kernel
theorem dX9_reach_111 : decode cX9_reach 111 = .ok (.iload 6, 2) := by decide +kernel
theorem dX9_reach_113 : decode cX9_reach 113 = .ok (.iaload, 1) := by decide +kernel
theorem dX9_reach_114 : decode cX9_reach 114 = .ok (.iaload, 1) := by decide +kernel
theorem dX9_reach_115 : decode cX9_reach 115 = .ok (.iload 7, 2) := by decide +kernel
theorem dX9_reach_117 : decode cX9_reach 117 = .ok (.iadd, 1) := by decide +kernel
theorem dX9_reach_118 : decode cX9_reach 118 = .ok (.aload_n 0, 1) := by decide +kernel
theorem dX9_reach_119 : decode cX9_reach 119 = .ok (.getfield 86, 3) := by decide +kernel
theorem dX9_reach_122 : decode cX9_reach 122 = .ok (.aload_n 0, 1) := by decide +kernel
theorem dX9_reach_123 : decode cX9_reach 123 = .ok (.getfield 13, 3) := by decide +kernel
theorem dX9_reach_126 : decode cX9_reach 126 = .ok (.iload 6, 2) := by decide +kernel
theorem dX9_reach_128 : decode cX9_reach 128 = .ok (.iaload, 1) := by decide +kernel
theorem dX9_reach_129 : decode cX9_reach 129 = .ok (.iaload, 1) := by decide +kernel
theorem dX9_reach_130 : decode cX9_reach 130 = .ok (.if_icmp .ge 33, 3) := by decide +kernel
theorem dX9_reach_133 : decode cX9_reach 133 = .ok (.aload_n 0, 1) := by decide +kernel
theorem dX9_reach_134 : decode cX9_reach 134 = .ok (.getfield 86, 3) := by decide +kernel
theorem dX9_reach_137 : decode cX9_reach 137 = .ok (.aload_n 0, 1) := by decide +kernel
theorem dX9_reach_138 : decode cX9_reach 138 = .ok (.getfield 13, 3) := by decide +kernel
theorem dX9_reach_141 : decode cX9_reach 141 = .ok (.iload 6, 2) := by decide +kernel
theorem dX9_reach_143 : decode cX9_reach 143 = .ok (.iaload, 1) := by decide +kernel
theorem dX9_reach_144 : decode cX9_reach 144 = .ok (.aload_n 0, 1) := by decide +kernel
theorem dX9_reach_145 : decode cX9_reach 145 = .ok (.getfield 86, 3) := by decide +kernel
theorem dX9_reach_148 : decode cX9_reach 148 = .ok (.aload_n 0, 1) := by decide +kernel
theorem dX9_reach_149 : decode cX9_reach 149 = .ok (.getfield 7, 3) := by decide +kernel
theorem dX9_reach_152 : decode cX9_reach 152 = .ok (.iload 6, 2) := by decide +kernel
theorem dX9_reach_154 : decode cX9_reach 154 = .ok (.iaload, 1) := by decide +kernel
theorem dX9_reach_155 : decode cX9_reach 155 = .ok (.iaload, 1) := by decide +kernel
theorem dX9_reach_156 : decode cX9_reach 156 = .ok (.iload 7, 2) := by decide +kernel
theorem dX9_reach_158 : decode cX9_reach 158 = .ok (.iadd, 1) := by decide +kernel
theorem dX9_reach_159 : decode cX9_reach 159 = .ok (.iastore, 1) := by decide +kernel
theorem dX9_reach_160 : decode cX9_reach 160 = .ok (.iconst 1, 1) := by decide +kernel
theorem dX9_reach_161 : decode cX9_reach 161 = .ok (.istore 5, 2) := by decide +kernel
theorem dX9_reach_163 : decode cX9_reach 163 = .ok (.aload_n 0, 1) := by decide +kernel
theorem dX9_reach_164 : decode cX9_reach 164 = .ok (.getfield 19, 3) := by decide +kernel
theorem dX9_reach_167 : decode cX9_reach 167 = .ok (.iload 6, 2) := by decide +kernel
theorem dX9_reach_169 : decode cX9_reach 169 = .ok (.iaload, 1) := by decide +kernel
theorem dX9_reach_170 : decode cX9_reach 170 = .ok (.iload_n 3, 1) := by decide +kernel
theorem dX9_reach_171 : decode cX9_reach 171 = .ok (.if_icmp .gt 63, 3) := by decide +kernel
theorem dX9_reach_174 : decode cX9_reach 174 = .ok (.aload_n 0, 1) := by decide +kernel
theorem dX9_reach_175 : decode cX9_reach 175 = .ok (.getfield 86, 3) := by decide +kernel
theorem dX9_reach_178 : decode cX9_reach 178 = .ok (.aload_n 0, 1) := by decide +kernel
theorem dX9_reach_179 : decode cX9_reach 179 = .ok (.getfield 13, 3) := by decide +kernel
theorem dX9_reach_182 : decode cX9_reach 182 = .ok (.iload 6, 2) := by decide +kernel
theorem dX9_reach_184 : decode cX9_reach 184 = .ok (.iaload, 1) := by decide +kernel
theorem dX9_reach_185 : decode cX9_reach 185 = .ok (.iaload, 1) := by decide +kernel
theorem dX9_reach_186 : decode cX9_reach 186 = .ok (.iload 7, 2) := by decide +kernel
theorem dX9_reach_188 : decode cX9_reach 188 = .ok (.iadd, 1) := by decide +kernel
theorem dX9_reach_189 : decode cX9_reach 189 = .ok (.aload_n 0, 1) := by decide +kernel
theorem dX9_reach_190 : decode cX9_reach 190 = .ok (.getfield 86, 3) := by decide +kernel
theorem dX9_reach_193 : decode cX9_reach 193 = .ok (.aload_n 0, 1) := by decide +kernel
theorem dX9_reach_194 : decode cX9_reach 194 = .ok (.getfield 7, 3) := by decide +kernel
theorem dX9_reach_197 : decode cX9_reach 197 = .ok (.iload 6, 2) := by decide +kernel
theorem dX9_reach_199 : decode cX9_reach 199 = .ok (.iaload, 1) := by decide +kernel
theorem dX9_reach_200 : decode cX9_reach 200 = .ok (.iaload, 1) := by decide +kernel
theorem dX9_reach_201 : decode cX9_reach 201 = .ok (.if_icmp .ge 33, 3) := by decide +kernel
theorem dX9_reach_204 : decode cX9_reach 204 = .ok (.aload_n 0, 1) := by decide +kernel
theorem dX9_reach_205 : decode cX9_reach 205 = .ok (.getfield 86, 3) := by decide +kernel
theorem dX9_reach_208 : decode cX9_reach 208 = .ok (.aload_n 0, 1) := by decide +kernel
theorem dX9_reach_209 : decode cX9_reach 209 = .ok (.getfield 7, 3) := by decide +kernel
theorem dX9_reach_212 : decode cX9_reach 212 = .ok (.iload 6, 2) := by decide +kernel
theorem dX9_reach_214 : decode cX9_reach 214 = .ok (.iaload, 1) := by decide +kernel
theorem dX9_reach_215 : decode cX9_reach 215 = .ok (.aload_n 0, 1) := by decide +kernel
theorem dX9_reach_216 : decode cX9_reach 216 = .ok (.getfield 86, 3) := by decide +kernel
theorem dX9_reach_219 : decode cX9_reach 219 = .ok (.aload_n 0, 1) := by decide +kernel
theorem dX9_reach_220 : decode cX9_reach 220 = .ok (.getfield 13, 3) := by decide +kernel
theorem dX9_reach_223 : decode cX9_reach 223 = .ok (.iload 6, 2) := by decide +kernel
theorem dX9_reach_225 : decode cX9_reach 225 = .ok (.iaload, 1) := by decide +kernel
theorem dX9_reach_226 : decode cX9_reach 226 = .ok (.iaload, 1) := by decide +kernel
theorem dX9_reach_227 : decode cX9_reach 227 = .ok (.iload 7, 2) := by decide +kernel
theorem dX9_reach_229 : decode cX9_reach 229 = .ok (.iadd, 1) := by decide +kernel
theorem dX9_reach_230 : decode cX9_reach 230 = .ok (.iastore, 1) := by decide +kernel
theorem dX9_reach_231 : decode cX9_reach 231 = .ok (.iconst 1, 1) := by decide +kernel
theorem dX9_reach_232 : decode cX9_reach 232 = .ok (.istore 5, 2) := by decide +kernel
theorem dX9_reach_234 : decode cX9_reach 234 = .ok (.iinc 6 1, 3) := by decide +kernel
theorem dX9_reach_237 : decode cX9_reach 237 = .ok (.goto (-187), 3) := by decide +kernel
theorem dX9_reach_240 : decode cX9_reach 240 = .ok (.goto (-201), 3) := by decide +kernel
theorem dX9_reach_243 : decode cX9_reach 243 = .ok (.return_, 1) := by decide +kernel
theorem dX9_isInForce_0 : decode cX9_isInForce 0 = .ok (.aload_n 0, 1) := by decide +kernel
theorem dX9_isInForce_1 : decode cX9_isInForce 1 = .ok (.getfield 41, 3) := by decide +kernel
theorem dX9_isInForce_4 : decode cX9_isInForce 4 = .ok (.iload_n 1, 1) := by decide +kernel
theorem dX9_isInForce_5 : decode cX9_isInForce 5 = .ok (.iaload, 1) := by decide +kernel
theorem dX9_isInForce_6 : decode cX9_isInForce 6 = .ok (.iload_n 2, 1) := by decide +kernel
theorem dX9_isInForce_7 : decode cX9_isInForce 7 = .ok (.if_icmp .gt 26, 3) := by decide +kernel
theorem dX9_isInForce_10 : decode cX9_isInForce 10 = .ok (.aload_n 0, 1) := by decide +kernel
theorem dX9_isInForce_11 : decode cX9_isInForce 11 = .ok (.getfield 44, 3) := by decide +kernel
theorem dX9_isInForce_14 : decode cX9_isInForce 14 = .ok (.iload_n 1, 1) := by decide +kernel
theorem dX9_isInForce_15 : decode cX9_isInForce 15 = .ok (.iaload, 1) := by decide +kernel
theorem dX9_isInForce_16 : decode cX9_isInForce 16 = .ok (.ifCond .lt 13, 3) := by decide +kernel
theorem dX9_isInForce_19 : decode cX9_isInForce 19 = .ok (.iload_n 2, 1) := by decide +kernel
theorem dX9_isInForce_20 : decode cX9_isInForce 20 = .ok (.aload_n 0, 1) := by decide +kernel
theorem dX9_isInForce_21 : decode cX9_isInForce 21 = .ok (.getfield 44, 3) := by decide +kernel
theorem dX9_isInForce_24 : decode cX9_isInForce 24 = .ok (.iload_n 1, 1) := by decide +kernel
theorem dX9_isInForce_25 : decode cX9_isInForce 25 = .ok (.iaload, 1) := by decide +kernel
theorem dX9_isInForce_26 : decode cX9_isInForce 26 = .ok (.if_icmp .ge 7, 3) := by decide +kernel
theorem dX9_isInForce_29 : decode cX9_isInForce 29 = .ok (.iconst 1, 1) := by decide +kernel
theorem dX9_isInForce_30 : decode cX9_isInForce 30 = .ok (.goto 4, 3) := by decide +kernel
theorem dX9_isInForce_33 : decode cX9_isInForce 33 = .ok (.iconst 0, 1) := by decide +kernel
theorem dX9_isInForce_34 : decode cX9_isInForce 34 = .ok (.ireturn, 1) := by decide +kernel
theorem dX9_wanted_0 : decode cX9_wanted 0 = .ok (.iconst 1, 1) := by decide +kernel
theorem dX9_wanted_1 : decode cX9_wanted 1 = .ok (.istore_n 3, 1) := by decide +kernel
theorem dX9_wanted_2 : decode cX9_wanted 2 = .ok (.iconst 0, 1) := by decide +kernel
theorem dX9_wanted_3 : decode cX9_wanted 3 = .ok (.istore 4, 2) := by decide +kernel
theorem dX9_wanted_5 : decode cX9_wanted 5 = .ok (.iload 4, 2) := by decide +kernel
theorem dX9_wanted_7 : decode cX9_wanted 7 = .ok (.aload_n 0, 1) := by decide +kernel
theorem dX9_wanted_8 : decode cX9_wanted 8 = .ok (.getfield 140, 3) := by decide +kernel
theorem dX9_wanted_11 : decode cX9_wanted 11 = .ok (.if_icmp .ge 47, 3) := by decide +kernel
theorem dX9_wanted_14 : decode cX9_wanted 14 = .ok (.aload_n 0, 1) := by decide +kernel
theorem dX9_wanted_15 : decode cX9_wanted 15 = .ok (.getfield 29, 3) := by decide +kernel
theorem dX9_wanted_18 : decode cX9_wanted 18 = .ok (.iload 4, 2) := by decide +kernel
theorem dX9_wanted_20 : decode cX9_wanted 20 = .ok (.iaload, 1) := by decide +kernel
theorem dX9_wanted_21 : decode cX9_wanted 21 = .ok (.iconst 2, 1) := by decide +kernel
theorem dX9_wanted_22 : decode cX9_wanted 22 = .ok (.if_icmp .ne 28, 3) := by decide +kernel
theorem dX9_wanted_25 : decode cX9_wanted 25 = .ok (.aload_n 0, 1) := by decide +kernel
theorem dX9_wanted_26 : decode cX9_wanted 26 = .ok (.getfield 32, 3) := by decide +kernel
theorem dX9_wanted_29 : decode cX9_wanted 29 = .ok (.iload 4, 2) := by decide +kernel
theorem dX9_wanted_31 : decode cX9_wanted 31 = .ok (.iaload, 1) := by decide +kernel
theorem dX9_wanted_32 : decode cX9_wanted 32 = .ok (.iload_n 1, 1) := by decide +kernel
theorem dX9_wanted_33 : decode cX9_wanted 33 = .ok (.if_icmp .ne 17, 3) := by decide +kernel
theorem dX9_wanted_36 : decode cX9_wanted 36 = .ok (.aload_n 0, 1) := by decide +kernel
theorem dX9_wanted_37 : decode cX9_wanted 37 = .ok (.iload 4, 2) := by decide +kernel
theorem dX9_wanted_39 : decode cX9_wanted 39 = .ok (.iload_n 2, 1) := by decide +kernel
theorem dX9_wanted_40 : decode cX9_wanted 40 = .ok (.invokevirtual 143, 3) := by decide +kernel
theorem dX9_wanted_43 : decode cX9_wanted 43 = .ok (.ifCond .eq 7, 3) := by decide +kernel
theorem dX9_wanted_46 : decode cX9_wanted 46 = .ok (.iconst 2, 1) := by decide +kernel
theorem dX9_wanted_47 : decode cX9_wanted 47 = .ok (.goto 4, 3) := by decide +kernel
theorem dX9_wanted_50 : decode cX9_wanted 50 = .ok (.iload_n 3, 1) := by decide +kernel
theorem dX9_wanted_51 : decode cX9_wanted 51 = .ok (.istore_n 3, 1) := by decide +kernel
theorem dX9_wanted_52 : decode cX9_wanted 52 = .ok (.iinc 4 1, 3) := by decide +kernel
theorem dX9_wanted_55 : decode cX9_wanted 55 = .ok (.goto (-50), 3) := by decide +kernel
theorem dX9_wanted_58 : decode cX9_wanted 58 = .ok (.iload_n 3, 1) := by decide +kernel
theorem dX9_wanted_59 : decode cX9_wanted 59 = .ok (.ireturn, 1) := by decide +kernel
theorem dX9_isSafe_0 : decode cX9_isSafe 0 = .ok (.aload_n 0, 1) := by decide +kernel
theorem dX9_isSafe_1 : decode cX9_isSafe 1 = .ok (.iload_n 1, 1) := by decide +kernel
theorem dX9_isSafe_2 : decode cX9_isSafe 2 = .ok (.iload_n 2, 1) := by decide +kernel
theorem dX9_isSafe_3 : decode cX9_isSafe 3 = .ok (.iload 4, 2) := by decide +kernel
theorem dX9_isSafe_5 : decode cX9_isSafe 5 = .ok (.iconst 0, 1) := by decide +kernel
theorem dX9_isSafe_6 : decode cX9_isSafe 6 = .ok (.invokevirtual 146, 3) := by decide +kernel
theorem dX9_isSafe_9 : decode cX9_isSafe 9 = .ok (.iconst 1, 1) := by decide +kernel
theorem dX9_isSafe_10 : decode cX9_isSafe 10 = .ok (.istore 5, 2) := by decide +kernel
theorem dX9_isSafe_12 : decode cX9_isSafe 12 = .ok (.iconst 0, 1) := by decide +kernel
theorem dX9_isSafe_13 : decode cX9_isSafe 13 = .ok (.istore 6, 2) := by decide +kernel
theorem dX9_isSafe_15 : decode cX9_isSafe 15 = .ok (.iload 6, 2) := by decide +kernel
theorem dX9_isSafe_17 : decode cX9_isSafe 17 = .ok (.iconst 3, 1) := by decide +kernel
theorem dX9_isSafe_18 : decode cX9_isSafe 18 = .ok (.if_icmp .ge 79, 3) := by decide +kernel
theorem dX9_isSafe_21 : decode cX9_isSafe 21 = .ok (.aload_n 0, 1) := by decide +kernel
theorem dX9_isSafe_22 : decode cX9_isSafe 22 = .ok (.iload 6, 2) := by decide +kernel
theorem dX9_isSafe_24 : decode cX9_isSafe 24 = .ok (.iload_n 3, 1) := by decide +kernel
theorem dX9_isSafe_25 : decode cX9_isSafe 25 = .ok (.invokevirtual 150, 3) := by decide +kernel
theorem dX9_isSafe_28 : decode cX9_isSafe 28 = .ok (.istore 7, 2) := by decide +kernel
theorem dX9_isSafe_30 : decode cX9_isSafe 30 = .ok (.iconst 0, 1) := by decide +kernel
theorem dX9_isSafe_31 : decode cX9_isSafe 31 = .ok (.istore 8, 2) := by decide +kernel
theorem dX9_isSafe_33 : decode cX9_isSafe 33 = .ok (.iload 8, 2) := by decide +kernel
theorem dX9_isSafe_35 : decode cX9_isSafe 35 = .ok (.bipush 10, 2) := by decide +kernel
theorem dX9_isSafe_37 : decode cX9_isSafe 37 = .ok (.if_icmp .ge 54, 3) := by decide +kernel
theorem dX9_isSafe_40 : decode cX9_isSafe 40 = .ok (.iload 5, 2) := by decide +kernel
theorem dX9_isSafe_42 : decode cX9_isSafe 42 = .ok (.ifCond .eq 40, 3) := by decide +kernel
theorem dX9_isSafe_45 : decode cX9_isSafe 45 = .ok (.aload_n 0, 1) := by decide +kernel
theorem dX9_isSafe_46 : decode cX9_isSafe 46 = .ok (.getfield 26, 3) := by decide +kernel
theorem dX9_isSafe_49 : decode cX9_isSafe 49 = .ok (.iconst 3, 1) := by decide +kernel
theorem dX9_isSafe_50 : decode cX9_isSafe 50 = .ok (.iload 8, 2) := by decide +kernel
theorem dX9_isSafe_52 : decode cX9_isSafe 52 = .ok (.imul, 1) := by decide +kernel
theorem dX9_isSafe_53 : decode cX9_isSafe 53 = .ok (.iload 6, 2) := by decide +kernel
theorem dX9_isSafe_55 : decode cX9_isSafe 55 = .ok (.iadd, 1) := by decide +kernel
theorem dX9_isSafe_56 : decode cX9_isSafe 56 = .ok (.baload, 1) := by decide +kernel
theorem dX9_isSafe_57 : decode cX9_isSafe 57 = .ok (.ifCond .eq 21, 3) := by decide +kernel
theorem dX9_isSafe_60 : decode cX9_isSafe 60 = .ok (.aload_n 0, 1) := by decide +kernel
theorem dX9_isSafe_61 : decode cX9_isSafe 61 = .ok (.getfield 86, 3) := by decide +kernel
theorem dX9_isSafe_64 : decode cX9_isSafe 64 = .ok (.iload 8, 2) := by decide +kernel
theorem dX9_isSafe_66 : decode cX9_isSafe 66 = .ok (.iaload, 1) := by decide +kernel
theorem dX9_isSafe_67 : decode cX9_isSafe 67 = .ok (.iload 7, 2) := by decide +kernel
theorem dX9_isSafe_69 : decode cX9_isSafe 69 = .ok (.if_icmp .lt 13, 3) := by decide +kernel
theorem dX9_isSafe_72 : decode cX9_isSafe 72 = .ok (.iload 8, 2) := by decide +kernel
theorem dX9_isSafe_74 : decode cX9_isSafe 74 = .ok (.iload_n 1, 1) := by decide +kernel
theorem dX9_isSafe_75 : decode cX9_isSafe 75 = .ok (.if_icmp .eq 7, 3) := by decide +kernel
theorem dX9_isSafe_78 : decode cX9_isSafe 78 = .ok (.iconst 1, 1) := by decide +kernel
theorem dX9_isSafe_79 : decode cX9_isSafe 79 = .ok (.goto 4, 3) := by decide +kernel
theorem dX9_isSafe_82 : decode cX9_isSafe 82 = .ok (.iconst 0, 1) := by decide +kernel
theorem dX9_isSafe_83 : decode cX9_isSafe 83 = .ok (.istore 5, 2) := by decide +kernel
theorem dX9_isSafe_85 : decode cX9_isSafe 85 = .ok (.iinc 8 1, 3) := by decide +kernel
theorem dX9_isSafe_88 : decode cX9_isSafe 88 = .ok (.goto (-55), 3) := by decide +kernel
theorem dX9_isSafe_91 : decode cX9_isSafe 91 = .ok (.iinc 6 1, 3) := by decide +kernel
theorem dX9_isSafe_94 : decode cX9_isSafe 94 = .ok (.goto (-79), 3) := by decide +kernel
theorem dX9_isSafe_97 : decode cX9_isSafe 97 = .ok (.iload 5, 2) := by decide +kernel
theorem dX9_isSafe_99 : decode cX9_isSafe 99 = .ok (.ireturn, 1) := by decide +kernel
theorem dX9_isSafeNow_0 : decode cX9_isSafeNow 0 = .ok (.aload_n 0, 1) := by decide +kernel
theorem dX9_isSafeNow_1 : decode cX9_isSafeNow 1 = .ok (.iload_n 1, 1) := by decide +kernel
theorem dX9_isSafeNow_2 : decode cX9_isSafeNow 2 = .ok (.iload_n 2, 1) := by decide +kernel
theorem dX9_isSafeNow_3 : decode cX9_isSafeNow 3 = .ok (.aload_n 0, 1) := by decide +kernel
theorem dX9_isSafeNow_4 : decode cX9_isSafeNow 4 = .ok (.getfield 119, 3) := by decide +kernel
theorem dX9_isSafeNow_7 : decode cX9_isSafeNow 7 = .ok (.aload_n 0, 1) := by decide +kernel
theorem dX9_isSafeNow_8 : decode cX9_isSafeNow 8 = .ok (.getfield 119, 3) := by decide +kernel
theorem dX9_isSafeNow_11 : decode cX9_isSafeNow 11 = .ok (.invokevirtual 154, 3) := by decide +kernel
theorem dX9_isSafeNow_14 : decode cX9_isSafeNow 14 = .ok (.ireturn, 1) := by decide +kernel
theorem dX9_safe_0 : decode cX9_safe 0 = .ok (.iload_n 1, 1) := by decide +kernel
theorem dX9_safe_1 : decode cX9_safe 1 = .ok (.invokestatic 116, 3) := by decide +kernel
theorem dX9_safe_4 : decode cX9_safe 4 = .ok (.ifCond .ne 5, 3) := by decide +kernel
theorem dX9_safe_7 : decode cX9_safe 7 = .ok (.iconst (-1), 1) := by decide +kernel
theorem dX9_safe_8 : decode cX9_safe 8 = .ok (.ireturn, 1) := by decide +kernel
theorem dX9_safe_9 : decode cX9_safe 9 = .ok (.aload_n 0, 1) := by decide +kernel
theorem dX9_safe_10 : decode cX9_safe 10 = .ok (.iload_n 1, 1) := by decide +kernel
theorem dX9_safe_11 : decode cX9_safe 11 = .ok (.aload_n 0, 1) := by decide +kernel
theorem dX9_safe_12 : decode cX9_safe 12 = .ok (.invokevirtual 133, 3) := by decide +kernel
theorem dX9_safe_15 : decode cX9_safe 15 = .ok (.invokevirtual 158, 3) := by decide +kernel
theorem dX9_safe_18 : decode cX9_safe 18 = .ok (.ifCond .eq 7, 3) := by decide +kernel
theorem dX9_safe_21 : decode cX9_safe 21 = .ok (.iconst 1, 1) := by decide +kernel
theorem dX9_safe_22 : decode cX9_safe 22 = .ok (.goto 4, 3) := by decide +kernel
theorem dX9_safe_25 : decode cX9_safe 25 = .ok (.iconst 0, 1) := by decide +kernel
theorem dX9_safe_26 : decode cX9_safe 26 = .ok (.ireturn, 1) := by decide +kernel
theorem dX9_between_0 : decode cX9_between 0 = .ok (.iload_n 1, 1) := by decide +kernel
theorem dX9_between_1 : decode cX9_between 1 = .ok (.invokestatic 116, 3) := by decide +kernel
theorem dX9_between_4 : decode cX9_between 4 = .ok (.ifCond .eq 10, 3) := by decide +kernel
theorem dX9_between_7 : decode cX9_between 7 = .ok (.iload_n 2, 1) := by decide +kernel
theorem dX9_between_8 : decode cX9_between 8 = .ok (.invokestatic 116, 3) := by decide +kernel
theorem dX9_between_11 : decode cX9_between 11 = .ok (.ifCond .ne 5, 3) := by decide +kernel
theorem dX9_between_14 : decode cX9_between 14 = .ok (.iconst (-1), 1) := by decide +kernel
theorem dX9_between_15 : decode cX9_between 15 = .ok (.ireturn, 1) := by decide +kernel
theorem dX9_between_16 : decode cX9_between 16 = .ok (.aload_n 0, 1) := by decide +kernel
theorem dX9_between_17 : decode cX9_between 17 = .ok (.iload_n 1, 1) := by decide +kernel
theorem dX9_between_18 : decode cX9_between 18 = .ok (.aload_n 0, 1) := by decide +kernel
theorem dX9_between_19 : decode cX9_between 19 = .ok (.invokevirtual 133, 3) := by decide +kernel
theorem dX9_between_22 : decode cX9_between 22 = .ok (.aload_n 0, 1) := by decide +kernel
theorem dX9_between_23 : decode cX9_between 23 = .ok (.getfield 119, 3) := by decide +kernel
theorem dX9_between_26 : decode cX9_between 26 = .ok (.iload_n 3, 1) := by decide +kernel
theorem dX9_between_27 : decode cX9_between 27 = .ok (.invokevirtual 146, 3) := by decide +kernel
theorem dX9_between_30 : decode cX9_between 30 = .ok (.aload_n 0, 1) := by decide +kernel
theorem dX9_between_31 : decode cX9_between 31 = .ok (.getfield 86, 3) := by decide +kernel
theorem dX9_between_34 : decode cX9_between 34 = .ok (.iload_n 2, 1) := by decide +kernel
theorem dX9_between_35 : decode cX9_between 35 = .ok (.iaload, 1) := by decide +kernel
theorem dX9_between_36 : decode cX9_between 36 = .ok (.sipush 1000, 3) := by decide +kernel
theorem dX9_between_39 : decode cX9_between 39 = .ok (.if_icmp .ne 8, 3) := by decide +kernel
theorem dX9_between_42 : decode cX9_between 42 = .ok (.bipush (-3), 2) := by decide +kernel
theorem dX9_between_44 : decode cX9_between 44 = .ok (.goto 9, 3) := by decide +kernel
theorem dX9_between_47 : decode cX9_between 47 = .ok (.aload_n 0, 1) := by decide +kernel
theorem dX9_between_48 : decode cX9_between 48 = .ok (.getfield 86, 3) := by decide +kernel
theorem dX9_between_51 : decode cX9_between 51 = .ok (.iload_n 2, 1) := by decide +kernel
theorem dX9_between_52 : decode cX9_between 52 = .ok (.iaload, 1) := by decide +kernel
theorem dX9_between_53 : decode cX9_between 53 = .ok (.ireturn, 1) := by decide +kernel
theorem dX9_barriers_0 : decode cX9_barriers 0 = .ok (.aload_n 0, 1) := by decide +kernel
theorem dX9_barriers_1 : decode cX9_barriers 1 = .ok (.iload_n 1, 1) := by decide +kernel
theorem dX9_barriers_2 : decode cX9_barriers 2 = .ok (.iload_n 2, 1) := by decide +kernel
theorem dX9_barriers_3 : decode cX9_barriers 3 = .ok (.iconst 0, 1) := by decide +kernel
theorem dX9_barriers_4 : decode cX9_barriers 4 = .ok (.invokevirtual 161, 3) := by decide +kernel
theorem dX9_barriers_7 : decode cX9_barriers 7 = .ok (.ireturn, 1) := by decide +kernel
theorem dX9_apart_0 : decode cX9_apart 0 = .ok (.aload_n 0, 1) := by decide +kernel
theorem dX9_apart_1 : decode cX9_apart 1 = .ok (.iload_n 1, 1) := by decide +kernel
theorem dX9_apart_2 : decode cX9_apart 2 = .ok (.iload_n 2, 1) := by decide +kernel
theorem dX9_apart_3 : decode cX9_apart 3 = .ok (.iconst 1, 1) := by decide +kernel
theorem dX9_apart_4 : decode cX9_apart 4 = .ok (.invokevirtual 161, 3) := by decide +kernel
theorem dX9_apart_7 : decode cX9_apart 7 = .ok (.ireturn, 1) := by decide +kernel
theorem dX9_liveNow_0 : decode cX9_liveNow 0 = .ok (.iconst 0, 1) := by decide +kernel
theorem dX9_liveNow_1 : decode cX9_liveNow 1 = .ok (.istore_n 1, 1) := by decide +kernel
theorem dX9_liveNow_2 : decode cX9_liveNow 2 = .ok (.iconst 0, 1) := by decide +kernel
theorem dX9_liveNow_3 : decode cX9_liveNow 3 = .ok (.istore_n 2, 1) := by decide +kernel
theorem dX9_liveNow_4 : decode cX9_liveNow 4 = .ok (.iload_n 2, 1) := by decide +kernel
theorem dX9_liveNow_5 : decode cX9_liveNow 5 = .ok (.aload_n 0, 1) := by decide +kernel
theorem dX9_liveNow_6 : decode cX9_liveNow 6 = .ok (.getfield 113, 3) := by decide +kernel
theorem dX9_liveNow_9 : decode cX9_liveNow 9 = .ok (.if_icmp .ge 29, 3) := by decide +kernel
theorem dX9_liveNow_12 : decode cX9_liveNow 12 = .ok (.iload_n 1, 1) := by decide +kernel
theorem dX9_liveNow_13 : decode cX9_liveNow 13 = .ok (.aload_n 0, 1) := by decide +kernel
theorem dX9_liveNow_14 : decode cX9_liveNow 14 = .ok (.getfield 62, 3) := by decide +kernel
theorem dX9_liveNow_17 : decode cX9_liveNow 17 = .ok (.iload_n 2, 1) := by decide +kernel
theorem dX9_liveNow_18 : decode cX9_liveNow 18 = .ok (.iaload, 1) := by decide +kernel
theorem dX9_liveNow_19 : decode cX9_liveNow 19 = .ok (.iconst 3, 1) := by decide +kernel
theorem dX9_liveNow_20 : decode cX9_liveNow 20 = .ok (.if_icmp .ne 9, 3) := by decide +kernel
theorem dX9_liveNow_23 : decode cX9_liveNow 23 = .ok (.iconst 1, 1) := by decide +kernel
theorem dX9_liveNow_24 : decode cX9_liveNow 24 = .ok (.iload_n 2, 1) := by decide +kernel
theorem dX9_liveNow_25 : decode cX9_liveNow 25 = .ok (.ishl, 1) := by decide +kernel
theorem dX9_liveNow_26 : decode cX9_liveNow 26 = .ok (.goto 4, 3) := by decide +kernel
theorem dX9_liveNow_29 : decode cX9_liveNow 29 = .ok (.iconst 0, 1) := by decide +kernel
theorem dX9_liveNow_30 : decode cX9_liveNow 30 = .ok (.ior, 1) := by decide +kernel
theorem dX9_liveNow_31 : decode cX9_liveNow 31 = .ok (.istore_n 1, 1) := by decide +kernel
theorem dX9_liveNow_32 : decode cX9_liveNow 32 = .ok (.iinc 2 1, 3) := by decide +kernel
theorem dX9_liveNow_35 : decode cX9_liveNow 35 = .ok (.goto (-31), 3) := by decide +kernel
theorem dX9_liveNow_38 : decode cX9_liveNow 38 = .ok (.iload_n 1, 1) := by decide +kernel
theorem dX9_liveNow_39 : decode cX9_liveNow 39 = .ok (.ireturn, 1) := by decide +kernel
theorem dX9_go_0 : decode cX9_go 0 = .ok (.iload_n 1, 1) := by decide +kernel
theorem dX9_go_1 : decode cX9_go 1 = .ok (.iconst 1, 1) := by decide +kernel
theorem dX9_go_2 : decode cX9_go 2 = .ok (.bipush 48, 2) := by decide +kernel
theorem dX9_go_4 : decode cX9_go 4 = .ok (.invokestatic 105, 3) := by decide +kernel
theorem dX9_go_7 : decode cX9_go 7 = .ok (.ifCond .eq 15, 3) := by decide +kernel
theorem dX9_go_10 : decode cX9_go 10 = .ok (.aload_n 0, 1) := by decide +kernel
theorem dX9_go_11 : decode cX9_go 11 = .ok (.getfield 119, 3) := by decide +kernel
theorem dX9_go_14 : decode cX9_go 14 = .ok (.iload_n 1, 1) := by decide +kernel
theorem dX9_go_15 : decode cX9_go 15 = .ok (.iadd, 1) := by decide +kernel
theorem dX9_go_16 : decode cX9_go 16 = .ok (.sipush 300, 3) := by decide +kernel
theorem dX9_go_19 : decode cX9_go 19 = .ok (.if_icmp .le 5, 3) := by decide +kernel
theorem dX9_go_22 : decode cX9_go 22 = .ok (.iconst (-1), 1) := by decide +kernel
theorem dX9_go_23 : decode cX9_go 23 = .ok (.ireturn, 1) := by decide +kernel
theorem dX9_go_24 : decode cX9_go 24 = .ok (.iconst 0, 1) := by decide +kernel
theorem dX9_go_25 : decode cX9_go 25 = .ok (.istore_n 2, 1) := by decide +kernel
theorem dX9_go_26 : decode cX9_go 26 = .ok (.iload_n 2, 1) := by decide +kernel
theorem dX9_go_27 : decode cX9_go 27 = .ok (.iload_n 1, 1) := by decide +kernel
theorem dX9_go_28 : decode cX9_go 28 = .ok (.if_icmp .ge 45, 3) := by decide +kernel
theorem dX9_go_31 : decode cX9_go 31 = .ok (.aload_n 0, 1) := by decide +kernel
theorem dX9_go_32 : decode cX9_go 32 = .ok (.getfield 77, 3) := by decide +kernel
theorem dX9_go_35 : decode cX9_go 35 = .ok (.aload_n 0, 1) := by decide +kernel
theorem dX9_go_36 : decode cX9_go 36 = .ok (.getfield 119, 3) := by decide +kernel
theorem dX9_go_39 : decode cX9_go 39 = .ok (.aload_n 0, 1) := by decide +kernel
theorem dX9_go_40 : decode cX9_go 40 = .ok (.invokevirtual 133, 3) := by decide +kernel
theorem dX9_go_43 : decode cX9_go 43 = .ok (.iastore, 1) := by decide +kernel
theorem dX9_go_44 : decode cX9_go 44 = .ok (.aload_n 0, 1) := by decide +kernel
theorem dX9_go_45 : decode cX9_go 45 = .ok (.getfield 80, 3) := by decide +kernel
theorem dX9_go_48 : decode cX9_go 48 = .ok (.aload_n 0, 1) := by decide +kernel
theorem dX9_go_49 : decode cX9_go 49 = .ok (.getfield 119, 3) := by decide +kernel
theorem dX9_go_52 : decode cX9_go 52 = .ok (.aload_n 0, 1) := by decide +kernel
theorem dX9_go_53 : decode cX9_go 53 = .ok (.invokevirtual 165, 3) := by decide +kernel
theorem dX9_go_56 : decode cX9_go 56 = .ok (.iastore, 1) := by decide +kernel
theorem dX9_go_57 : decode cX9_go 57 = .ok (.aload_n 0, 1) := by decide +kernel
theorem dX9_go_58 : decode cX9_go 58 = .ok (.dup, 1) := by decide +kernel
theorem dX9_go_59 : decode cX9_go 59 = .ok (.getfield 119, 3) := by decide +kernel
theorem dX9_go_62 : decode cX9_go 62 = .ok (.iconst 1, 1) := by decide +kernel
theorem dX9_go_63 : decode cX9_go 63 = .ok (.iadd, 1) := by decide +kernel
theorem dX9_go_64 : decode cX9_go 64 = .ok (.putfield 119, 3) := by decide +kernel
theorem dX9_go_67 : decode cX9_go 67 = .ok (.iinc 2 1, 3) := by decide +kernel
theorem dX9_go_70 : decode cX9_go 70 = .ok (.goto (-44), 3) := by decide +kernel
theorem dX9_go_73 : decode cX9_go 73 = .ok (.aload_n 0, 1) := by decide +kernel
theorem dX9_go_74 : decode cX9_go 74 = .ok (.getfield 119, 3) := by decide +kernel
theorem dX9_go_77 : decode cX9_go 77 = .ok (.ireturn, 1) := by decide +kernel
theorem dX9_feed_0 : decode cX9_feed 0 = .ok (.iload_n 3, 1) := by decide +kernel
theorem dX9_feed_1 : decode cX9_feed 1 = .ok (.iconst 1, 1) := by decide +kernel
theorem dX9_feed_2 : decode cX9_feed 2 = .ok (.bipush 8, 2) := by decide +kernel
theorem dX9_feed_4 : decode cX9_feed 4 = .ok (.invokestatic 105, 3) := by decide +kernel
theorem dX9_feed_7 : decode cX9_feed 7 = .ok (.ifCond .ne 5, 3) := by decide +kernel
theorem dX9_feed_10 : decode cX9_feed 10 = .ok (.iconst (-1), 1) := by decide +kernel
theorem dX9_feed_11 : decode cX9_feed 11 = .ok (.ireturn, 1) := by decide +kernel
theorem dX9_feed_12 : decode cX9_feed 12 = .ok (.aload_n 0, 1) := by decide +kernel
theorem dX9_feed_13 : decode cX9_feed 13 = .ok (.getfield 168, 3) := by decide +kernel
theorem dX9_feed_16 : decode cX9_feed 16 = .ok (.iload_n 3, 1) := by decide +kernel
theorem dX9_feed_17 : decode cX9_feed 17 = .ok (.iadd, 1) := by decide +kernel
theorem dX9_feed_18 : decode cX9_feed 18 = .ok (.bipush 60, 2) := by decide +kernel
theorem dX9_feed_20 : decode cX9_feed 20 = .ok (.if_icmp .le 6, 3) := by decide +kernel
theorem dX9_feed_23 : decode cX9_feed 23 = .ok (.bipush (-2), 2) := by decide +kernel
theorem dX9_feed_25 : decode cX9_feed 25 = .ok (.ireturn, 1) := by decide +kernel
theorem dX9_feed_26 : decode cX9_feed 26 = .ok (.iconst 0, 1) := by decide +kernel
theorem dX9_feed_27 : decode cX9_feed 27 = .ok (.istore 4, 2) := by decide +kernel
theorem dX9_feed_29 : decode cX9_feed 29 = .ok (.iload 4, 2) := by decide +kernel
theorem dX9_feed_31 : decode cX9_feed 31 = .ok (.iload_n 3, 1) := by decide +kernel
theorem dX9_feed_32 : decode cX9_feed 32 = .ok (.if_icmp .ge 40, 3) := by decide +kernel
theorem dX9_feed_35 : decode cX9_feed 35 = .ok (.aload_n 0, 1) := by decide +kernel
theorem dX9_feed_36 : decode cX9_feed 36 = .ok (.getfield 83, 3) := by decide +kernel
theorem dX9_feed_39 : decode cX9_feed 39 = .ok (.aload_n 0, 1) := by decide +kernel
theorem dX9_feed_40 : decode cX9_feed 40 = .ok (.getfield 168, 3) := by decide +kernel
theorem dX9_feed_43 : decode cX9_feed 43 = .ok (.lload_n 1, 1) := by decide +kernel
theorem dX9_feed_44 : decode cX9_feed 44 = .ok (.bipush 8, 2) := by decide +kernel
theorem dX9_feed_46 : decode cX9_feed 46 = .ok (.iload 4, 2) := by decide +kernel
theorem dX9_feed_48 : decode cX9_feed 48 = .ok (.imul, 1) := by decide +kernel
theorem dX9_feed_49 : decode cX9_feed 49 = .ok (.lshr, 1) := by decide +kernel
theorem dX9_feed_50 : decode cX9_feed 50 = .ok (.ldc2_w 171, 3) := by decide +kernel
theorem dX9_feed_53 : decode cX9_feed 53 = .ok (.land, 1) := by decide +kernel
theorem dX9_feed_54 : decode cX9_feed 54 = .ok (.l2i, 1) := by decide +kernel
theorem dX9_feed_55 : decode cX9_feed 55 = .ok (.iastore, 1) := by decide +kernel
theorem dX9_feed_56 : decode cX9_feed 56 = .ok (.aload_n 0, 1) := by decide +kernel
theorem dX9_feed_57 : decode cX9_feed 57 = .ok (.dup, 1) := by decide +kernel
theorem dX9_feed_58 : decode cX9_feed 58 = .ok (.getfield 168, 3) := by decide +kernel
theorem dX9_feed_61 : decode cX9_feed 61 = .ok (.iconst 1, 1) := by decide +kernel
theorem dX9_feed_62 : decode cX9_feed 62 = .ok (.iadd, 1) := by decide +kernel
theorem dX9_feed_63 : decode cX9_feed 63 = .ok (.putfield 168, 3) := by decide +kernel
theorem dX9_feed_66 : decode cX9_feed 66 = .ok (.iinc 4 1, 3) := by decide +kernel
theorem dX9_feed_69 : decode cX9_feed 69 = .ok (.goto (-40), 3) := by decide +kernel
theorem dX9_feed_72 : decode cX9_feed 72 = .ok (.aload_n 0, 1) := by decide +kernel
theorem dX9_feed_73 : decode cX9_feed 73 = .ok (.getfield 168, 3) := by decide +kernel
theorem dX9_feed_76 : decode cX9_feed 76 = .ok (.ireturn, 1) := by decide +kernel
theorem dX9_isDigit_0 : decode cX9_isDigit 0 = .ok (.iload_n 1, 1) := by decide +kernel
theorem dX9_isDigit_1 : decode cX9_isDigit 1 = .ok (.aload_n 0, 1) := by decide +kernel
theorem dX9_isDigit_2 : decode cX9_isDigit 2 = .ok (.getfield 168, 3) := by decide +kernel
theorem dX9_isDigit_5 : decode cX9_isDigit 5 = .ok (.if_icmp .ge 23, 3) := by decide +kernel
theorem dX9_isDigit_8 : decode cX9_isDigit 8 = .ok (.aload_n 0, 1) := by decide +kernel
theorem dX9_isDigit_9 : decode cX9_isDigit 9 = .ok (.getfield 83, 3) := by decide +kernel
theorem dX9_isDigit_12 : decode cX9_isDigit 12 = .ok (.iload_n 1, 1) := by decide +kernel
theorem dX9_isDigit_13 : decode cX9_isDigit 13 = .ok (.iaload, 1) := by decide +kernel
theorem dX9_isDigit_14 : decode cX9_isDigit 14 = .ok (.bipush 48, 2) := by decide +kernel
theorem dX9_isDigit_16 : decode cX9_isDigit 16 = .ok (.bipush 57, 2) := by decide +kernel
theorem dX9_isDigit_18 : decode cX9_isDigit 18 = .ok (.invokestatic 105, 3) := by decide +kernel
theorem dX9_isDigit_21 : decode cX9_isDigit 21 = .ok (.ifCond .eq 7, 3) := by decide +kernel
theorem dX9_isDigit_24 : decode cX9_isDigit 24 = .ok (.iconst 1, 1) := by decide +kernel
theorem dX9_isDigit_25 : decode cX9_isDigit 25 = .ok (.goto 4, 3) := by decide +kernel
theorem dX9_isDigit_28 : decode cX9_isDigit 28 = .ok (.iconst 0, 1) := by decide +kernel
theorem dX9_isDigit_29 : decode cX9_isDigit 29 = .ok (.ireturn, 1) := by decide +kernel
theorem dX9_isLetter_0 : decode cX9_isLetter 0 = .ok (.iload_n 1, 1) := by decide +kernel
theorem dX9_isLetter_1 : decode cX9_isLetter 1 = .ok (.aload_n 0, 1) := by decide +kernel
theorem dX9_isLetter_2 : decode cX9_isLetter 2 = .ok (.getfield 168, 3) := by decide +kernel
theorem dX9_isLetter_5 : decode cX9_isLetter 5 = .ok (.if_icmp .ge 23, 3) := by decide +kernel
theorem dX9_isLetter_8 : decode cX9_isLetter 8 = .ok (.aload_n 0, 1) := by decide +kernel
theorem dX9_isLetter_9 : decode cX9_isLetter 9 = .ok (.getfield 83, 3) := by decide +kernel
theorem dX9_isLetter_12 : decode cX9_isLetter 12 = .ok (.iload_n 1, 1) := by decide +kernel
theorem dX9_isLetter_13 : decode cX9_isLetter 13 = .ok (.iaload, 1) := by decide +kernel
theorem dX9_isLetter_14 : decode cX9_isLetter 14 = .ok (.bipush 97, 2) := by decide +kernel
theorem dX9_isLetter_16 : decode cX9_isLetter 16 = .ok (.bipush 122, 2) := by decide +kernel
theorem dX9_isLetter_18 : decode cX9_isLetter 18 = .ok (.invokestatic 105, 3) := by decide +kernel
theorem dX9_isLetter_21 : decode cX9_isLetter 21 = .ok (.ifCond .eq 7, 3) := by decide +kernel
theorem dX9_isLetter_24 : decode cX9_isLetter 24 = .ok (.iconst 1, 1) := by decide +kernel
theorem dX9_isLetter_25 : decode cX9_isLetter 25 = .ok (.goto 4, 3) := by decide +kernel
theorem dX9_isLetter_28 : decode cX9_isLetter 28 = .ok (.iconst 0, 1) := by decide +kernel
theorem dX9_isLetter_29 : decode cX9_isLetter 29 = .ok (.ireturn, 1) := by decide +kernel
theorem dX9_next_0 : decode cX9_next 0 = .ok (.aload_n 0, 1) := by decide +kernel
theorem dX9_next_1 : decode cX9_next 1 = .ok (.aload_n 0, 1) := by decide +kernel
theorem dX9_next_2 : decode cX9_next 2 = .ok (.getfield 173, 3) := by decide +kernel
theorem dX9_next_5 : decode cX9_next 5 = .ok (.putfield 176, 3) := by decide +kernel
theorem dX9_next_8 : decode cX9_next 8 = .ok (.aload_n 0, 1) := by decide +kernel
theorem dX9_next_9 : decode cX9_next 9 = .ok (.getfield 176, 3) := by decide +kernel
theorem dX9_next_12 : decode cX9_next 12 = .ok (.aload_n 0, 1) := by decide +kernel
theorem dX9_next_13 : decode cX9_next 13 = .ok (.getfield 168, 3) := by decide +kernel
theorem dX9_next_16 : decode cX9_next 16 = .ok (.if_icmp .ge 30, 3) := by decide +kernel
theorem dX9_next_19 : decode cX9_next 19 = .ok (.aload_n 0, 1) := by decide +kernel
theorem dX9_next_20 : decode cX9_next 20 = .ok (.getfield 83, 3) := by decide +kernel
theorem dX9_next_23 : decode cX9_next 23 = .ok (.aload_n 0, 1) := by decide +kernel
theorem dX9_next_24 : decode cX9_next 24 = .ok (.getfield 176, 3) := by decide +kernel
theorem dX9_next_27 : decode cX9_next 27 = .ok (.iaload, 1) := by decide +kernel
theorem dX9_next_28 : decode cX9_next 28 = .ok (.bipush 32, 2) := by decide +kernel
theorem dX9_next_30 : decode cX9_next 30 = .ok (.if_icmp .ne 16, 3) := by decide +kernel
theorem dX9_next_33 : decode cX9_next 33 = .ok (.aload_n 0, 1) := by decide +kernel
theorem dX9_next_34 : decode cX9_next 34 = .ok (.dup, 1) := by decide +kernel
theorem dX9_next_35 : decode cX9_next 35 = .ok (.getfield 176, 3) := by decide +kernel
theorem dX9_next_38 : decode cX9_next 38 = .ok (.iconst 1, 1) := by decide +kernel
theorem dX9_next_39 : decode cX9_next 39 = .ok (.iadd, 1) := by decide +kernel
theorem dX9_next_40 : decode cX9_next 40 = .ok (.putfield 176, 3) := by decide +kernel
theorem dX9_next_43 : decode cX9_next 43 = .ok (.goto (-35), 3) := by decide +kernel
theorem dX9_next_46 : decode cX9_next 46 = .ok (.aload_n 0, 1) := by decide +kernel
theorem dX9_next_47 : decode cX9_next 47 = .ok (.aload_n 0, 1) := by decide +kernel
theorem dX9_next_48 : decode cX9_next 48 = .ok (.getfield 176, 3) := by decide +kernel
theorem dX9_next_51 : decode cX9_next 51 = .ok (.aload_n 0, 1) := by decide +kernel
theorem dX9_next_52 : decode cX9_next 52 = .ok (.getfield 168, 3) := by decide +kernel
theorem dX9_next_55 : decode cX9_next 55 = .ok (.if_icmp .ge 12, 3) := by decide +kernel
theorem dX9_next_58 : decode cX9_next 58 = .ok (.aload_n 0, 1) := by decide +kernel
theorem dX9_next_59 : decode cX9_next 59 = .ok (.getfield 176, 3) := by decide +kernel
theorem dX9_next_62 : decode cX9_next 62 = .ok (.iconst 1, 1) := by decide +kernel
theorem dX9_next_63 : decode cX9_next 63 = .ok (.iadd, 1) := by decide +kernel
theorem dX9_next_64 : decode cX9_next 64 = .ok (.goto 7, 3) := by decide +kernel
theorem dX9_next_67 : decode cX9_next 67 = .ok (.aload_n 0, 1) := by decide +kernel
theorem dX9_next_68 : decode cX9_next 68 = .ok (.getfield 176, 3) := by decide +kernel
theorem dX9_next_71 : decode cX9_next 71 = .ok (.putfield 173, 3) := by decide +kernel
theorem dX9_next_74 : decode cX9_next 74 = .ok (.aload_n 0, 1) := by decide +kernel
theorem dX9_next_75 : decode cX9_next 75 = .ok (.aload_n 0, 1) := by decide +kernel
theorem dX9_next_76 : decode cX9_next 76 = .ok (.getfield 176, 3) := by decide +kernel
theorem dX9_next_79 : decode cX9_next 79 = .ok (.invokevirtual 179, 3) := by decide +kernel
theorem dX9_next_82 : decode cX9_next 82 = .ok (.istore_n 1, 1) := by decide +kernel
theorem dX9_next_83 : decode cX9_next 83 = .ok (.aload_n 0, 1) := by decide +kernel
theorem dX9_next_84 : decode cX9_next 84 = .ok (.aload_n 0, 1) := by decide +kernel
theorem dX9_next_85 : decode cX9_next 85 = .ok (.getfield 176, 3) := by decide +kernel
theorem dX9_next_88 : decode cX9_next 88 = .ok (.invokevirtual 182, 3) := by decide +kernel
theorem dX9_next_91 : decode cX9_next 91 = .ok (.istore_n 2, 1) := by decide +kernel
theorem dX9_next_92 : decode cX9_next 92 = .ok (.iload_n 1, 1) := by decide +kernel
theorem dX9_next_93 : decode cX9_next 93 = .ok (.ifCond .eq 14, 3) := by decide +kernel
theorem dX9_next_96 : decode cX9_next 96 = .ok (.aload_n 0, 1) := by decide +kernel
theorem dX9_next_97 : decode cX9_next 97 = .ok (.aload_n 0, 1) := by decide +kernel
theorem dX9_next_98 : decode cX9_next 98 = .ok (.getfield 173, 3) := by decide +kernel
theorem dX9_next_101 : decode cX9_next 101 = .ok (.invokevirtual 179, 3) := by decide +kernel
theorem dX9_next_104 : decode cX9_next 104 = .ok (.ifCond .ne 18, 3) := by decide +kernel
theorem dX9_next_107 : decode cX9_next 107 = .ok (.iload_n 2, 1) := by decide +kernel
theorem dX9_next_108 : decode cX9_next 108 = .ok (.ifCond .eq 27, 3) := by decide +kernel
theorem dX9_next_111 : decode cX9_next 111 = .ok (.aload_n 0, 1) := by decide +kernel
theorem dX9_next_112 : decode cX9_next 112 = .ok (.aload_n 0, 1) := by decide +kernel
theorem dX9_next_113 : decode cX9_next 113 = .ok (.getfield 173, 3) := by decide +kernel
theorem dX9_next_116 : decode cX9_next 116 = .ok (.invokevirtual 182, 3) := by decide +kernel
theorem dX9_next_119 : decode cX9_next 119 = .ok (.ifCond .eq 16, 3) := by decide +kernel
theorem dX9_next_122 : decode cX9_next 122 = .ok (.aload_n 0, 1) := by decide +kernel
theorem dX9_next_123 : decode cX9_next 123 = .ok (.dup, 1) := by decide +kernel
theorem dX9_next_124 : decode cX9_next 124 = .ok (.getfield 173, 3) := by decide +kernel
theorem dX9_next_127 : decode cX9_next 127 = .ok (.iconst 1, 1) := by decide +kernel
theorem dX9_next_128 : decode cX9_next 128 = .ok (.iadd, 1) := by decide +kernel
theorem dX9_next_129 : decode cX9_next 129 = .ok (.putfield 173, 3) := by decide +kernel
theorem dX9_next_132 : decode cX9_next 132 = .ok (.goto (-40), 3) := by decide +kernel
theorem dX9_next_135 : decode cX9_next 135 = .ok (.return_, 1) := by decide +kernel
theorem dX9_isWord_0 : decode cX9_isWord 0 = .ok (.aload_n 0, 1) := by decide +kernel
theorem dX9_isWord_1 : decode cX9_isWord 1 = .ok (.getfield 173, 3) := by decide +kernel
theorem dX9_isWord_4 : decode cX9_isWord 4 = .ok (.aload_n 0, 1) := by decide +kernel
theorem dX9_isWord_5 : decode cX9_isWord 5 = .ok (.getfield 176, 3) := by decide +kernel
theorem dX9_isWord_8 : decode cX9_isWord 8 = .ok (.isub, 1) := by decide +kernel
theorem dX9_isWord_9 : decode cX9_isWord 9 = .ok (.iload_n 3, 1) := by decide +kernel
theorem dX9_isWord_10 : decode cX9_isWord 10 = .ok (.if_icmp .ne 7, 3) := by decide +kernel
theorem dX9_isWord_13 : decode cX9_isWord 13 = .ok (.iconst 1, 1) := by decide +kernel
theorem dX9_isWord_14 : decode cX9_isWord 14 = .ok (.goto 4, 3) := by decide +kernel
theorem dX9_isWord_17 : decode cX9_isWord 17 = .ok (.iconst 0, 1) := by decide +kernel
theorem dX9_isWord_18 : decode cX9_isWord 18 = .ok (.istore 4, 2) := by decide +kernel
theorem dX9_isWord_20 : decode cX9_isWord 20 = .ok (.iconst 0, 1) := by decide +kernel
theorem dX9_isWord_21 : decode cX9_isWord 21 = .ok (.istore 5, 2) := by decide +kernel
theorem dX9_isWord_23 : decode cX9_isWord 23 = .ok (.iload 5, 2) := by decide +kernel
theorem dX9_isWord_25 : decode cX9_isWord 25 = .ok (.iload_n 3, 1) := by decide +kernel
theorem dX9_isWord_26 : decode cX9_isWord 26 = .ok (.if_icmp .ge 52, 3) := by decide +kernel
theorem dX9_isWord_29 : decode cX9_isWord 29 = .ok (.iload 4, 2) := by decide +kernel
theorem dX9_isWord_31 : decode cX9_isWord 31 = .ok (.ifCond .eq 47, 3) := by decide +kernel
theorem dX9_isWord_34 : decode cX9_isWord 34 = .ok (.aload_n 0, 1) := by decide +kernel
theorem dX9_isWord_35 : decode cX9_isWord 35 = .ok (.getfield 83, 3) := by decide +kernel
theorem dX9_isWord_38 : decode cX9_isWord 38 = .ok (.aload_n 0, 1) := by decide +kernel
theorem dX9_isWord_39 : decode cX9_isWord 39 = .ok (.getfield 176, 3) := by decide +kernel
theorem dX9_isWord_42 : decode cX9_isWord 42 = .ok (.iload 5, 2) := by decide +kernel
theorem dX9_isWord_44 : decode cX9_isWord 44 = .ok (.iadd, 1) := by decide +kernel
theorem dX9_isWord_45 : decode cX9_isWord 45 = .ok (.iaload, 1) := by decide +kernel
theorem dX9_isWord_46 : decode cX9_isWord 46 = .ok (.lload_n 1, 1) := by decide +kernel
theorem dX9_isWord_47 : decode cX9_isWord 47 = .ok (.bipush 8, 2) := by decide +kernel
theorem dX9_isWord_49 : decode cX9_isWord 49 = .ok (.iload_n 3, 1) := by decide +kernel
theorem dX9_isWord_50 : decode cX9_isWord 50 = .ok (.iconst 1, 1) := by decide +kernel
theorem dX9_isWord_51 : decode cX9_isWord 51 = .ok (.isub, 1) := by decide +kernel
theorem dX9_isWord_52 : decode cX9_isWord 52 = .ok (.iload 5, 2) := by decide +kernel
theorem dX9_isWord_54 : decode cX9_isWord 54 = .ok (.isub, 1) := by decide +kernel
theorem dX9_isWord_55 : decode cX9_isWord 55 = .ok (.imul, 1) := by decide +kernel
theorem dX9_isWord_56 : decode cX9_isWord 56 = .ok (.lshr, 1) := by decide +kernel
theorem dX9_isWord_57 : decode cX9_isWord 57 = .ok (.ldc2_w 171, 3) := by decide +kernel
theorem dX9_isWord_60 : decode cX9_isWord 60 = .ok (.land, 1) := by decide +kernel
theorem dX9_isWord_61 : decode cX9_isWord 61 = .ok (.l2i, 1) := by decide +kernel
theorem dX9_isWord_62 : decode cX9_isWord 62 = .ok (.if_icmp .ne 7, 3) := by decide +kernel
theorem dX9_isWord_65 : decode cX9_isWord 65 = .ok (.iconst 1, 1) := by decide +kernel
theorem dX9_isWord_66 : decode cX9_isWord 66 = .ok (.goto 4, 3) := by decide +kernel
theorem dX9_isWord_69 : decode cX9_isWord 69 = .ok (.iconst 0, 1) := by decide +kernel
theorem dX9_isWord_70 : decode cX9_isWord 70 = .ok (.istore 4, 2) := by decide +kernel
theorem dX9_isWord_72 : decode cX9_isWord 72 = .ok (.iinc 5 1, 3) := by decide +kernel
theorem dX9_isWord_75 : decode cX9_isWord 75 = .ok (.goto (-52), 3) := by decide +kernel
theorem dX9_isWord_78 : decode cX9_isWord 78 = .ok (.iload 4, 2) := by decide +kernel
theorem dX9_isWord_80 : decode cX9_isWord 80 = .ok (.ireturn, 1) := by decide +kernel
theorem dX9_bad_0 : decode cX9_bad 0 = .ok (.aload_n 0, 1) := by decide +kernel
theorem dX9_bad_1 : decode cX9_bad 1 = .ok (.aload_n 0, 1) := by decide +kernel
theorem dX9_bad_2 : decode cX9_bad 2 = .ok (.getfield 185, 3) := by decide +kernel
theorem dX9_bad_5 : decode cX9_bad 5 = .ok (.ifCond .ge 10, 3) := by decide +kernel
theorem dX9_bad_8 : decode cX9_bad 8 = .ok (.aload_n 0, 1) := by decide +kernel
theorem dX9_bad_9 : decode cX9_bad 9 = .ok (.getfield 176, 3) := by decide +kernel
theorem dX9_bad_12 : decode cX9_bad 12 = .ok (.goto 7, 3) := by decide +kernel
theorem dX9_bad_15 : decode cX9_bad 15 = .ok (.aload_n 0, 1) := by decide +kernel
theorem dX9_bad_16 : decode cX9_bad 16 = .ok (.getfield 185, 3) := by decide +kernel
theorem dX9_bad_19 : decode cX9_bad 19 = .ok (.putfield 185, 3) := by decide +kernel
theorem dX9_bad_22 : decode cX9_bad 22 = .ok (.return_, 1) := by decide +kernel
theorem dX9_word_0 : decode cX9_word 0 = .ok (.aload_n 0, 1) := by decide +kernel
theorem dX9_word_1 : decode cX9_word 1 = .ok (.lload_n 1, 1) := by decide +kernel
theorem dX9_word_2 : decode cX9_word 2 = .ok (.iload_n 3, 1) := by decide +kernel
theorem dX9_word_3 : decode cX9_word 3 = .ok (.invokevirtual 188, 3) := by decide +kernel
theorem dX9_word_6 : decode cX9_word 6 = .ok (.ifCond .ne 7, 3) := by decide +kernel
theorem dX9_word_9 : decode cX9_word 9 = .ok (.aload_n 0, 1) := by decide +kernel
theorem dX9_word_10 : decode cX9_word 10 = .ok (.invokevirtual 192, 3) := by decide +kernel
theorem dX9_word_13 : decode cX9_word 13 = .ok (.aload_n 0, 1) := by decide +kernel
theorem dX9_word_14 : decode cX9_word 14 = .ok (.invokevirtual 195, 3) := by decide +kernel
theorem dX9_word_17 : decode cX9_word 17 = .ok (.return_, 1) := by decide +kernel
theorem dX9_sort_0 : decode cX9_sort 0 = .ok (.aload_n 0, 1) := by decide +kernel
theorem dX9_sort_1 : decode cX9_sort 1 = .ok (.ldc2_w 198, 3) := by decide +kernel
theorem dX9_sort_4 : decode cX9_sort 4 = .ok (.iconst 4, 1) := by decide +kernel
theorem dX9_sort_5 : decode cX9_sort 5 = .ok (.invokevirtual 188, 3) := by decide +kernel
theorem dX9_sort_8 : decode cX9_sort 8 = .ok (.ifCond .eq 7, 3) := by decide +kernel
theorem dX9_sort_11 : decode cX9_sort 11 = .ok (.iconst 0, 1) := by decide +kernel
theorem dX9_sort_12 : decode cX9_sort 12 = .ok (.goto 35, 3) := by decide +kernel
theorem dX9_sort_15 : decode cX9_sort 15 = .ok (.aload_n 0, 1) := by decide +kernel
theorem dX9_sort_16 : decode cX9_sort 16 = .ok (.ldc2_w 200, 3) := by decide +kernel
theorem dX9_sort_19 : decode cX9_sort 19 = .ok (.iconst 3, 1) := by decide +kernel
theorem dX9_sort_20 : decode cX9_sort 20 = .ok (.invokevirtual 188, 3) := by decide +kernel
theorem dX9_sort_23 : decode cX9_sort 23 = .ok (.ifCond .eq 7, 3) := by decide +kernel
theorem dX9_sort_26 : decode cX9_sort 26 = .ok (.iconst 1, 1) := by decide +kernel
theorem dX9_sort_27 : decode cX9_sort 27 = .ok (.goto 20, 3) := by decide +kernel
theorem dX9_sort_30 : decode cX9_sort 30 = .ok (.aload_n 0, 1) := by decide +kernel
theorem dX9_sort_31 : decode cX9_sort 31 = .ok (.ldc2_w 202, 3) := by decide +kernel
theorem dX9_sort_34 : decode cX9_sort 34 = .ok (.bipush 6, 2) := by decide +kernel
theorem dX9_sort_36 : decode cX9_sort 36 = .ok (.invokevirtual 188, 3) := by decide +kernel
theorem dX9_sort_39 : decode cX9_sort 39 = .ok (.ifCond .eq 7, 3) := by decide +kernel
theorem dX9_sort_42 : decode cX9_sort 42 = .ok (.iconst 2, 1) := by decide +kernel
theorem dX9_sort_43 : decode cX9_sort 43 = .ok (.goto 4, 3) := by decide +kernel
theorem dX9_sort_46 : decode cX9_sort 46 = .ok (.iconst (-1), 1) := by decide +kernel
theorem dX9_sort_47 : decode cX9_sort 47 = .ok (.istore_n 1, 1) := by decide +kernel
theorem dX9_sort_48 : decode cX9_sort 48 = .ok (.iload_n 1, 1) := by decide +kernel
theorem dX9_sort_49 : decode cX9_sort 49 = .ok (.ifCond .ge 7, 3) := by decide +kernel
theorem dX9_sort_52 : decode cX9_sort 52 = .ok (.aload_n 0, 1) := by decide +kernel
theorem dX9_sort_53 : decode cX9_sort 53 = .ok (.invokevirtual 192, 3) := by decide +kernel
theorem dX9_sort_56 : decode cX9_sort 56 = .ok (.aload_n 0, 1) := by decide +kernel
theorem dX9_sort_57 : decode cX9_sort 57 = .ok (.invokevirtual 195, 3) := by decide +kernel
theorem dX9_sort_60 : decode cX9_sort 60 = .ok (.iload_n 1, 1) := by decide +kernel
theorem dX9_sort_61 : decode cX9_sort 61 = .ok (.ireturn, 1) := by decide +kernel
theorem dX9_hazard_0 : decode cX9_hazard 0 = .ok (.aload_n 0, 1) := by decide +kernel
theorem dX9_hazard_1 : decode cX9_hazard 1 = .ok (.ldc2_w 204, 3) := by decide +kernel
theorem dX9_hazard_4 : decode cX9_hazard 4 = .ok (.iconst 3, 1) := by decide +kernel
theorem dX9_hazard_5 : decode cX9_hazard 5 = .ok (.invokevirtual 188, 3) := by decide +kernel
theorem dX9_hazard_8 : decode cX9_hazard 8 = .ok (.ifCond .eq 7, 3) := by decide +kernel
theorem dX9_hazard_11 : decode cX9_hazard 11 = .ok (.iconst 0, 1) := by decide +kernel
theorem dX9_hazard_12 : decode cX9_hazard 12 = .ok (.goto 34, 3) := by decide +kernel
theorem dX9_hazard_15 : decode cX9_hazard 15 = .ok (.aload_n 0, 1) := by decide +kernel
theorem dX9_hazard_16 : decode cX9_hazard 16 = .ok (.ldc2_w 206, 3) := by decide +kernel
theorem dX9_hazard_19 : decode cX9_hazard 19 = .ok (.iconst 5, 1) := by decide +kernel
theorem dX9_hazard_20 : decode cX9_hazard 20 = .ok (.invokevirtual 188, 3) := by decide +kernel
theorem dX9_hazard_23 : decode cX9_hazard 23 = .ok (.ifCond .eq 7, 3) := by decide +kernel
theorem dX9_hazard_26 : decode cX9_hazard 26 = .ok (.iconst 1, 1) := by decide +kernel
theorem dX9_hazard_27 : decode cX9_hazard 27 = .ok (.goto 19, 3) := by decide +kernel
theorem dX9_hazard_30 : decode cX9_hazard 30 = .ok (.aload_n 0, 1) := by decide +kernel
theorem dX9_hazard_31 : decode cX9_hazard 31 = .ok (.ldc2_w 208, 3) := by decide +kernel
theorem dX9_hazard_34 : decode cX9_hazard 34 = .ok (.iconst 5, 1) := by decide +kernel
theorem dX9_hazard_35 : decode cX9_hazard 35 = .ok (.invokevirtual 188, 3) := by decide +kernel
theorem dX9_hazard_38 : decode cX9_hazard 38 = .ok (.ifCond .eq 7, 3) := by decide +kernel
theorem dX9_hazard_41 : decode cX9_hazard 41 = .ok (.iconst 2, 1) := by decide +kernel
theorem dX9_hazard_42 : decode cX9_hazard 42 = .ok (.goto 4, 3) := by decide +kernel
theorem dX9_hazard_45 : decode cX9_hazard 45 = .ok (.iconst (-1), 1) := by decide +kernel
theorem dX9_hazard_46 : decode cX9_hazard 46 = .ok (.istore_n 1, 1) := by decide +kernel
theorem dX9_hazard_47 : decode cX9_hazard 47 = .ok (.iload_n 1, 1) := by decide +kernel
theorem dX9_hazard_48 : decode cX9_hazard 48 = .ok (.ifCond .ge 7, 3) := by decide +kernel
theorem dX9_hazard_51 : decode cX9_hazard 51 = .ok (.aload_n 0, 1) := by decide +kernel
theorem dX9_hazard_52 : decode cX9_hazard 52 = .ok (.invokevirtual 192, 3) := by decide +kernel
theorem dX9_hazard_55 : decode cX9_hazard 55 = .ok (.aload_n 0, 1) := by decide +kernel
theorem dX9_hazard_56 : decode cX9_hazard 56 = .ok (.invokevirtual 195, 3) := by decide +kernel
theorem dX9_hazard_59 : decode cX9_hazard 59 = .ok (.iload_n 1, 1) := by decide +kernel
theorem dX9_hazard_60 : decode cX9_hazard 60 = .ok (.ireturn, 1) := by decide +kernel
theorem dX9_number_0 : decode cX9_number 0 = .ok (.iconst 0, 1) := by decide +kernel
theorem dX9_number_1 : decode cX9_number 1 = .ok (.istore_n 3, 1) := by decide +kernel
theorem dX9_number_2 : decode cX9_number 2 = .ok (.aload_n 0, 1) := by decide +kernel
theorem dX9_number_3 : decode cX9_number 3 = .ok (.aload_n 0, 1) := by decide +kernel
theorem dX9_number_4 : decode cX9_number 4 = .ok (.getfield 176, 3) := by decide +kernel
theorem dX9_number_7 : decode cX9_number 7 = .ok (.invokevirtual 182, 3) := by decide +kernel
theorem dX9_number_10 : decode cX9_number 10 = .ok (.ifCond .eq 20, 3) := by decide +kernel
theorem dX9_number_13 : decode cX9_number 13 = .ok (.aload_n 0, 1) := by decide +kernel
theorem dX9_number_14 : decode cX9_number 14 = .ok (.getfield 173, 3) := by decide +kernel
theorem dX9_number_17 : decode cX9_number 17 = .ok (.aload_n 0, 1) := by decide +kernel
theorem dX9_number_18 : decode cX9_number 18 = .ok (.getfield 176, 3) := by decide +kernel
theorem dX9_number_21 : decode cX9_number 21 = .ok (.isub, 1) := by decide +kernel
theorem dX9_number_22 : decode cX9_number 22 = .ok (.iconst 3, 1) := by decide +kernel
theorem dX9_number_23 : decode cX9_number 23 = .ok (.if_icmp .gt 7, 3) := by decide +kernel
theorem dX9_number_26 : decode cX9_number 26 = .ok (.iconst 1, 1) := by decide +kernel
theorem dX9_number_27 : decode cX9_number 27 = .ok (.goto 4, 3) := by decide +kernel
theorem dX9_number_30 : decode cX9_number 30 = .ok (.iconst 0, 1) := by decide +kernel
theorem dX9_number_31 : decode cX9_number 31 = .ok (.istore 4, 2) := by decide +kernel
theorem dX9_number_33 : decode cX9_number 33 = .ok (.aload_n 0, 1) := by decide +kernel
theorem dX9_number_34 : decode cX9_number 34 = .ok (.getfield 176, 3) := by decide +kernel
theorem dX9_number_37 : decode cX9_number 37 = .ok (.istore 5, 2) := by decide +kernel
theorem dX9_number_39 : decode cX9_number 39 = .ok (.iload 5, 2) := by decide +kernel
theorem dX9_number_41 : decode cX9_number 41 = .ok (.aload_n 0, 1) := by decide +kernel
theorem dX9_number_42 : decode cX9_number 42 = .ok (.getfield 173, 3) := by decide +kernel
theorem dX9_number_45 : decode cX9_number 45 = .ok (.if_icmp .ge 30, 3) := by decide +kernel
theorem dX9_number_48 : decode cX9_number 48 = .ok (.iload 4, 2) := by decide +kernel
theorem dX9_number_50 : decode cX9_number 50 = .ok (.ifCond .eq 25, 3) := by decide +kernel
theorem dX9_number_53 : decode cX9_number 53 = .ok (.bipush 10, 2) := by decide +kernel
theorem dX9_number_55 : decode cX9_number 55 = .ok (.iload_n 3, 1) := by decide +kernel
theorem dX9_number_56 : decode cX9_number 56 = .ok (.imul, 1) := by decide +kernel
theorem dX9_number_57 : decode cX9_number 57 = .ok (.aload_n 0, 1) := by decide +kernel
theorem dX9_number_58 : decode cX9_number 58 = .ok (.getfield 83, 3) := by decide +kernel
theorem dX9_number_61 : decode cX9_number 61 = .ok (.iload 5, 2) := by decide +kernel
theorem dX9_number_63 : decode cX9_number 63 = .ok (.iaload, 1) := by decide +kernel
theorem dX9_number_64 : decode cX9_number 64 = .ok (.iadd, 1) := by decide +kernel
theorem dX9_number_65 : decode cX9_number 65 = .ok (.bipush 48, 2) := by decide +kernel
theorem dX9_number_67 : decode cX9_number 67 = .ok (.isub, 1) := by decide +kernel
theorem dX9_number_68 : decode cX9_number 68 = .ok (.istore_n 3, 1) := by decide +kernel
theorem dX9_number_69 : decode cX9_number 69 = .ok (.iinc 5 1, 3) := by decide +kernel
theorem dX9_number_72 : decode cX9_number 72 = .ok (.goto (-33), 3) := by decide +kernel
theorem dX9_number_75 : decode cX9_number 75 = .ok (.iload 4, 2) := by decide +kernel
theorem dX9_number_77 : decode cX9_number 77 = .ok (.ifCond .eq 12, 3) := by decide +kernel
theorem dX9_number_80 : decode cX9_number 80 = .ok (.iload_n 3, 1) := by decide +kernel
theorem dX9_number_81 : decode cX9_number 81 = .ok (.iload_n 1, 1) := by decide +kernel
theorem dX9_number_82 : decode cX9_number 82 = .ok (.iload_n 2, 1) := by decide +kernel
theorem dX9_number_83 : decode cX9_number 83 = .ok (.invokestatic 105, 3) := by decide +kernel
theorem dX9_number_86 : decode cX9_number 86 = .ok (.ifCond .ne 7, 3) := by decide +kernel
theorem dX9_number_89 : decode cX9_number 89 = .ok (.aload_n 0, 1) := by decide +kernel
theorem dX9_number_90 : decode cX9_number 90 = .ok (.invokevirtual 192, 3) := by decide +kernel
theorem dX9_number_93 : decode cX9_number 93 = .ok (.aload_n 0, 1) := by decide +kernel
theorem dX9_number_94 : decode cX9_number 94 = .ok (.invokevirtual 195, 3) := by decide +kernel
theorem dX9_number_97 : decode cX9_number 97 = .ok (.iload_n 3, 1) := by decide +kernel
theorem dX9_number_98 : decode cX9_number 98 = .ok (.ireturn, 1) := by decide +kernel
theorem dX9_kind_0 : decode cX9_kind 0 = .ok (.aload_n 0, 1) := by decide +kernel
theorem dX9_kind_1 : decode cX9_kind 1 = .ok (.ldc2_w 210, 3) := by decide +kernel
theorem dX9_kind_4 : decode cX9_kind 4 = .ok (.iconst 4, 1) := by decide +kernel
theorem dX9_kind_5 : decode cX9_kind 5 = .ok (.invokevirtual 188, 3) := by decide +kernel
theorem dX9_kind_8 : decode cX9_kind 8 = .ok (.ifCond .eq 5, 3) := by decide +kernel
theorem dX9_kind_11 : decode cX9_kind 11 = .ok (.iconst 0, 1) := by decide +kernel
theorem dX9_kind_12 : decode cX9_kind 12 = .ok (.ireturn, 1) := by decide +kernel
theorem dX9_kind_13 : decode cX9_kind 13 = .ok (.aload_n 0, 1) := by decide +kernel
theorem dX9_kind_14 : decode cX9_kind 14 = .ok (.ldc2_w 212, 3) := by decide +kernel
theorem dX9_kind_17 : decode cX9_kind 17 = .ok (.iconst 3, 1) := by decide +kernel
theorem dX9_kind_18 : decode cX9_kind 18 = .ok (.invokevirtual 188, 3) := by decide +kernel
theorem dX9_kind_21 : decode cX9_kind 21 = .ok (.ifCond .eq 5, 3) := by decide +kernel
theorem dX9_kind_24 : decode cX9_kind 24 = .ok (.iconst 1, 1) := by decide +kernel
theorem dX9_kind_25 : decode cX9_kind 25 = .ok (.ireturn, 1) := by decide +kernel
theorem dX9_kind_26 : decode cX9_kind 26 = .ok (.aload_n 0, 1) := by decide +kernel
theorem dX9_kind_27 : decode cX9_kind 27 = .ok (.ldc2_w 214, 3) := by decide +kernel
theorem dX9_kind_30 : decode cX9_kind 30 = .ok (.bipush 6, 2) := by decide +kernel
theorem dX9_kind_32 : decode cX9_kind 32 = .ok (.invokevirtual 188, 3) := by decide +kernel
theorem dX9_kind_35 : decode cX9_kind 35 = .ok (.ifCond .eq 5, 3) := by decide +kernel
theorem dX9_kind_38 : decode cX9_kind 38 = .ok (.iconst 2, 1) := by decide +kernel
theorem dX9_kind_39 : decode cX9_kind 39 = .ok (.ireturn, 1) := by decide +kernel
theorem dX9_kind_40 : decode cX9_kind 40 = .ok (.aload_n 0, 1) := by decide +kernel
theorem dX9_kind_41 : decode cX9_kind 41 = .ok (.ldc2_w 216, 3) := by decide +kernel
theorem dX9_kind_44 : decode cX9_kind 44 = .ok (.iconst 3, 1) := by decide +kernel
theorem dX9_kind_45 : decode cX9_kind 45 = .ok (.invokevirtual 188, 3) := by decide +kernel
theorem dX9_kind_48 : decode cX9_kind 48 = .ok (.ifCond .eq 5, 3) := by decide +kernel
theorem dX9_kind_51 : decode cX9_kind 51 = .ok (.iconst 3, 1) := by decide +kernel
theorem dX9_kind_52 : decode cX9_kind 52 = .ok (.ireturn, 1) := by decide +kernel
theorem dX9_kind_53 : decode cX9_kind 53 = .ok (.aload_n 0, 1) := by decide +kernel
theorem dX9_kind_54 : decode cX9_kind 54 = .ok (.ldc2_w 218, 3) := by decide +kernel
theorem dX9_kind_57 : decode cX9_kind 57 = .ok (.iconst 5, 1) := by decide +kernel
theorem dX9_kind_58 : decode cX9_kind 58 = .ok (.invokevirtual 188, 3) := by decide +kernel
theorem dX9_kind_61 : decode cX9_kind 61 = .ok (.ifCond .eq 5, 3) := by decide +kernel
theorem dX9_kind_64 : decode cX9_kind 64 = .ok (.iconst 4, 1) := by decide +kernel
theorem dX9_kind_65 : decode cX9_kind 65 = .ok (.ireturn, 1) := by decide +kernel
theorem dX9_kind_66 : decode cX9_kind 66 = .ok (.aload_n 0, 1) := by decide +kernel
theorem dX9_kind_67 : decode cX9_kind 67 = .ok (.ldc2_w 220, 3) := by decide +kernel
theorem dX9_kind_70 : decode cX9_kind 70 = .ok (.iconst 5, 1) := by decide +kernel
theorem dX9_kind_71 : decode cX9_kind 71 = .ok (.invokevirtual 188, 3) := by decide +kernel
theorem dX9_kind_74 : decode cX9_kind 74 = .ok (.ifCond .eq 7, 3) := by decide +kernel
theorem dX9_kind_77 : decode cX9_kind 77 = .ok (.iconst 5, 1) := by decide +kernel
theorem dX9_kind_78 : decode cX9_kind 78 = .ok (.goto 4, 3) := by decide +kernel
theorem dX9_kind_81 : decode cX9_kind 81 = .ok (.iconst (-1), 1) := by decide +kernel
theorem dX9_kind_82 : decode cX9_kind 82 = .ok (.ireturn, 1) := by decide +kernel
theorem dX9_readRule_0 : decode cX9_readRule 0 = .ok (.aload_n 0, 1) := by decide +kernel
theorem dX9_readRule_1 : decode cX9_readRule 1 = .ok (.iconst 0, 1) := by decide +kernel
theorem dX9_readRule_2 : decode cX9_readRule 2 = .ok (.putfield 173, 3) := by decide +kernel
theorem dX9_readRule_5 : decode cX9_readRule 5 = .ok (.aload_n 0, 1) := by decide +kernel
theorem dX9_readRule_6 : decode cX9_readRule 6 = .ok (.iconst (-1), 1) := by decide +kernel
theorem dX9_readRule_7 : decode cX9_readRule 7 = .ok (.putfield 185, 3) := by decide +kernel
theorem dX9_readRule_10 : decode cX9_readRule 10 = .ok (.aload_n 0, 1) := by decide +kernel
theorem dX9_readRule_11 : decode cX9_readRule 11 = .ok (.bipush (-3), 2) := by decide +kernel
theorem dX9_readRule_13 : decode cX9_readRule 13 = .ok (.putfield 222, 3) := by decide +kernel
theorem dX9_readRule_16 : decode cX9_readRule 16 = .ok (.aload_n 0, 1) := by decide +kernel
theorem dX9_readRule_17 : decode cX9_readRule 17 = .ok (.bipush (-3), 2) := by decide +kernel
theorem dX9_readRule_19 : decode cX9_readRule 19 = .ok (.putfield 225, 3) := by decide +kernel
theorem dX9_readRule_22 : decode cX9_readRule 22 = .ok (.aload_n 0, 1) := by decide +kernel
theorem dX9_readRule_23 : decode cX9_readRule 23 = .ok (.invokevirtual 195, 3) := by decide +kernel
theorem dX9_readRule_26 : decode cX9_readRule 26 = .ok (.aload_n 0, 1) := by decide +kernel
theorem dX9_readRule_27 : decode cX9_readRule 27 = .ok (.aload_n 0, 1) := by decide +kernel
theorem dX9_readRule_28 : decode cX9_readRule 28 = .ok (.invokevirtual 228, 3) := by decide +kernel
theorem dX9_readRule_31 : decode cX9_readRule 31 = .ok (.putfield 231, 3) := by decide +kernel
theorem dX9_readRule_34 : decode cX9_readRule 34 = .ok (.aload_n 0, 1) := by decide +kernel
theorem dX9_readRule_35 : decode cX9_readRule 35 = .ok (.getfield 231, 3) := by decide +kernel
theorem dX9_readRule_38 : decode cX9_readRule 38 = .ok (.ifCond .ge 8, 3) := by decide +kernel
theorem dX9_readRule_41 : decode cX9_readRule 41 = .ok (.aload_n 0, 1) := by decide +kernel
theorem dX9_readRule_42 : decode cX9_readRule 42 = .ok (.invokevirtual 192, 3) := by decide +kernel
theorem dX9_readRule_45 : decode cX9_readRule 45 = .ok (.return_, 1) := by decide +kernel
theorem dX9_readRule_46 : decode cX9_readRule 46 = .ok (.aload_n 0, 1) := by decide +kernel
theorem dX9_readRule_47 : decode cX9_readRule 47 = .ok (.invokevirtual 195, 3) := by decide +kernel
theorem dX9_readRule_50 : decode cX9_readRule 50 = .ok (.aload_n 0, 1) := by decide +kernel
theorem dX9_readRule_51 : decode cX9_readRule 51 = .ok (.aload_n 0, 1) := by decide +kernel
theorem dX9_readRule_52 : decode cX9_readRule 52 = .ok (.getfield 231, 3) := by decide +kernel
theorem dX9_readRule_55 : decode cX9_readRule 55 = .ok (.iconst 2, 1) := by decide +kernel
theorem dX9_readRule_56 : decode cX9_readRule 56 = .ok (.if_icmp .ne 10, 3) := by decide +kernel
theorem dX9_readRule_59 : decode cX9_readRule 59 = .ok (.aload_n 0, 1) := by decide +kernel
theorem dX9_readRule_60 : decode cX9_readRule 60 = .ok (.invokevirtual 234, 3) := by decide +kernel
theorem dX9_readRule_63 : decode cX9_readRule 63 = .ok (.goto 7, 3) := by decide +kernel
theorem dX9_readRule_66 : decode cX9_readRule 66 = .ok (.aload_n 0, 1) := by decide +kernel
theorem dX9_readRule_67 : decode cX9_readRule 67 = .ok (.invokevirtual 237, 3) := by decide +kernel
theorem dX9_readRule_70 : decode cX9_readRule 70 = .ok (.putfield 240, 3) := by decide +kernel
theorem dX9_readRule_73 : decode cX9_readRule 73 = .ok (.aload_n 0, 1) := by decide +kernel
theorem dX9_readRule_74 : decode cX9_readRule 74 = .ok (.getfield 231, 3) := by decide +kernel
theorem dX9_readRule_77 : decode cX9_readRule 77 = .ok (.tableswitch 153 0 5 #[39, 61, 153, 92, 106, 139], 39) := by decide +kernel
theorem dX9_readRule_116 : decode cX9_readRule 116 = .ok (.aload_n 0, 1) := by decide +kernel
theorem dX9_readRule_117 : decode cX9_readRule 117 = .ok (.ldc2_w 243, 3) := by decide +kernel
theorem dX9_readRule_120 : decode cX9_readRule 120 = .ok (.iconst 4, 1) := by decide +kernel
theorem dX9_readRule_121 : decode cX9_readRule 121 = .ok (.invokevirtual 245, 3) := by decide +kernel
theorem dX9_readRule_124 : decode cX9_readRule 124 = .ok (.aload_n 0, 1) := by decide +kernel
theorem dX9_readRule_125 : decode cX9_readRule 125 = .ok (.aload_n 0, 1) := by decide +kernel
theorem dX9_readRule_126 : decode cX9_readRule 126 = .ok (.iconst 1, 1) := by decide +kernel
theorem dX9_readRule_127 : decode cX9_readRule 127 = .ok (.bipush 48, 2) := by decide +kernel
theorem dX9_readRule_129 : decode cX9_readRule 129 = .ok (.invokevirtual 249, 3) := by decide +kernel
theorem dX9_readRule_132 : decode cX9_readRule 132 = .ok (.putfield 222, 3) := by decide +kernel
theorem dX9_readRule_135 : decode cX9_readRule 135 = .ok (.goto 95, 3) := by decide +kernel
theorem dX9_readRule_138 : decode cX9_readRule 138 = .ok (.aload_n 0, 1) := by decide +kernel
theorem dX9_readRule_139 : decode cX9_readRule 139 = .ok (.aload_n 0, 1) := by decide +kernel
theorem dX9_readRule_140 : decode cX9_readRule 140 = .ok (.invokevirtual 237, 3) := by decide +kernel
theorem dX9_readRule_143 : decode cX9_readRule 143 = .ok (.putfield 222, 3) := by decide +kernel
theorem dX9_readRule_146 : decode cX9_readRule 146 = .ok (.aload_n 0, 1) := by decide +kernel
theorem dX9_readRule_147 : decode cX9_readRule 147 = .ok (.ldc2_w 252, 3) := by decide +kernel
theorem dX9_readRule_150 : decode cX9_readRule 150 = .ok (.bipush 6, 2) := by decide +kernel
theorem dX9_readRule_152 : decode cX9_readRule 152 = .ok (.invokevirtual 245, 3) := by decide +kernel
theorem dX9_readRule_155 : decode cX9_readRule 155 = .ok (.aload_n 0, 1) := by decide +kernel
theorem dX9_readRule_156 : decode cX9_readRule 156 = .ok (.aload_n 0, 1) := by decide +kernel
theorem dX9_readRule_157 : decode cX9_readRule 157 = .ok (.iconst 0, 1) := by decide +kernel
theorem dX9_readRule_158 : decode cX9_readRule 158 = .ok (.bipush 9, 2) := by decide +kernel
theorem dX9_readRule_160 : decode cX9_readRule 160 = .ok (.invokevirtual 249, 3) := by decide +kernel
theorem dX9_readRule_163 : decode cX9_readRule 163 = .ok (.putfield 225, 3) := by decide +kernel
theorem dX9_readRule_166 : decode cX9_readRule 166 = .ok (.goto 64, 3) := by decide +kernel
theorem dX9_readRule_169 : decode cX9_readRule 169 = .ok (.aload_n 0, 1) := by decide +kernel
theorem dX9_readRule_170 : decode cX9_readRule 170 = .ok (.aload_n 0, 1) := by decide +kernel
theorem dX9_readRule_171 : decode cX9_readRule 171 = .ok (.iconst 1, 1) := by decide +kernel
theorem dX9_readRule_172 : decode cX9_readRule 172 = .ok (.bipush 12, 2) := by decide +kernel
theorem dX9_readRule_174 : decode cX9_readRule 174 = .ok (.invokevirtual 249, 3) := by decide +kernel
theorem dX9_readRule_177 : decode cX9_readRule 177 = .ok (.putfield 222, 3) := by decide +kernel
theorem dX9_readRule_180 : decode cX9_readRule 180 = .ok (.goto 50, 3) := by decide +kernel
theorem dX9_readRule_183 : decode cX9_readRule 183 = .ok (.aload_n 0, 1) := by decide +kernel
theorem dX9_readRule_184 : decode cX9_readRule 184 = .ok (.aload_n 0, 1) := by decide +kernel
theorem dX9_readRule_185 : decode cX9_readRule 185 = .ok (.iconst 0, 1) := by decide +kernel
theorem dX9_readRule_186 : decode cX9_readRule 186 = .ok (.bipush 23, 2) := by decide +kernel
theorem dX9_readRule_188 : decode cX9_readRule 188 = .ok (.invokevirtual 249, 3) := by decide +kernel
theorem dX9_readRule_191 : decode cX9_readRule 191 = .ok (.putfield 222, 3) := by decide +kernel
theorem dX9_readRule_194 : decode cX9_readRule 194 = .ok (.aload_n 0, 1) := by decide +kernel
theorem dX9_readRule_195 : decode cX9_readRule 195 = .ok (.ldc2_w 254, 3) := by decide +kernel
theorem dX9_readRule_198 : decode cX9_readRule 198 = .ok (.iconst 2, 1) := by decide +kernel
theorem dX9_readRule_199 : decode cX9_readRule 199 = .ok (.invokevirtual 245, 3) := by decide +kernel
theorem dX9_readRule_202 : decode cX9_readRule 202 = .ok (.aload_n 0, 1) := by decide +kernel
theorem dX9_readRule_203 : decode cX9_readRule 203 = .ok (.aload_n 0, 1) := by decide +kernel
theorem dX9_readRule_204 : decode cX9_readRule 204 = .ok (.iconst 0, 1) := by decide +kernel
theorem dX9_readRule_205 : decode cX9_readRule 205 = .ok (.bipush 23, 2) := by decide +kernel
theorem dX9_readRule_207 : decode cX9_readRule 207 = .ok (.invokevirtual 249, 3) := by decide +kernel
theorem dX9_readRule_210 : decode cX9_readRule 210 = .ok (.putfield 225, 3) := by decide +kernel
theorem dX9_readRule_213 : decode cX9_readRule 213 = .ok (.goto 17, 3) := by decide +kernel
theorem dX9_readRule_216 : decode cX9_readRule 216 = .ok (.aload_n 0, 1) := by decide +kernel
theorem dX9_readRule_217 : decode cX9_readRule 217 = .ok (.aload_n 0, 1) := by decide +kernel
theorem dX9_readRule_218 : decode cX9_readRule 218 = .ok (.iconst 1, 1) := by decide +kernel
theorem dX9_readRule_219 : decode cX9_readRule 219 = .ok (.bipush 24, 2) := by decide +kernel
theorem dX9_readRule_221 : decode cX9_readRule 221 = .ok (.invokevirtual 249, 3) := by decide +kernel
theorem dX9_readRule_224 : decode cX9_readRule 224 = .ok (.putfield 222, 3) := by decide +kernel
theorem dX9_readRule_227 : decode cX9_readRule 227 = .ok (.goto 3, 3) := by decide +kernel
theorem dX9_readRule_230 : decode cX9_readRule 230 = .ok (.aload_n 0, 1) := by decide +kernel
theorem dX9_readRule_231 : decode cX9_readRule 231 = .ok (.getfield 176, 3) := by decide +kernel
theorem dX9_readRule_234 : decode cX9_readRule 234 = .ok (.aload_n 0, 1) := by decide +kernel
theorem dX9_readRule_235 : decode cX9_readRule 235 = .ok (.getfield 168, 3) := by decide +kernel
theorem dX9_readRule_238 : decode cX9_readRule 238 = .ok (.if_icmp .ge 7, 3) := by decide +kernel
theorem dX9_readRule_241 : decode cX9_readRule 241 = .ok (.aload_n 0, 1) := by decide +kernel
theorem dX9_readRule_242 : decode cX9_readRule 242 = .ok (.invokevirtual 192, 3) := by decide +kernel
theorem dX9_readRule_245 : decode cX9_readRule 245 = .ok (.return_, 1) := by decide +kernel
theorem dX9_rule_0 : decode cX9_rule 0 = .ok (.aload_n 0, 1) := by decide +kernel
theorem dX9_rule_1 : decode cX9_rule 1 = .ok (.invokevirtual 256, 3) := by decide +kernel
theorem dX9_rule_4 : decode cX9_rule 4 = .ok (.aload_n 0, 1) := by decide +kernel
theorem dX9_rule_5 : decode cX9_rule 5 = .ok (.iconst 0, 1) := by decide +kernel
theorem dX9_rule_6 : decode cX9_rule 6 = .ok (.putfield 168, 3) := by decide +kernel
theorem dX9_rule_9 : decode cX9_rule 9 = .ok (.aload_n 0, 1) := by decide +kernel
theorem dX9_rule_10 : decode cX9_rule 10 = .ok (.getfield 185, 3) := by decide +kernel
theorem dX9_rule_13 : decode cX9_rule 13 = .ok (.ifCond .lt 11, 3) := by decide +kernel
theorem dX9_rule_16 : decode cX9_rule 16 = .ok (.bipush (-100), 2) := by decide +kernel
theorem dX9_rule_18 : decode cX9_rule 18 = .ok (.aload_n 0, 1) := by decide +kernel
theorem dX9_rule_19 : decode cX9_rule 19 = .ok (.getfield 185, 3) := by decide +kernel
theorem dX9_rule_22 : decode cX9_rule 22 = .ok (.isub, 1) := by decide +kernel
theorem dX9_rule_23 : decode cX9_rule 23 = .ok (.ireturn, 1) := by decide +kernel
theorem dX9_rule_24 : decode cX9_rule 24 = .ok (.aload_n 0, 1) := by decide +kernel
theorem dX9_rule_25 : decode cX9_rule 25 = .ok (.getfield 140, 3) := by decide +kernel
theorem dX9_rule_28 : decode cX9_rule 28 = .ok (.bipush 12, 2) := by decide +kernel
theorem dX9_rule_30 : decode cX9_rule 30 = .ok (.if_icmp .ne 6, 3) := by decide +kernel
theorem dX9_rule_33 : decode cX9_rule 33 = .ok (.bipush (-2), 2) := by decide +kernel
theorem dX9_rule_35 : decode cX9_rule 35 = .ok (.ireturn, 1) := by decide +kernel
theorem dX9_rule_36 : decode cX9_rule 36 = .ok (.aload_n 0, 1) := by decide +kernel
theorem dX9_rule_37 : decode cX9_rule 37 = .ok (.getfield 29, 3) := by decide +kernel
theorem dX9_rule_40 : decode cX9_rule 40 = .ok (.aload_n 0, 1) := by decide +kernel
theorem dX9_rule_41 : decode cX9_rule 41 = .ok (.getfield 140, 3) := by decide +kernel
theorem dX9_rule_44 : decode cX9_rule 44 = .ok (.aload_n 0, 1) := by decide +kernel
theorem dX9_rule_45 : decode cX9_rule 45 = .ok (.getfield 231, 3) := by decide +kernel
theorem dX9_rule_48 : decode cX9_rule 48 = .ok (.iastore, 1) := by decide +kernel
theorem dX9_rule_49 : decode cX9_rule 49 = .ok (.aload_n 0, 1) := by decide +kernel
theorem dX9_rule_50 : decode cX9_rule 50 = .ok (.getfield 32, 3) := by decide +kernel
theorem dX9_rule_53 : decode cX9_rule 53 = .ok (.aload_n 0, 1) := by decide +kernel
theorem dX9_rule_54 : decode cX9_rule 54 = .ok (.getfield 140, 3) := by decide +kernel
theorem dX9_rule_57 : decode cX9_rule 57 = .ok (.aload_n 0, 1) := by decide +kernel
theorem dX9_rule_58 : decode cX9_rule 58 = .ok (.getfield 240, 3) := by decide +kernel
theorem dX9_rule_61 : decode cX9_rule 61 = .ok (.iastore, 1) := by decide +kernel
theorem dX9_rule_62 : decode cX9_rule 62 = .ok (.aload_n 0, 1) := by decide +kernel
theorem dX9_rule_63 : decode cX9_rule 63 = .ok (.getfield 35, 3) := by decide +kernel
theorem dX9_rule_66 : decode cX9_rule 66 = .ok (.aload_n 0, 1) := by decide +kernel
theorem dX9_rule_67 : decode cX9_rule 67 = .ok (.getfield 140, 3) := by decide +kernel
theorem dX9_rule_70 : decode cX9_rule 70 = .ok (.aload_n 0, 1) := by decide +kernel
theorem dX9_rule_71 : decode cX9_rule 71 = .ok (.getfield 222, 3) := by decide +kernel
theorem dX9_rule_74 : decode cX9_rule 74 = .ok (.iastore, 1) := by decide +kernel
theorem dX9_rule_75 : decode cX9_rule 75 = .ok (.aload_n 0, 1) := by decide +kernel
theorem dX9_rule_76 : decode cX9_rule 76 = .ok (.getfield 38, 3) := by decide +kernel
theorem dX9_rule_79 : decode cX9_rule 79 = .ok (.aload_n 0, 1) := by decide +kernel
theorem dX9_rule_80 : decode cX9_rule 80 = .ok (.getfield 140, 3) := by decide +kernel
theorem dX9_rule_83 : decode cX9_rule 83 = .ok (.aload_n 0, 1) := by decide +kernel
theorem dX9_rule_84 : decode cX9_rule 84 = .ok (.getfield 225, 3) := by decide +kernel
theorem dX9_rule_87 : decode cX9_rule 87 = .ok (.iastore, 1) := by decide +kernel
theorem dX9_rule_88 : decode cX9_rule 88 = .ok (.aload_n 0, 1) := by decide +kernel
theorem dX9_rule_89 : decode cX9_rule 89 = .ok (.getfield 41, 3) := by decide +kernel
theorem dX9_rule_92 : decode cX9_rule 92 = .ok (.aload_n 0, 1) := by decide +kernel
theorem dX9_rule_93 : decode cX9_rule 93 = .ok (.getfield 140, 3) := by decide +kernel
theorem dX9_rule_96 : decode cX9_rule 96 = .ok (.aload_n 0, 1) := by decide +kernel
theorem dX9_rule_97 : decode cX9_rule 97 = .ok (.getfield 119, 3) := by decide +kernel
theorem dX9_rule_100 : decode cX9_rule 100 = .ok (.iastore, 1) := by decide +kernel
theorem dX9_rule_101 : decode cX9_rule 101 = .ok (.aload_n 0, 1) := by decide +kernel
theorem dX9_rule_102 : decode cX9_rule 102 = .ok (.getfield 44, 3) := by decide +kernel
theorem dX9_rule_105 : decode cX9_rule 105 = .ok (.aload_n 0, 1) := by decide +kernel
theorem dX9_rule_106 : decode cX9_rule 106 = .ok (.getfield 140, 3) := by decide +kernel
theorem dX9_rule_109 : decode cX9_rule 109 = .ok (.iconst (-1), 1) := by decide +kernel
theorem dX9_rule_110 : decode cX9_rule 110 = .ok (.iastore, 1) := by decide +kernel
theorem dX9_rule_111 : decode cX9_rule 111 = .ok (.aload_n 0, 1) := by decide +kernel
theorem dX9_rule_112 : decode cX9_rule 112 = .ok (.dup, 1) := by decide +kernel
theorem dX9_rule_113 : decode cX9_rule 113 = .ok (.getfield 140, 3) := by decide +kernel
theorem dX9_rule_116 : decode cX9_rule 116 = .ok (.iconst 1, 1) := by decide +kernel
theorem dX9_rule_117 : decode cX9_rule 117 = .ok (.iadd, 1) := by decide +kernel
theorem dX9_rule_118 : decode cX9_rule 118 = .ok (.putfield 140, 3) := by decide +kernel
theorem dX9_rule_121 : decode cX9_rule 121 = .ok (.aload_n 0, 1) := by decide +kernel
theorem dX9_rule_122 : decode cX9_rule 122 = .ok (.getfield 140, 3) := by decide +kernel
theorem dX9_rule_125 : decode cX9_rule 125 = .ok (.iconst 1, 1) := by decide +kernel
theorem dX9_rule_126 : decode cX9_rule 126 = .ok (.isub, 1) := by decide +kernel
theorem dX9_rule_127 : decode cX9_rule 127 = .ok (.ireturn, 1) := by decide +kernel
theorem dX9_isRule_0 : decode cX9_isRule 0 = .ok (.iload_n 1, 1) := by decide +kernel
theorem dX9_isRule_1 : decode cX9_isRule 1 = .ok (.iconst 0, 1) := by decide +kernel
theorem dX9_isRule_2 : decode cX9_isRule 2 = .ok (.aload_n 0, 1) := by decide +kernel
theorem dX9_isRule_3 : decode cX9_isRule 3 = .ok (.getfield 140, 3) := by decide +kernel
theorem dX9_isRule_6 : decode cX9_isRule 6 = .ok (.iconst 1, 1) := by decide +kernel
theorem dX9_isRule_7 : decode cX9_isRule 7 = .ok (.isub, 1) := by decide +kernel
theorem dX9_isRule_8 : decode cX9_isRule 8 = .ok (.invokestatic 105, 3) := by decide +kernel
theorem dX9_isRule_11 : decode cX9_isRule 11 = .ok (.ireturn, 1) := by decide +kernel
theorem dX9_strike_0 : decode cX9_strike 0 = .ok (.aload_n 0, 1) := by decide +kernel
theorem dX9_strike_1 : decode cX9_strike 1 = .ok (.iload_n 1, 1) := by decide +kernel
theorem dX9_strike_2 : decode cX9_strike 2 = .ok (.invokevirtual 259, 3) := by decide +kernel
theorem dX9_strike_5 : decode cX9_strike 5 = .ok (.ifCond .ne 5, 3) := by decide +kernel
theorem dX9_strike_8 : decode cX9_strike 8 = .ok (.iconst (-1), 1) := by decide +kernel
theorem dX9_strike_9 : decode cX9_strike 9 = .ok (.ireturn, 1) := by decide +kernel
theorem dX9_strike_10 : decode cX9_strike 10 = .ok (.aload_n 0, 1) := by decide +kernel
theorem dX9_strike_11 : decode cX9_strike 11 = .ok (.getfield 44, 3) := by decide +kernel
theorem dX9_strike_14 : decode cX9_strike 14 = .ok (.iload_n 1, 1) := by decide +kernel
theorem dX9_strike_15 : decode cX9_strike 15 = .ok (.iaload, 1) := by decide +kernel
theorem dX9_strike_16 : decode cX9_strike 16 = .ok (.ifCond .lt 6, 3) := by decide +kernel
theorem dX9_strike_19 : decode cX9_strike 19 = .ok (.bipush (-4), 2) := by decide +kernel
theorem dX9_strike_21 : decode cX9_strike 21 = .ok (.ireturn, 1) := by decide +kernel
theorem dX9_strike_22 : decode cX9_strike 22 = .ok (.aload_n 0, 1) := by decide +kernel
theorem dX9_strike_23 : decode cX9_strike 23 = .ok (.getfield 44, 3) := by decide +kernel
theorem dX9_strike_26 : decode cX9_strike 26 = .ok (.iload_n 1, 1) := by decide +kernel
theorem dX9_strike_27 : decode cX9_strike 27 = .ok (.aload_n 0, 1) := by decide +kernel
theorem dX9_strike_28 : decode cX9_strike 28 = .ok (.getfield 119, 3) := by decide +kernel
theorem dX9_strike_31 : decode cX9_strike 31 = .ok (.iastore, 1) := by decide +kernel
theorem dX9_strike_32 : decode cX9_strike 32 = .ok (.iconst 1, 1) := by decide +kernel
theorem dX9_strike_33 : decode cX9_strike 33 = .ok (.ireturn, 1) := by decide +kernel
theorem dX9_ruleOf_0 : decode cX9_ruleOf 0 = .ok (.aload_n 0, 1) := by decide +kernel
theorem dX9_ruleOf_1 : decode cX9_ruleOf 1 = .ok (.iload_n 1, 1) := by decide +kernel
theorem dX9_ruleOf_2 : decode cX9_ruleOf 2 = .ok (.invokevirtual 259, 3) := by decide +kernel
theorem dX9_ruleOf_5 : decode cX9_ruleOf 5 = .ok (.ifCond .eq 12, 3) := by decide +kernel
theorem dX9_ruleOf_8 : decode cX9_ruleOf 8 = .ok (.iload_n 2, 1) := by decide +kernel
theorem dX9_ruleOf_9 : decode cX9_ruleOf 9 = .ok (.iconst 0, 1) := by decide +kernel
theorem dX9_ruleOf_10 : decode cX9_ruleOf 10 = .ok (.iconst 4, 1) := by decide +kernel
theorem dX9_ruleOf_11 : decode cX9_ruleOf 11 = .ok (.invokestatic 105, 3) := by decide +kernel
theorem dX9_ruleOf_14 : decode cX9_ruleOf 14 = .ok (.ifCond .ne 5, 3) := by decide +kernel
theorem dX9_ruleOf_17 : decode cX9_ruleOf 17 = .ok (.iconst (-1), 1) := by decide +kernel
theorem dX9_ruleOf_18 : decode cX9_ruleOf 18 = .ok (.ireturn, 1) := by decide +kernel
theorem dX9_ruleOf_19 : decode cX9_ruleOf 19 = .ok (.iload_n 2, 1) := by decide +kernel
theorem dX9_ruleOf_20 : decode cX9_ruleOf 20 = .ok (.tableswitch 60 0 3 #[32, 39, 46, 53], 32) := by decide +kernel
theorem dX9_ruleOf_52 : decode cX9_ruleOf 52 = .ok (.aload_n 0, 1) := by decide +kernel
theorem dX9_ruleOf_53 : decode cX9_ruleOf 53 = .ok (.getfield 29, 3) := by decide +kernel
theorem dX9_ruleOf_56 : decode cX9_ruleOf 56 = .ok (.iload_n 1, 1) := by decide +kernel
theorem dX9_ruleOf_57 : decode cX9_ruleOf 57 = .ok (.iaload, 1) := by decide +kernel
theorem dX9_ruleOf_58 : decode cX9_ruleOf 58 = .ok (.ireturn, 1) := by decide +kernel
theorem dX9_ruleOf_59 : decode cX9_ruleOf 59 = .ok (.aload_n 0, 1) := by decide +kernel
theorem dX9_ruleOf_60 : decode cX9_ruleOf 60 = .ok (.getfield 32, 3) := by decide +kernel
theorem dX9_ruleOf_63 : decode cX9_ruleOf 63 = .ok (.iload_n 1, 1) := by decide +kernel
theorem dX9_ruleOf_64 : decode cX9_ruleOf 64 = .ok (.iaload, 1) := by decide +kernel
theorem dX9_ruleOf_65 : decode cX9_ruleOf 65 = .ok (.ireturn, 1) := by decide +kernel
theorem dX9_ruleOf_66 : decode cX9_ruleOf 66 = .ok (.aload_n 0, 1) := by decide +kernel
theorem dX9_ruleOf_67 : decode cX9_ruleOf 67 = .ok (.getfield 35, 3) := by decide +kernel
theorem dX9_ruleOf_70 : decode cX9_ruleOf 70 = .ok (.iload_n 1, 1) := by decide +kernel
theorem dX9_ruleOf_71 : decode cX9_ruleOf 71 = .ok (.iaload, 1) := by decide +kernel
theorem dX9_ruleOf_72 : decode cX9_ruleOf 72 = .ok (.ireturn, 1) := by decide +kernel
theorem dX9_ruleOf_73 : decode cX9_ruleOf 73 = .ok (.aload_n 0, 1) := by decide +kernel
theorem dX9_ruleOf_74 : decode cX9_ruleOf 74 = .ok (.getfield 38, 3) := by decide +kernel
theorem dX9_ruleOf_77 : decode cX9_ruleOf 77 = .ok (.iload_n 1, 1) := by decide +kernel
theorem dX9_ruleOf_78 : decode cX9_ruleOf 78 = .ok (.iaload, 1) := by decide +kernel
theorem dX9_ruleOf_79 : decode cX9_ruleOf 79 = .ok (.ireturn, 1) := by decide +kernel
theorem dX9_ruleOf_80 : decode cX9_ruleOf 80 = .ok (.aload_n 0, 1) := by decide +kernel
theorem dX9_ruleOf_81 : decode cX9_ruleOf 81 = .ok (.iload_n 1, 1) := by decide +kernel
theorem dX9_ruleOf_82 : decode cX9_ruleOf 82 = .ok (.aload_n 0, 1) := by decide +kernel
theorem dX9_ruleOf_83 : decode cX9_ruleOf 83 = .ok (.getfield 119, 3) := by decide +kernel
theorem dX9_ruleOf_86 : decode cX9_ruleOf 86 = .ok (.invokevirtual 143, 3) := by decide +kernel
theorem dX9_ruleOf_89 : decode cX9_ruleOf 89 = .ok (.ifCond .eq 7, 3) := by decide +kernel
theorem dX9_ruleOf_92 : decode cX9_ruleOf 92 = .ok (.iconst 1, 1) := by decide +kernel
theorem dX9_ruleOf_93 : decode cX9_ruleOf 93 = .ok (.goto 4, 3) := by decide +kernel
theorem dX9_ruleOf_96 : decode cX9_ruleOf 96 = .ok (.iconst 0, 1) := by decide +kernel
theorem dX9_ruleOf_97 : decode cX9_ruleOf 97 = .ok (.ireturn, 1) := by decide +kernel
theorem dX9_ask_0 : decode cX9_ask 0 = .ok (.iload_n 1, 1) := by decide +kernel
theorem dX9_ask_1 : decode cX9_ask 1 = .ok (.invokestatic 116, 3) := by decide +kernel
theorem dX9_ask_4 : decode cX9_ask 4 = .ok (.ifCond .eq 25, 3) := by decide +kernel
theorem dX9_ask_7 : decode cX9_ask 7 = .ok (.iload_n 2, 1) := by decide +kernel
theorem dX9_ask_8 : decode cX9_ask 8 = .ok (.iconst 0, 1) := by decide +kernel
theorem dX9_ask_9 : decode cX9_ask 9 = .ok (.iconst 2, 1) := by decide +kernel
theorem dX9_ask_10 : decode cX9_ask 10 = .ok (.invokestatic 105, 3) := by decide +kernel
theorem dX9_ask_13 : decode cX9_ask 13 = .ok (.ifCond .eq 16, 3) := by decide +kernel
theorem dX9_ask_16 : decode cX9_ask 16 = .ok (.iload_n 3, 1) := by decide +kernel
theorem dX9_ask_17 : decode cX9_ask 17 = .ok (.ifCond .lt 12, 3) := by decide +kernel
theorem dX9_ask_20 : decode cX9_ask 20 = .ok (.iload_n 3, 1) := by decide +kernel
theorem dX9_ask_21 : decode cX9_ask 21 = .ok (.aload_n 0, 1) := by decide +kernel
theorem dX9_ask_22 : decode cX9_ask 22 = .ok (.getfield 101, 3) := by decide +kernel
theorem dX9_ask_25 : decode cX9_ask 25 = .ok (.ishr, 1) := by decide +kernel
theorem dX9_ask_26 : decode cX9_ask 26 = .ok (.ifCond .eq 5, 3) := by decide +kernel
theorem dX9_ask_29 : decode cX9_ask 29 = .ok (.iconst (-1), 1) := by decide +kernel
theorem dX9_ask_30 : decode cX9_ask 30 = .ok (.ireturn, 1) := by decide +kernel
theorem dX9_ask_31 : decode cX9_ask 31 = .ok (.iconst 0, 1) := by decide +kernel
theorem dX9_ask_32 : decode cX9_ask 32 = .ok (.istore 4, 2) := by decide +kernel
theorem dX9_ask_34 : decode cX9_ask 34 = .ok (.iload 4, 2) := by decide +kernel
theorem dX9_ask_36 : decode cX9_ask 36 = .ok (.aload_n 0, 1) := by decide +kernel
theorem dX9_ask_37 : decode cX9_ask 37 = .ok (.getfield 101, 3) := by decide +kernel
theorem dX9_ask_40 : decode cX9_ask 40 = .ok (.if_icmp .ge 31, 3) := by decide +kernel
theorem dX9_ask_43 : decode cX9_ask 43 = .ok (.iload_n 3, 1) := by decide +kernel
theorem dX9_ask_44 : decode cX9_ask 44 = .ok (.iload 4, 2) := by decide +kernel
theorem dX9_ask_46 : decode cX9_ask 46 = .ok (.invokestatic 125, 3) := by decide +kernel
theorem dX9_ask_49 : decode cX9_ask 49 = .ok (.ifCond .eq 16, 3) := by decide +kernel
theorem dX9_ask_52 : decode cX9_ask 52 = .ok (.aload_n 0, 1) := by decide +kernel
theorem dX9_ask_53 : decode cX9_ask 53 = .ok (.getfield 16, 3) := by decide +kernel
theorem dX9_ask_56 : decode cX9_ask 56 = .ok (.iload 4, 2) := by decide +kernel
theorem dX9_ask_58 : decode cX9_ask 58 = .ok (.iaload, 1) := by decide +kernel
theorem dX9_ask_59 : decode cX9_ask 59 = .ok (.iconst 2, 1) := by decide +kernel
theorem dX9_ask_60 : decode cX9_ask 60 = .ok (.if_icmp .ne 5, 3) := by decide +kernel
theorem dX9_ask_63 : decode cX9_ask 63 = .ok (.iconst (-1), 1) := by decide +kernel
theorem dX9_ask_64 : decode cX9_ask 64 = .ok (.ireturn, 1) := by decide +kernel
theorem dX9_ask_65 : decode cX9_ask 65 = .ok (.iinc 4 1, 3) := by decide +kernel
theorem dX9_ask_68 : decode cX9_ask 68 = .ok (.goto (-34), 3) := by decide +kernel
theorem dX9_ask_71 : decode cX9_ask 71 = .ok (.aload_n 0, 1) := by decide +kernel
theorem dX9_ask_72 : decode cX9_ask 72 = .ok (.getfield 113, 3) := by decide +kernel
theorem dX9_ask_75 : decode cX9_ask 75 = .ok (.bipush 7, 2) := by decide +kernel
theorem dX9_ask_77 : decode cX9_ask 77 = .ok (.if_icmp .ne 6, 3) := by decide +kernel
theorem dX9_ask_80 : decode cX9_ask 80 = .ok (.bipush (-2), 2) := by decide +kernel
theorem dX9_ask_82 : decode cX9_ask 82 = .ok (.ireturn, 1) := by decide +kernel
theorem dX9_ask_83 : decode cX9_ask 83 = .ok (.aload_n 0, 1) := by decide +kernel
theorem dX9_ask_84 : decode cX9_ask 84 = .ok (.getfield 53, 3) := by decide +kernel
theorem dX9_ask_87 : decode cX9_ask 87 = .ok (.aload_n 0, 1) := by decide +kernel
theorem dX9_ask_88 : decode cX9_ask 88 = .ok (.getfield 113, 3) := by decide +kernel
theorem dX9_ask_91 : decode cX9_ask 91 = .ok (.iload_n 1, 1) := by decide +kernel
theorem dX9_ask_92 : decode cX9_ask 92 = .ok (.iastore, 1) := by decide +kernel
theorem dX9_ask_93 : decode cX9_ask 93 = .ok (.aload_n 0, 1) := by decide +kernel
theorem dX9_ask_94 : decode cX9_ask 94 = .ok (.getfield 56, 3) := by decide +kernel
theorem dX9_ask_97 : decode cX9_ask 97 = .ok (.aload_n 0, 1) := by decide +kernel
theorem dX9_ask_98 : decode cX9_ask 98 = .ok (.getfield 113, 3) := by decide +kernel
theorem dX9_ask_101 : decode cX9_ask 101 = .ok (.iload_n 2, 1) := by decide +kernel
theorem dX9_ask_102 : decode cX9_ask 102 = .ok (.iastore, 1) := by decide +kernel
theorem dX9_ask_103 : decode cX9_ask 103 = .ok (.aload_n 0, 1) := by decide +kernel
theorem dX9_ask_104 : decode cX9_ask 104 = .ok (.getfield 59, 3) := by decide +kernel
theorem dX9_ask_107 : decode cX9_ask 107 = .ok (.aload_n 0, 1) := by decide +kernel
theorem dX9_ask_108 : decode cX9_ask 108 = .ok (.getfield 113, 3) := by decide +kernel
theorem dX9_ask_111 : decode cX9_ask 111 = .ok (.iload_n 3, 1) := by decide +kernel
theorem dX9_ask_112 : decode cX9_ask 112 = .ok (.iastore, 1) := by decide +kernel
theorem dX9_ask_113 : decode cX9_ask 113 = .ok (.aload_n 0, 1) := by decide +kernel
theorem dX9_ask_114 : decode cX9_ask 114 = .ok (.getfield 62, 3) := by decide +kernel
theorem dX9_ask_117 : decode cX9_ask 117 = .ok (.aload_n 0, 1) := by decide +kernel
theorem dX9_ask_118 : decode cX9_ask 118 = .ok (.getfield 113, 3) := by decide +kernel
theorem dX9_ask_121 : decode cX9_ask 121 = .ok (.iconst 0, 1) := by decide +kernel
theorem dX9_ask_122 : decode cX9_ask 122 = .ok (.iastore, 1) := by decide +kernel
theorem dX9_ask_123 : decode cX9_ask 123 = .ok (.aload_n 0, 1) := by decide +kernel
theorem dX9_ask_124 : decode cX9_ask 124 = .ok (.getfield 65, 3) := by decide +kernel
theorem dX9_ask_127 : decode cX9_ask 127 = .ok (.aload_n 0, 1) := by decide +kernel
theorem dX9_ask_128 : decode cX9_ask 128 = .ok (.getfield 113, 3) := by decide +kernel
theorem dX9_ask_131 : decode cX9_ask 131 = .ok (.iconst (-1), 1) := by decide +kernel
theorem dX9_ask_132 : decode cX9_ask 132 = .ok (.iastore, 1) := by decide +kernel
theorem dX9_ask_133 : decode cX9_ask 133 = .ok (.aload_n 0, 1) := by decide +kernel
theorem dX9_ask_134 : decode cX9_ask 134 = .ok (.getfield 68, 3) := by decide +kernel
theorem dX9_ask_137 : decode cX9_ask 137 = .ok (.aload_n 0, 1) := by decide +kernel
theorem dX9_ask_138 : decode cX9_ask 138 = .ok (.getfield 113, 3) := by decide +kernel
theorem dX9_ask_141 : decode cX9_ask 141 = .ok (.bipush (-3), 2) := by decide +kernel
theorem dX9_ask_143 : decode cX9_ask 143 = .ok (.iastore, 1) := by decide +kernel
theorem dX9_ask_144 : decode cX9_ask 144 = .ok (.aload_n 0, 1) := by decide +kernel
theorem dX9_ask_145 : decode cX9_ask 145 = .ok (.getfield 71, 3) := by decide +kernel
theorem dX9_ask_148 : decode cX9_ask 148 = .ok (.aload_n 0, 1) := by decide +kernel
theorem dX9_ask_149 : decode cX9_ask 149 = .ok (.getfield 113, 3) := by decide +kernel
theorem dX9_ask_152 : decode cX9_ask 152 = .ok (.bipush (-3), 2) := by decide +kernel
theorem dX9_ask_154 : decode cX9_ask 154 = .ok (.iastore, 1) := by decide +kernel
theorem dX9_ask_155 : decode cX9_ask 155 = .ok (.aload_n 0, 1) := by decide +kernel
theorem dX9_ask_156 : decode cX9_ask 156 = .ok (.getfield 74, 3) := by decide +kernel
theorem dX9_ask_159 : decode cX9_ask 159 = .ok (.aload_n 0, 1) := by decide +kernel
theorem dX9_ask_160 : decode cX9_ask 160 = .ok (.getfield 113, 3) := by decide +kernel
theorem dX9_ask_163 : decode cX9_ask 163 = .ok (.bipush (-3), 2) := by decide +kernel
theorem dX9_ask_165 : decode cX9_ask 165 = .ok (.iastore, 1) := by decide +kernel
theorem dX9_ask_166 : decode cX9_ask 166 = .ok (.aload_n 0, 1) := by decide +kernel
theorem dX9_ask_167 : decode cX9_ask 167 = .ok (.dup, 1) := by decide +kernel
theorem dX9_ask_168 : decode cX9_ask 168 = .ok (.getfield 113, 3) := by decide +kernel
theorem dX9_ask_171 : decode cX9_ask 171 = .ok (.iconst 1, 1) := by decide +kernel
theorem dX9_ask_172 : decode cX9_ask 172 = .ok (.iadd, 1) := by decide +kernel
theorem dX9_ask_173 : decode cX9_ask 173 = .ok (.putfield 113, 3) := by decide +kernel
theorem dX9_ask_176 : decode cX9_ask 176 = .ok (.aload_n 0, 1) := by decide +kernel
theorem dX9_ask_177 : decode cX9_ask 177 = .ok (.getfield 113, 3) := by decide +kernel
theorem dX9_ask_180 : decode cX9_ask 180 = .ok (.iconst 1, 1) := by decide +kernel
theorem dX9_ask_181 : decode cX9_ask 181 = .ok (.isub, 1) := by decide +kernel
theorem dX9_ask_182 : decode cX9_ask 182 = .ok (.ireturn, 1) := by decide +kernel
theorem dX9_hold_0 : decode cX9_hold 0 = .ok (.aload_n 0, 1) := by decide +kernel
theorem dX9_hold_1 : decode cX9_hold 1 = .ok (.iload_n 1, 1) := by decide +kernel
theorem dX9_hold_2 : decode cX9_hold 2 = .ok (.invokevirtual 262, 3) := by decide +kernel
theorem dX9_hold_5 : decode cX9_hold 5 = .ok (.ifCond .eq 15, 3) := by decide +kernel
theorem dX9_hold_8 : decode cX9_hold 8 = .ok (.iload_n 2, 1) := by decide +kernel
theorem dX9_hold_9 : decode cX9_hold 9 = .ok (.iconst (-1), 1) := by decide +kernel
theorem dX9_hold_10 : decode cX9_hold 10 = .ok (.if_icmp .eq 13, 3) := by decide +kernel
theorem dX9_hold_13 : decode cX9_hold 13 = .ok (.iload_n 2, 1) := by decide +kernel
theorem dX9_hold_14 : decode cX9_hold 14 = .ok (.invokestatic 265, 3) := by decide +kernel
theorem dX9_hold_17 : decode cX9_hold 17 = .ok (.ifCond .ne 6, 3) := by decide +kernel
theorem dX9_hold_20 : decode cX9_hold 20 = .ok (.bipush (-9), 2) := by decide +kernel
theorem dX9_hold_22 : decode cX9_hold 22 = .ok (.ireturn, 1) := by decide +kernel
theorem dX9_hold_23 : decode cX9_hold 23 = .ok (.aload_n 0, 1) := by decide +kernel
theorem dX9_hold_24 : decode cX9_hold 24 = .ok (.getfield 62, 3) := by decide +kernel
theorem dX9_hold_27 : decode cX9_hold 27 = .ok (.iload_n 1, 1) := by decide +kernel
theorem dX9_hold_28 : decode cX9_hold 28 = .ok (.iaload, 1) := by decide +kernel
theorem dX9_hold_29 : decode cX9_hold 29 = .ok (.iconst 5, 1) := by decide +kernel
theorem dX9_hold_30 : decode cX9_hold 30 = .ok (.if_icmp .eq 27, 3) := by decide +kernel
theorem dX9_hold_33 : decode cX9_hold 33 = .ok (.aload_n 0, 1) := by decide +kernel
theorem dX9_hold_34 : decode cX9_hold 34 = .ok (.getfield 62, 3) := by decide +kernel
theorem dX9_hold_37 : decode cX9_hold 37 = .ok (.iload_n 1, 1) := by decide +kernel
theorem dX9_hold_38 : decode cX9_hold 38 = .ok (.iaload, 1) := by decide +kernel
theorem dX9_hold_39 : decode cX9_hold 39 = .ok (.iconst 3, 1) := by decide +kernel
theorem dX9_hold_40 : decode cX9_hold 40 = .ok (.if_icmp .ne 20, 3) := by decide +kernel
theorem dX9_hold_43 : decode cX9_hold 43 = .ok (.iload_n 2, 1) := by decide +kernel
theorem dX9_hold_44 : decode cX9_hold 44 = .ok (.iconst (-1), 1) := by decide +kernel
theorem dX9_hold_45 : decode cX9_hold 45 = .ok (.if_icmp .eq 12, 3) := by decide +kernel
theorem dX9_hold_48 : decode cX9_hold 48 = .ok (.aload_n 0, 1) := by decide +kernel
theorem dX9_hold_49 : decode cX9_hold 49 = .ok (.getfield 47, 3) := by decide +kernel
theorem dX9_hold_52 : decode cX9_hold 52 = .ok (.iload_n 2, 1) := by decide +kernel
theorem dX9_hold_53 : decode cX9_hold 53 = .ok (.baload, 1) := by decide +kernel
theorem dX9_hold_54 : decode cX9_hold 54 = .ok (.ifCond .eq 6, 3) := by decide +kernel
theorem dX9_hold_57 : decode cX9_hold 57 = .ok (.bipush (-4), 2) := by decide +kernel
theorem dX9_hold_59 : decode cX9_hold 59 = .ok (.ireturn, 1) := by decide +kernel
theorem dX9_hold_60 : decode cX9_hold 60 = .ok (.aload_n 0, 1) := by decide +kernel
theorem dX9_hold_61 : decode cX9_hold 61 = .ok (.getfield 65, 3) := by decide +kernel
theorem dX9_hold_64 : decode cX9_hold 64 = .ok (.iload_n 1, 1) := by decide +kernel
theorem dX9_hold_65 : decode cX9_hold 65 = .ok (.iaload, 1) := by decide +kernel
theorem dX9_hold_66 : decode cX9_hold 66 = .ok (.istore_n 3, 1) := by decide +kernel
theorem dX9_hold_67 : decode cX9_hold 67 = .ok (.aload_n 0, 1) := by decide +kernel
theorem dX9_hold_68 : decode cX9_hold 68 = .ok (.getfield 65, 3) := by decide +kernel
theorem dX9_hold_71 : decode cX9_hold 71 = .ok (.iload_n 1, 1) := by decide +kernel
theorem dX9_hold_72 : decode cX9_hold 72 = .ok (.iload_n 2, 1) := by decide +kernel
theorem dX9_hold_73 : decode cX9_hold 73 = .ok (.iastore, 1) := by decide +kernel
theorem dX9_hold_74 : decode cX9_hold 74 = .ok (.iload_n 3, 1) := by decide +kernel
theorem dX9_hold_75 : decode cX9_hold 75 = .ok (.ireturn, 1) := by decide +kernel
theorem dX9_rules_0 : decode cX9_rules 0 = .ok (.aload_n 0, 1) := by decide +kernel
theorem dX9_rules_1 : decode cX9_rules 1 = .ok (.getfield 29, 3) := by decide +kernel
theorem dX9_rules_4 : decode cX9_rules 4 = .ok (.iload_n 1, 1) := by decide +kernel
theorem dX9_rules_5 : decode cX9_rules 5 = .ok (.iaload, 1) := by decide +kernel
theorem dX9_rules_6 : decode cX9_rules 6 = .ok (.iload_n 2, 1) := by decide +kernel
theorem dX9_rules_7 : decode cX9_rules 7 = .ok (.if_icmp .ne 34, 3) := by decide +kernel
theorem dX9_rules_10 : decode cX9_rules 10 = .ok (.aload_n 0, 1) := by decide +kernel
theorem dX9_rules_11 : decode cX9_rules 11 = .ok (.getfield 32, 3) := by decide +kernel
theorem dX9_rules_14 : decode cX9_rules 14 = .ok (.iload_n 1, 1) := by decide +kernel
theorem dX9_rules_15 : decode cX9_rules 15 = .ok (.iaload, 1) := by decide +kernel
theorem dX9_rules_16 : decode cX9_rules 16 = .ok (.aload_n 0, 1) := by decide +kernel
theorem dX9_rules_17 : decode cX9_rules 17 = .ok (.getfield 56, 3) := by decide +kernel
theorem dX9_rules_20 : decode cX9_rules 20 = .ok (.iload_n 3, 1) := by decide +kernel
theorem dX9_rules_21 : decode cX9_rules 21 = .ok (.iaload, 1) := by decide +kernel
theorem dX9_rules_22 : decode cX9_rules 22 = .ok (.if_icmp .ne 19, 3) := by decide +kernel
theorem dX9_rules_25 : decode cX9_rules 25 = .ok (.aload_n 0, 1) := by decide +kernel
theorem dX9_rules_26 : decode cX9_rules 26 = .ok (.iload_n 1, 1) := by decide +kernel
theorem dX9_rules_27 : decode cX9_rules 27 = .ok (.aload_n 0, 1) := by decide +kernel
theorem dX9_rules_28 : decode cX9_rules 28 = .ok (.getfield 119, 3) := by decide +kernel
theorem dX9_rules_31 : decode cX9_rules 31 = .ok (.invokevirtual 143, 3) := by decide +kernel
theorem dX9_rules_34 : decode cX9_rules 34 = .ok (.ifCond .eq 7, 3) := by decide +kernel
theorem dX9_rules_37 : decode cX9_rules 37 = .ok (.iconst 1, 1) := by decide +kernel
theorem dX9_rules_38 : decode cX9_rules 38 = .ok (.goto 4, 3) := by decide +kernel
theorem dX9_rules_41 : decode cX9_rules 41 = .ok (.iconst 0, 1) := by decide +kernel
theorem dX9_rules_42 : decode cX9_rules 42 = .ok (.ireturn, 1) := by decide +kernel
theorem dX9_lacksTest_0 : decode cX9_lacksTest 0 = .ok (.iconst 0, 1) := by decide +kernel
theorem dX9_lacksTest_1 : decode cX9_lacksTest 1 = .ok (.istore_n 2, 1) := by decide +kernel
theorem dX9_lacksTest_2 : decode cX9_lacksTest 2 = .ok (.iconst 0, 1) := by decide +kernel
theorem dX9_lacksTest_3 : decode cX9_lacksTest 3 = .ok (.istore_n 3, 1) := by decide +kernel
theorem dX9_lacksTest_4 : decode cX9_lacksTest 4 = .ok (.iload_n 3, 1) := by decide +kernel
theorem dX9_lacksTest_5 : decode cX9_lacksTest 5 = .ok (.aload_n 0, 1) := by decide +kernel
theorem dX9_lacksTest_6 : decode cX9_lacksTest 6 = .ok (.getfield 140, 3) := by decide +kernel
theorem dX9_lacksTest_9 : decode cX9_lacksTest 9 = .ok (.if_icmp .ge 81, 3) := by decide +kernel
theorem dX9_lacksTest_12 : decode cX9_lacksTest 12 = .ok (.aload_n 0, 1) := by decide +kernel
theorem dX9_lacksTest_13 : decode cX9_lacksTest 13 = .ok (.getfield 68, 3) := by decide +kernel
theorem dX9_lacksTest_16 : decode cX9_lacksTest 16 = .ok (.iload_n 1, 1) := by decide +kernel
theorem dX9_lacksTest_17 : decode cX9_lacksTest 17 = .ok (.iaload, 1) := by decide +kernel
theorem dX9_lacksTest_18 : decode cX9_lacksTest 18 = .ok (.ifCond .lt 38, 3) := by decide +kernel
theorem dX9_lacksTest_21 : decode cX9_lacksTest 21 = .ok (.aload_n 0, 1) := by decide +kernel
theorem dX9_lacksTest_22 : decode cX9_lacksTest 22 = .ok (.getfield 68, 3) := by decide +kernel
theorem dX9_lacksTest_25 : decode cX9_lacksTest 25 = .ok (.iload_n 1, 1) := by decide +kernel
theorem dX9_lacksTest_26 : decode cX9_lacksTest 26 = .ok (.iaload, 1) := by decide +kernel
theorem dX9_lacksTest_27 : decode cX9_lacksTest 27 = .ok (.bipush 10, 2) := by decide +kernel
theorem dX9_lacksTest_29 : decode cX9_lacksTest 29 = .ok (.if_icmp .gt 27, 3) := by decide +kernel
theorem dX9_lacksTest_32 : decode cX9_lacksTest 32 = .ok (.aload_n 0, 1) := by decide +kernel
theorem dX9_lacksTest_33 : decode cX9_lacksTest 33 = .ok (.getfield 119, 3) := by decide +kernel
theorem dX9_lacksTest_36 : decode cX9_lacksTest 36 = .ok (.aload_n 0, 1) := by decide +kernel
theorem dX9_lacksTest_37 : decode cX9_lacksTest 37 = .ok (.getfield 71, 3) := by decide +kernel
theorem dX9_lacksTest_40 : decode cX9_lacksTest 40 = .ok (.iload_n 1, 1) := by decide +kernel
theorem dX9_lacksTest_41 : decode cX9_lacksTest 41 = .ok (.iaload, 1) := by decide +kernel
theorem dX9_lacksTest_42 : decode cX9_lacksTest 42 = .ok (.isub, 1) := by decide +kernel
theorem dX9_lacksTest_43 : decode cX9_lacksTest 43 = .ok (.aload_n 0, 1) := by decide +kernel
theorem dX9_lacksTest_44 : decode cX9_lacksTest 44 = .ok (.getfield 35, 3) := by decide +kernel
theorem dX9_lacksTest_47 : decode cX9_lacksTest 47 = .ok (.iload_n 3, 1) := by decide +kernel
theorem dX9_lacksTest_48 : decode cX9_lacksTest 48 = .ok (.iaload, 1) := by decide +kernel
theorem dX9_lacksTest_49 : decode cX9_lacksTest 49 = .ok (.if_icmp .gt 7, 3) := by decide +kernel
theorem dX9_lacksTest_52 : decode cX9_lacksTest 52 = .ok (.iconst 1, 1) := by decide +kernel
theorem dX9_lacksTest_53 : decode cX9_lacksTest 53 = .ok (.goto 4, 3) := by decide +kernel
theorem dX9_lacksTest_56 : decode cX9_lacksTest 56 = .ok (.iconst 0, 1) := by decide +kernel
theorem dX9_lacksTest_57 : decode cX9_lacksTest 57 = .ok (.istore 4, 2) := by decide +kernel
theorem dX9_lacksTest_59 : decode cX9_lacksTest 59 = .ok (.iload_n 2, 1) := by decide +kernel
theorem dX9_lacksTest_60 : decode cX9_lacksTest 60 = .ok (.ifCond .ne 18, 3) := by decide +kernel
theorem dX9_lacksTest_63 : decode cX9_lacksTest 63 = .ok (.aload_n 0, 1) := by decide +kernel
theorem dX9_lacksTest_64 : decode cX9_lacksTest 64 = .ok (.iload_n 3, 1) := by decide +kernel
theorem dX9_lacksTest_65 : decode cX9_lacksTest 65 = .ok (.iconst 0, 1) := by decide +kernel
theorem dX9_lacksTest_66 : decode cX9_lacksTest 66 = .ok (.iload_n 1, 1) := by decide +kernel
theorem dX9_lacksTest_67 : decode cX9_lacksTest 67 = .ok (.invokevirtual 268, 3) := by decide +kernel
theorem dX9_lacksTest_70 : decode cX9_lacksTest 70 = .ok (.ifCond .eq 12, 3) := by decide +kernel
theorem dX9_lacksTest_73 : decode cX9_lacksTest 73 = .ok (.iload 4, 2) := by decide +kernel
theorem dX9_lacksTest_75 : decode cX9_lacksTest 75 = .ok (.ifCond .ne 7, 3) := by decide +kernel
theorem dX9_lacksTest_78 : decode cX9_lacksTest 78 = .ok (.iconst 1, 1) := by decide +kernel
theorem dX9_lacksTest_79 : decode cX9_lacksTest 79 = .ok (.goto 4, 3) := by decide +kernel
theorem dX9_lacksTest_82 : decode cX9_lacksTest 82 = .ok (.iconst 0, 1) := by decide +kernel
theorem dX9_lacksTest_83 : decode cX9_lacksTest 83 = .ok (.istore_n 2, 1) := by decide +kernel
theorem dX9_lacksTest_84 : decode cX9_lacksTest 84 = .ok (.iinc 3 1, 3) := by decide +kernel
theorem dX9_lacksTest_87 : decode cX9_lacksTest 87 = .ok (.goto (-83), 3) := by decide +kernel
theorem dX9_lacksTest_90 : decode cX9_lacksTest 90 = .ok (.iload_n 2, 1) := by decide +kernel
theorem dX9_lacksTest_91 : decode cX9_lacksTest 91 = .ok (.ireturn, 1) := by decide +kernel
theorem dX9_within_0 : decode cX9_within 0 = .ok (.iconst (-1), 1) := by decide +kernel
theorem dX9_within_1 : decode cX9_within 1 = .ok (.istore_n 3, 1) := by decide +kernel
theorem dX9_within_2 : decode cX9_within 2 = .ok (.iconst 0, 1) := by decide +kernel
theorem dX9_within_3 : decode cX9_within 3 = .ok (.istore 4, 2) := by decide +kernel
theorem dX9_within_5 : decode cX9_within 5 = .ok (.iload 4, 2) := by decide +kernel
theorem dX9_within_7 : decode cX9_within 7 = .ok (.aload_n 0, 1) := by decide +kernel
theorem dX9_within_8 : decode cX9_within 8 = .ok (.getfield 140, 3) := by decide +kernel
theorem dX9_within_11 : decode cX9_within 11 = .ok (.if_icmp .ge 108, 3) := by decide +kernel
theorem dX9_within_14 : decode cX9_within 14 = .ok (.aload_n 0, 1) := by decide +kernel
theorem dX9_within_15 : decode cX9_within 15 = .ok (.getfield 32, 3) := by decide +kernel
theorem dX9_within_18 : decode cX9_within 18 = .ok (.iload 4, 2) := by decide +kernel
theorem dX9_within_20 : decode cX9_within 20 = .ok (.iaload, 1) := by decide +kernel
theorem dX9_within_21 : decode cX9_within 21 = .ok (.iload_n 1, 1) := by decide +kernel
theorem dX9_within_22 : decode cX9_within 22 = .ok (.if_icmp .ne 14, 3) := by decide +kernel
theorem dX9_within_25 : decode cX9_within 25 = .ok (.aload_n 0, 1) := by decide +kernel
theorem dX9_within_26 : decode cX9_within 26 = .ok (.getfield 35, 3) := by decide +kernel
theorem dX9_within_29 : decode cX9_within 29 = .ok (.iload 4, 2) := by decide +kernel
theorem dX9_within_31 : decode cX9_within 31 = .ok (.iaload, 1) := by decide +kernel
theorem dX9_within_32 : decode cX9_within 32 = .ok (.iload_n 2, 1) := by decide +kernel
theorem dX9_within_33 : decode cX9_within 33 = .ok (.if_icmp .eq 25, 3) := by decide +kernel
theorem dX9_within_36 : decode cX9_within 36 = .ok (.aload_n 0, 1) := by decide +kernel
theorem dX9_within_37 : decode cX9_within 37 = .ok (.getfield 32, 3) := by decide +kernel
theorem dX9_within_40 : decode cX9_within 40 = .ok (.iload 4, 2) := by decide +kernel
theorem dX9_within_42 : decode cX9_within 42 = .ok (.iaload, 1) := by decide +kernel
theorem dX9_within_43 : decode cX9_within 43 = .ok (.iload_n 2, 1) := by decide +kernel
theorem dX9_within_44 : decode cX9_within 44 = .ok (.if_icmp .ne 18, 3) := by decide +kernel
theorem dX9_within_47 : decode cX9_within 47 = .ok (.aload_n 0, 1) := by decide +kernel
theorem dX9_within_48 : decode cX9_within 48 = .ok (.getfield 35, 3) := by decide +kernel
theorem dX9_within_51 : decode cX9_within 51 = .ok (.iload 4, 2) := by decide +kernel
theorem dX9_within_53 : decode cX9_within 53 = .ok (.iaload, 1) := by decide +kernel
theorem dX9_within_54 : decode cX9_within 54 = .ok (.iload_n 1, 1) := by decide +kernel
theorem dX9_within_55 : decode cX9_within 55 = .ok (.if_icmp .ne 7, 3) := by decide +kernel
theorem dX9_within_58 : decode cX9_within 58 = .ok (.iconst 1, 1) := by decide +kernel
theorem dX9_within_59 : decode cX9_within 59 = .ok (.goto 4, 3) := by decide +kernel
theorem dX9_within_62 : decode cX9_within 62 = .ok (.iconst 0, 1) := by decide +kernel
theorem dX9_within_63 : decode cX9_within 63 = .ok (.istore 5, 2) := by decide +kernel
theorem dX9_within_65 : decode cX9_within 65 = .ok (.aload_n 0, 1) := by decide +kernel
theorem dX9_within_66 : decode cX9_within 66 = .ok (.getfield 29, 3) := by decide +kernel
end
section
theorem dX9_within_69 : decode cX9_within 69 = .ok (.iload 4, 2) := by decide +kernel
theorem dX9_within_71 : decode cX9_within 71 = .ok (.iaload, 1) := by decide +kernel
theorem dX9_within_72 : decode cX9_within 72 = .ok (.iconst 1, 1) := by decide +kernel
theorem dX9_within_73 : decode cX9_within 73 = .ok (.if_icmp .ne 40, 3) := by decide +kernel
theorem dX9_within_76 : decode cX9_within 76 = .ok (.iload 5, 2) := by decide +kernel
theorem dX9_within_78 : decode cX9_within 78 = .ok (.ifCond .eq 35, 3) := by decide +kernel
theorem dX9_within_81 : decode cX9_within 81 = .ok (.aload_n 0, 1) := by decide +kernel
theorem dX9_within_82 : decode cX9_within 82 = .ok (.iload 4, 2) := by decide +kernel
theorem dX9_within_84 : decode cX9_within 84 = .ok (.aload_n 0, 1) := by decide +kernel
theorem dX9_within_85 : decode cX9_within 85 = .ok (.getfield 119, 3) := by decide +kernel
theorem dX9_within_88 : decode cX9_within 88 = .ok (.invokevirtual 143, 3) := by decide +kernel
theorem dX9_within_91 : decode cX9_within 91 = .ok (.ifCond .eq 22, 3) := by decide +kernel
theorem dX9_within_94 : decode cX9_within 94 = .ok (.aload_n 0, 1) := by decide +kernel
theorem dX9_within_95 : decode cX9_within 95 = .ok (.getfield 38, 3) := by decide +kernel
theorem dX9_within_98 : decode cX9_within 98 = .ok (.iload 4, 2) := by decide +kernel
theorem dX9_within_100 : decode cX9_within 100 = .ok (.iaload, 1) := by decide +kernel
theorem dX9_within_101 : decode cX9_within 101 = .ok (.iload_n 3, 1) := by decide +kernel
theorem dX9_within_102 : decode cX9_within 102 = .ok (.if_icmp .le 11, 3) := by decide +kernel
theorem dX9_within_105 : decode cX9_within 105 = .ok (.aload_n 0, 1) := by decide +kernel
theorem dX9_within_106 : decode cX9_within 106 = .ok (.getfield 38, 3) := by decide +kernel
theorem dX9_within_109 : decode cX9_within 109 = .ok (.iload 4, 2) := by decide +kernel
theorem dX9_within_111 : decode cX9_within 111 = .ok (.iaload, 1) := by decide +kernel
theorem dX9_within_112 : decode cX9_within 112 = .ok (.istore_n 3, 1) := by decide +kernel
theorem dX9_within_113 : decode cX9_within 113 = .ok (.iinc 4 1, 3) := by decide +kernel
theorem dX9_within_116 : decode cX9_within 116 = .ok (.goto (-111), 3) := by decide +kernel
theorem dX9_within_119 : decode cX9_within 119 = .ok (.iload_n 3, 1) := by decide +kernel
theorem dX9_within_120 : decode cX9_within 120 = .ok (.ireturn, 1) := by decide +kernel
theorem dX9_quarrelOf_0 : decode cX9_quarrelOf 0 = .ok (.iconst 0, 1) := by decide +kernel
theorem dX9_quarrelOf_1 : decode cX9_quarrelOf 1 = .ok (.istore_n 2, 1) := by decide +kernel
theorem dX9_quarrelOf_2 : decode cX9_quarrelOf 2 = .ok (.iload_n 2, 1) := by decide +kernel
theorem dX9_quarrelOf_3 : decode cX9_quarrelOf 3 = .ok (.aload_n 0, 1) := by decide +kernel
theorem dX9_quarrelOf_4 : decode cX9_quarrelOf 4 = .ok (.getfield 113, 3) := by decide +kernel
theorem dX9_quarrelOf_7 : decode cX9_quarrelOf 7 = .ok (.if_icmp .ge 76, 3) := by decide +kernel
theorem dX9_quarrelOf_10 : decode cX9_quarrelOf 10 = .ok (.iload_n 2, 1) := by decide +kernel
theorem dX9_quarrelOf_11 : decode cX9_quarrelOf 11 = .ok (.iload_n 1, 1) := by decide +kernel
theorem dX9_quarrelOf_12 : decode cX9_quarrelOf 12 = .ok (.if_icmp .eq 65, 3) := by decide +kernel
theorem dX9_quarrelOf_15 : decode cX9_quarrelOf 15 = .ok (.aload_n 0, 1) := by decide +kernel
theorem dX9_quarrelOf_16 : decode cX9_quarrelOf 16 = .ok (.getfield 62, 3) := by decide +kernel
theorem dX9_quarrelOf_19 : decode cX9_quarrelOf 19 = .ok (.iload_n 2, 1) := by decide +kernel
theorem dX9_quarrelOf_20 : decode cX9_quarrelOf 20 = .ok (.iaload, 1) := by decide +kernel
theorem dX9_quarrelOf_21 : decode cX9_quarrelOf 21 = .ok (.iconst 3, 1) := by decide +kernel
theorem dX9_quarrelOf_22 : decode cX9_quarrelOf 22 = .ok (.if_icmp .ne 55, 3) := by decide +kernel
theorem dX9_quarrelOf_25 : decode cX9_quarrelOf 25 = .ok (.aload_n 0, 1) := by decide +kernel
theorem dX9_quarrelOf_26 : decode cX9_quarrelOf 26 = .ok (.aload_n 0, 1) := by decide +kernel
theorem dX9_quarrelOf_27 : decode cX9_quarrelOf 27 = .ok (.getfield 53, 3) := by decide +kernel
theorem dX9_quarrelOf_30 : decode cX9_quarrelOf 30 = .ok (.iload_n 1, 1) := by decide +kernel
theorem dX9_quarrelOf_31 : decode cX9_quarrelOf 31 = .ok (.iaload, 1) := by decide +kernel
theorem dX9_quarrelOf_32 : decode cX9_quarrelOf 32 = .ok (.aload_n 0, 1) := by decide +kernel
theorem dX9_quarrelOf_33 : decode cX9_quarrelOf 33 = .ok (.getfield 53, 3) := by decide +kernel
theorem dX9_quarrelOf_36 : decode cX9_quarrelOf 36 = .ok (.iload_n 2, 1) := by decide +kernel
theorem dX9_quarrelOf_37 : decode cX9_quarrelOf 37 = .ok (.iaload, 1) := by decide +kernel
theorem dX9_quarrelOf_38 : decode cX9_quarrelOf 38 = .ok (.iconst 1, 1) := by decide +kernel
theorem dX9_quarrelOf_39 : decode cX9_quarrelOf 39 = .ok (.invokevirtual 161, 3) := by decide +kernel
theorem dX9_quarrelOf_42 : decode cX9_quarrelOf 42 = .ok (.ifCond .lt 35, 3) := by decide +kernel
theorem dX9_quarrelOf_45 : decode cX9_quarrelOf 45 = .ok (.aload_n 0, 1) := by decide +kernel
theorem dX9_quarrelOf_46 : decode cX9_quarrelOf 46 = .ok (.getfield 86, 3) := by decide +kernel
theorem dX9_quarrelOf_49 : decode cX9_quarrelOf 49 = .ok (.aload_n 0, 1) := by decide +kernel
theorem dX9_quarrelOf_50 : decode cX9_quarrelOf 50 = .ok (.getfield 53, 3) := by decide +kernel
theorem dX9_quarrelOf_53 : decode cX9_quarrelOf 53 = .ok (.iload_n 2, 1) := by decide +kernel
theorem dX9_quarrelOf_54 : decode cX9_quarrelOf 54 = .ok (.iaload, 1) := by decide +kernel
theorem dX9_quarrelOf_55 : decode cX9_quarrelOf 55 = .ok (.iaload, 1) := by decide +kernel
theorem dX9_quarrelOf_56 : decode cX9_quarrelOf 56 = .ok (.aload_n 0, 1) := by decide +kernel
theorem dX9_quarrelOf_57 : decode cX9_quarrelOf 57 = .ok (.aload_n 0, 1) := by decide +kernel
theorem dX9_quarrelOf_58 : decode cX9_quarrelOf 58 = .ok (.getfield 56, 3) := by decide +kernel
theorem dX9_quarrelOf_61 : decode cX9_quarrelOf 61 = .ok (.iload_n 1, 1) := by decide +kernel
theorem dX9_quarrelOf_62 : decode cX9_quarrelOf 62 = .ok (.iaload, 1) := by decide +kernel
theorem dX9_quarrelOf_63 : decode cX9_quarrelOf 63 = .ok (.aload_n 0, 1) := by decide +kernel
theorem dX9_quarrelOf_64 : decode cX9_quarrelOf 64 = .ok (.getfield 56, 3) := by decide +kernel
theorem dX9_quarrelOf_67 : decode cX9_quarrelOf 67 = .ok (.iload_n 2, 1) := by decide +kernel
theorem dX9_quarrelOf_68 : decode cX9_quarrelOf 68 = .ok (.iaload, 1) := by decide +kernel
theorem dX9_quarrelOf_69 : decode cX9_quarrelOf 69 = .ok (.invokevirtual 270, 3) := by decide +kernel
theorem dX9_quarrelOf_72 : decode cX9_quarrelOf 72 = .ok (.if_icmp .gt 5, 3) := by decide +kernel
theorem dX9_quarrelOf_75 : decode cX9_quarrelOf 75 = .ok (.iload_n 2, 1) := by decide +kernel
theorem dX9_quarrelOf_76 : decode cX9_quarrelOf 76 = .ok (.ireturn, 1) := by decide +kernel
theorem dX9_quarrelOf_77 : decode cX9_quarrelOf 77 = .ok (.iinc 2 1, 3) := by decide +kernel
theorem dX9_quarrelOf_80 : decode cX9_quarrelOf 80 = .ok (.goto (-78), 3) := by decide +kernel
theorem dX9_quarrelOf_83 : decode cX9_quarrelOf 83 = .ok (.bipush (-3), 2) := by decide +kernel
theorem dX9_quarrelOf_85 : decode cX9_quarrelOf 85 = .ok (.ireturn, 1) := by decide +kernel
theorem dX9_isOutOfHours_0 : decode cX9_isOutOfHours 0 = .ok (.aload_n 0, 1) := by decide +kernel
theorem dX9_isOutOfHours_1 : decode cX9_isOutOfHours 1 = .ok (.getfield 119, 3) := by decide +kernel
theorem dX9_isOutOfHours_4 : decode cX9_isOutOfHours 4 = .ok (.bipush 24, 2) := by decide +kernel
theorem dX9_isOutOfHours_6 : decode cX9_isOutOfHours 6 = .ok (.irem, 1) := by decide +kernel
theorem dX9_isOutOfHours_7 : decode cX9_isOutOfHours 7 = .ok (.istore_n 2, 1) := by decide +kernel
theorem dX9_isOutOfHours_8 : decode cX9_isOutOfHours 8 = .ok (.iconst 0, 1) := by decide +kernel
theorem dX9_isOutOfHours_9 : decode cX9_isOutOfHours 9 = .ok (.istore_n 3, 1) := by decide +kernel
theorem dX9_isOutOfHours_10 : decode cX9_isOutOfHours 10 = .ok (.iconst 0, 1) := by decide +kernel
theorem dX9_isOutOfHours_11 : decode cX9_isOutOfHours 11 = .ok (.istore 4, 2) := by decide +kernel
theorem dX9_isOutOfHours_13 : decode cX9_isOutOfHours 13 = .ok (.iload 4, 2) := by decide +kernel
theorem dX9_isOutOfHours_15 : decode cX9_isOutOfHours 15 = .ok (.aload_n 0, 1) := by decide +kernel
theorem dX9_isOutOfHours_16 : decode cX9_isOutOfHours 16 = .ok (.getfield 140, 3) := by decide +kernel
theorem dX9_isOutOfHours_19 : decode cX9_isOutOfHours 19 = .ok (.if_icmp .ge 90, 3) := by decide +kernel
theorem dX9_isOutOfHours_22 : decode cX9_isOutOfHours 22 = .ok (.aload_n 0, 1) := by decide +kernel
theorem dX9_isOutOfHours_23 : decode cX9_isOutOfHours 23 = .ok (.getfield 35, 3) := by decide +kernel
theorem dX9_isOutOfHours_26 : decode cX9_isOutOfHours 26 = .ok (.iload 4, 2) := by decide +kernel
theorem dX9_isOutOfHours_28 : decode cX9_isOutOfHours 28 = .ok (.iaload, 1) := by decide +kernel
theorem dX9_isOutOfHours_29 : decode cX9_isOutOfHours 29 = .ok (.istore 5, 2) := by decide +kernel
theorem dX9_isOutOfHours_31 : decode cX9_isOutOfHours 31 = .ok (.aload_n 0, 1) := by decide +kernel
theorem dX9_isOutOfHours_32 : decode cX9_isOutOfHours 32 = .ok (.getfield 38, 3) := by decide +kernel
theorem dX9_isOutOfHours_35 : decode cX9_isOutOfHours 35 = .ok (.iload 4, 2) := by decide +kernel
theorem dX9_isOutOfHours_37 : decode cX9_isOutOfHours 37 = .ok (.iaload, 1) := by decide +kernel
theorem dX9_isOutOfHours_38 : decode cX9_isOutOfHours 38 = .ok (.istore 6, 2) := by decide +kernel
theorem dX9_isOutOfHours_40 : decode cX9_isOutOfHours 40 = .ok (.iload 5, 2) := by decide +kernel
theorem dX9_isOutOfHours_42 : decode cX9_isOutOfHours 42 = .ok (.iload 6, 2) := by decide +kernel
theorem dX9_isOutOfHours_44 : decode cX9_isOutOfHours 44 = .ok (.if_icmp .gt 14, 3) := by decide +kernel
theorem dX9_isOutOfHours_47 : decode cX9_isOutOfHours 47 = .ok (.iload_n 2, 1) := by decide +kernel
theorem dX9_isOutOfHours_48 : decode cX9_isOutOfHours 48 = .ok (.iload 5, 2) := by decide +kernel
theorem dX9_isOutOfHours_50 : decode cX9_isOutOfHours 50 = .ok (.iload 6, 2) := by decide +kernel
theorem dX9_isOutOfHours_52 : decode cX9_isOutOfHours 52 = .ok (.invokestatic 105, 3) := by decide +kernel
theorem dX9_isOutOfHours_55 : decode cX9_isOutOfHours 55 = .ok (.goto 20, 3) := by decide +kernel
theorem dX9_isOutOfHours_58 : decode cX9_isOutOfHours 58 = .ok (.iload_n 2, 1) := by decide +kernel
theorem dX9_isOutOfHours_59 : decode cX9_isOutOfHours 59 = .ok (.iload 5, 2) := by decide +kernel
theorem dX9_isOutOfHours_61 : decode cX9_isOutOfHours 61 = .ok (.if_icmp .ge 9, 3) := by decide +kernel
theorem dX9_isOutOfHours_64 : decode cX9_isOutOfHours 64 = .ok (.iload_n 2, 1) := by decide +kernel
theorem dX9_isOutOfHours_65 : decode cX9_isOutOfHours 65 = .ok (.iload 6, 2) := by decide +kernel
theorem dX9_isOutOfHours_67 : decode cX9_isOutOfHours 67 = .ok (.if_icmp .gt 7, 3) := by decide +kernel
theorem dX9_isOutOfHours_70 : decode cX9_isOutOfHours 70 = .ok (.iconst 1, 1) := by decide +kernel
theorem dX9_isOutOfHours_71 : decode cX9_isOutOfHours 71 = .ok (.goto 4, 3) := by decide +kernel
theorem dX9_isOutOfHours_74 : decode cX9_isOutOfHours 74 = .ok (.iconst 0, 1) := by decide +kernel
theorem dX9_isOutOfHours_75 : decode cX9_isOutOfHours 75 = .ok (.istore 7, 2) := by decide +kernel
theorem dX9_isOutOfHours_77 : decode cX9_isOutOfHours 77 = .ok (.iload_n 3, 1) := by decide +kernel
theorem dX9_isOutOfHours_78 : decode cX9_isOutOfHours 78 = .ok (.ifCond .ne 19, 3) := by decide +kernel
theorem dX9_isOutOfHours_81 : decode cX9_isOutOfHours 81 = .ok (.aload_n 0, 1) := by decide +kernel
theorem dX9_isOutOfHours_82 : decode cX9_isOutOfHours 82 = .ok (.iload 4, 2) := by decide +kernel
theorem dX9_isOutOfHours_84 : decode cX9_isOutOfHours 84 = .ok (.iconst 4, 1) := by decide +kernel
theorem dX9_isOutOfHours_85 : decode cX9_isOutOfHours 85 = .ok (.iload_n 1, 1) := by decide +kernel
theorem dX9_isOutOfHours_86 : decode cX9_isOutOfHours 86 = .ok (.invokevirtual 268, 3) := by decide +kernel
theorem dX9_isOutOfHours_89 : decode cX9_isOutOfHours 89 = .ok (.ifCond .eq 12, 3) := by decide +kernel
theorem dX9_isOutOfHours_92 : decode cX9_isOutOfHours 92 = .ok (.iload 7, 2) := by decide +kernel
theorem dX9_isOutOfHours_94 : decode cX9_isOutOfHours 94 = .ok (.ifCond .ne 7, 3) := by decide +kernel
theorem dX9_isOutOfHours_97 : decode cX9_isOutOfHours 97 = .ok (.iconst 1, 1) := by decide +kernel
theorem dX9_isOutOfHours_98 : decode cX9_isOutOfHours 98 = .ok (.goto 4, 3) := by decide +kernel
theorem dX9_isOutOfHours_101 : decode cX9_isOutOfHours 101 = .ok (.iconst 0, 1) := by decide +kernel
theorem dX9_isOutOfHours_102 : decode cX9_isOutOfHours 102 = .ok (.istore_n 3, 1) := by decide +kernel
theorem dX9_isOutOfHours_103 : decode cX9_isOutOfHours 103 = .ok (.iinc 4 1, 3) := by decide +kernel
theorem dX9_isOutOfHours_106 : decode cX9_isOutOfHours 106 = .ok (.goto (-93), 3) := by decide +kernel
theorem dX9_isOutOfHours_109 : decode cX9_isOutOfHours 109 = .ok (.iload_n 3, 1) := by decide +kernel
theorem dX9_isOutOfHours_110 : decode cX9_isOutOfHours 110 = .ok (.ireturn, 1) := by decide +kernel
theorem dX9_insideOf_0 : decode cX9_insideOf 0 = .ok (.iconst 0, 1) := by decide +kernel
theorem dX9_insideOf_1 : decode cX9_insideOf 1 = .ok (.istore_n 2, 1) := by decide +kernel
theorem dX9_insideOf_2 : decode cX9_insideOf 2 = .ok (.iconst 0, 1) := by decide +kernel
theorem dX9_insideOf_3 : decode cX9_insideOf 3 = .ok (.istore_n 3, 1) := by decide +kernel
theorem dX9_insideOf_4 : decode cX9_insideOf 4 = .ok (.iload_n 3, 1) := by decide +kernel
theorem dX9_insideOf_5 : decode cX9_insideOf 5 = .ok (.bipush 8, 2) := by decide +kernel
theorem dX9_insideOf_7 : decode cX9_insideOf 7 = .ok (.if_icmp .ge 27, 3) := by decide +kernel
theorem dX9_insideOf_10 : decode cX9_insideOf 10 = .ok (.iload_n 2, 1) := by decide +kernel
theorem dX9_insideOf_11 : decode cX9_insideOf 11 = .ok (.aload_n 0, 1) := by decide +kernel
theorem dX9_insideOf_12 : decode cX9_insideOf 12 = .ok (.getfield 50, 3) := by decide +kernel
theorem dX9_insideOf_15 : decode cX9_insideOf 15 = .ok (.iload_n 3, 1) := by decide +kernel
theorem dX9_insideOf_16 : decode cX9_insideOf 16 = .ok (.iaload, 1) := by decide +kernel
theorem dX9_insideOf_17 : decode cX9_insideOf 17 = .ok (.iload_n 1, 1) := by decide +kernel
theorem dX9_insideOf_18 : decode cX9_insideOf 18 = .ok (.if_icmp .ne 7, 3) := by decide +kernel
theorem dX9_insideOf_21 : decode cX9_insideOf 21 = .ok (.iconst 1, 1) := by decide +kernel
theorem dX9_insideOf_22 : decode cX9_insideOf 22 = .ok (.goto 4, 3) := by decide +kernel
theorem dX9_insideOf_25 : decode cX9_insideOf 25 = .ok (.iconst 0, 1) := by decide +kernel
theorem dX9_insideOf_26 : decode cX9_insideOf 26 = .ok (.iadd, 1) := by decide +kernel
theorem dX9_insideOf_27 : decode cX9_insideOf 27 = .ok (.istore_n 2, 1) := by decide +kernel
theorem dX9_insideOf_28 : decode cX9_insideOf 28 = .ok (.iinc 3 1, 3) := by decide +kernel
theorem dX9_insideOf_31 : decode cX9_insideOf 31 = .ok (.goto (-27), 3) := by decide +kernel
theorem dX9_insideOf_34 : decode cX9_insideOf 34 = .ok (.iload_n 2, 1) := by decide +kernel
theorem dX9_insideOf_35 : decode cX9_insideOf 35 = .ok (.ireturn, 1) := by decide +kernel
theorem dX9_areTooMany_0 : decode cX9_areTooMany 0 = .ok (.iconst 0, 1) := by decide +kernel
theorem dX9_areTooMany_1 : decode cX9_areTooMany 1 = .ok (.istore_n 2, 1) := by decide +kernel
theorem dX9_areTooMany_2 : decode cX9_areTooMany 2 = .ok (.iconst 0, 1) := by decide +kernel
theorem dX9_areTooMany_3 : decode cX9_areTooMany 3 = .ok (.istore_n 3, 1) := by decide +kernel
theorem dX9_areTooMany_4 : decode cX9_areTooMany 4 = .ok (.iload_n 3, 1) := by decide +kernel
theorem dX9_areTooMany_5 : decode cX9_areTooMany 5 = .ok (.aload_n 0, 1) := by decide +kernel
theorem dX9_areTooMany_6 : decode cX9_areTooMany 6 = .ok (.getfield 140, 3) := by decide +kernel
theorem dX9_areTooMany_9 : decode cX9_areTooMany 9 = .ok (.if_icmp .ge 43, 3) := by decide +kernel
theorem dX9_areTooMany_12 : decode cX9_areTooMany 12 = .ok (.iload_n 2, 1) := by decide +kernel
theorem dX9_areTooMany_13 : decode cX9_areTooMany 13 = .ok (.ifCond .ne 27, 3) := by decide +kernel
theorem dX9_areTooMany_16 : decode cX9_areTooMany 16 = .ok (.aload_n 0, 1) := by decide +kernel
theorem dX9_areTooMany_17 : decode cX9_areTooMany 17 = .ok (.iload_n 3, 1) := by decide +kernel
theorem dX9_areTooMany_18 : decode cX9_areTooMany 18 = .ok (.iconst 3, 1) := by decide +kernel
theorem dX9_areTooMany_19 : decode cX9_areTooMany 19 = .ok (.iload_n 1, 1) := by decide +kernel
theorem dX9_areTooMany_20 : decode cX9_areTooMany 20 = .ok (.invokevirtual 268, 3) := by decide +kernel
theorem dX9_areTooMany_23 : decode cX9_areTooMany 23 = .ok (.ifCond .eq 21, 3) := by decide +kernel
theorem dX9_areTooMany_26 : decode cX9_areTooMany 26 = .ok (.aload_n 0, 1) := by decide +kernel
theorem dX9_areTooMany_27 : decode cX9_areTooMany 27 = .ok (.iload_n 1, 1) := by decide +kernel
theorem dX9_areTooMany_28 : decode cX9_areTooMany 28 = .ok (.invokevirtual 273, 3) := by decide +kernel
theorem dX9_areTooMany_31 : decode cX9_areTooMany 31 = .ok (.aload_n 0, 1) := by decide +kernel
theorem dX9_areTooMany_32 : decode cX9_areTooMany 32 = .ok (.getfield 35, 3) := by decide +kernel
theorem dX9_areTooMany_35 : decode cX9_areTooMany 35 = .ok (.iload_n 3, 1) := by decide +kernel
theorem dX9_areTooMany_36 : decode cX9_areTooMany 36 = .ok (.iaload, 1) := by decide +kernel
theorem dX9_areTooMany_37 : decode cX9_areTooMany 37 = .ok (.if_icmp .lt 7, 3) := by decide +kernel
theorem dX9_areTooMany_40 : decode cX9_areTooMany 40 = .ok (.iconst 1, 1) := by decide +kernel
theorem dX9_areTooMany_41 : decode cX9_areTooMany 41 = .ok (.goto 4, 3) := by decide +kernel
theorem dX9_areTooMany_44 : decode cX9_areTooMany 44 = .ok (.iconst 0, 1) := by decide +kernel
theorem dX9_areTooMany_45 : decode cX9_areTooMany 45 = .ok (.istore_n 2, 1) := by decide +kernel
theorem dX9_areTooMany_46 : decode cX9_areTooMany 46 = .ok (.iinc 3 1, 3) := by decide +kernel
theorem dX9_areTooMany_49 : decode cX9_areTooMany 49 = .ok (.goto (-45), 3) := by decide +kernel
theorem dX9_areTooMany_52 : decode cX9_areTooMany 52 = .ok (.iload_n 2, 1) := by decide +kernel
theorem dX9_areTooMany_53 : decode cX9_areTooMany 53 = .ok (.ireturn, 1) := by decide +kernel
theorem dX9_isWatched_0 : decode cX9_isWatched 0 = .ok (.iconst 0, 1) := by decide +kernel
theorem dX9_isWatched_1 : decode cX9_isWatched 1 = .ok (.istore_n 2, 1) := by decide +kernel
theorem dX9_isWatched_2 : decode cX9_isWatched 2 = .ok (.iconst 0, 1) := by decide +kernel
theorem dX9_isWatched_3 : decode cX9_isWatched 3 = .ok (.istore_n 3, 1) := by decide +kernel
theorem dX9_isWatched_4 : decode cX9_isWatched 4 = .ok (.iload_n 3, 1) := by decide +kernel
theorem dX9_isWatched_5 : decode cX9_isWatched 5 = .ok (.aload_n 0, 1) := by decide +kernel
theorem dX9_isWatched_6 : decode cX9_isWatched 6 = .ok (.getfield 140, 3) := by decide +kernel
theorem dX9_isWatched_9 : decode cX9_isWatched 9 = .ok (.if_icmp .ge 58, 3) := by decide +kernel
theorem dX9_isWatched_12 : decode cX9_isWatched 12 = .ok (.iload_n 2, 1) := by decide +kernel
theorem dX9_isWatched_13 : decode cX9_isWatched 13 = .ok (.ifCond .ne 42, 3) := by decide +kernel
theorem dX9_isWatched_16 : decode cX9_isWatched 16 = .ok (.aload_n 0, 1) := by decide +kernel
theorem dX9_isWatched_17 : decode cX9_isWatched 17 = .ok (.iload_n 3, 1) := by decide +kernel
theorem dX9_isWatched_18 : decode cX9_isWatched 18 = .ok (.iconst 5, 1) := by decide +kernel
theorem dX9_isWatched_19 : decode cX9_isWatched 19 = .ok (.iload_n 1, 1) := by decide +kernel
theorem dX9_isWatched_20 : decode cX9_isWatched 20 = .ok (.invokevirtual 268, 3) := by decide +kernel
theorem dX9_isWatched_23 : decode cX9_isWatched 23 = .ok (.ifCond .eq 36, 3) := by decide +kernel
theorem dX9_isWatched_26 : decode cX9_isWatched 26 = .ok (.aload_n 0, 1) := by decide +kernel
theorem dX9_isWatched_27 : decode cX9_isWatched 27 = .ok (.getfield 74, 3) := by decide +kernel
theorem dX9_isWatched_30 : decode cX9_isWatched 30 = .ok (.iload_n 1, 1) := by decide +kernel
theorem dX9_isWatched_31 : decode cX9_isWatched 31 = .ok (.iaload, 1) := by decide +kernel
theorem dX9_isWatched_32 : decode cX9_isWatched 32 = .ok (.ifCond .lt 27, 3) := by decide +kernel
theorem dX9_isWatched_35 : decode cX9_isWatched 35 = .ok (.aload_n 0, 1) := by decide +kernel
theorem dX9_isWatched_36 : decode cX9_isWatched 36 = .ok (.getfield 119, 3) := by decide +kernel
theorem dX9_isWatched_39 : decode cX9_isWatched 39 = .ok (.aload_n 0, 1) := by decide +kernel
theorem dX9_isWatched_40 : decode cX9_isWatched 40 = .ok (.getfield 74, 3) := by decide +kernel
theorem dX9_isWatched_43 : decode cX9_isWatched 43 = .ok (.iload_n 1, 1) := by decide +kernel
theorem dX9_isWatched_44 : decode cX9_isWatched 44 = .ok (.iaload, 1) := by decide +kernel
theorem dX9_isWatched_45 : decode cX9_isWatched 45 = .ok (.isub, 1) := by decide +kernel
theorem dX9_isWatched_46 : decode cX9_isWatched 46 = .ok (.aload_n 0, 1) := by decide +kernel
theorem dX9_isWatched_47 : decode cX9_isWatched 47 = .ok (.getfield 35, 3) := by decide +kernel
theorem dX9_isWatched_50 : decode cX9_isWatched 50 = .ok (.iload_n 3, 1) := by decide +kernel
theorem dX9_isWatched_51 : decode cX9_isWatched 51 = .ok (.iaload, 1) := by decide +kernel
theorem dX9_isWatched_52 : decode cX9_isWatched 52 = .ok (.if_icmp .ge 7, 3) := by decide +kernel
theorem dX9_isWatched_55 : decode cX9_isWatched 55 = .ok (.iconst 1, 1) := by decide +kernel
theorem dX9_isWatched_56 : decode cX9_isWatched 56 = .ok (.goto 4, 3) := by decide +kernel
theorem dX9_isWatched_59 : decode cX9_isWatched 59 = .ok (.iconst 0, 1) := by decide +kernel
theorem dX9_isWatched_60 : decode cX9_isWatched 60 = .ok (.istore_n 2, 1) := by decide +kernel
theorem dX9_isWatched_61 : decode cX9_isWatched 61 = .ok (.iinc 3 1, 3) := by decide +kernel
theorem dX9_isWatched_64 : decode cX9_isWatched 64 = .ok (.goto (-60), 3) := by decide +kernel
theorem dX9_isWatched_67 : decode cX9_isWatched 67 = .ok (.iload_n 2, 1) := by decide +kernel
theorem dX9_isWatched_68 : decode cX9_isWatched 68 = .ok (.ireturn, 1) := by decide +kernel
theorem dX9_mayBegin_0 : decode cX9_mayBegin 0 = .ok (.aload_n 0, 1) := by decide +kernel
theorem dX9_mayBegin_1 : decode cX9_mayBegin 1 = .ok (.getfield 62, 3) := by decide +kernel
theorem dX9_mayBegin_4 : decode cX9_mayBegin 4 = .ok (.iload_n 1, 1) := by decide +kernel
theorem dX9_mayBegin_5 : decode cX9_mayBegin 5 = .ok (.iaload, 1) := by decide +kernel
theorem dX9_mayBegin_6 : decode cX9_mayBegin 6 = .ok (.iconst 1, 1) := by decide +kernel
theorem dX9_mayBegin_7 : decode cX9_mayBegin 7 = .ok (.if_icmp .eq 23, 3) := by decide +kernel
theorem dX9_mayBegin_10 : decode cX9_mayBegin 10 = .ok (.aload_n 0, 1) := by decide +kernel
theorem dX9_mayBegin_11 : decode cX9_mayBegin 11 = .ok (.getfield 62, 3) := by decide +kernel
theorem dX9_mayBegin_14 : decode cX9_mayBegin 14 = .ok (.iload_n 1, 1) := by decide +kernel
theorem dX9_mayBegin_15 : decode cX9_mayBegin 15 = .ok (.iaload, 1) := by decide +kernel
theorem dX9_mayBegin_16 : decode cX9_mayBegin 16 = .ok (.iconst 2, 1) := by decide +kernel
theorem dX9_mayBegin_17 : decode cX9_mayBegin 17 = .ok (.if_icmp .eq 13, 3) := by decide +kernel
theorem dX9_mayBegin_20 : decode cX9_mayBegin 20 = .ok (.aload_n 0, 1) := by decide +kernel
theorem dX9_mayBegin_21 : decode cX9_mayBegin 21 = .ok (.getfield 62, 3) := by decide +kernel
theorem dX9_mayBegin_24 : decode cX9_mayBegin 24 = .ok (.iload_n 1, 1) := by decide +kernel
theorem dX9_mayBegin_25 : decode cX9_mayBegin 25 = .ok (.iaload, 1) := by decide +kernel
theorem dX9_mayBegin_26 : decode cX9_mayBegin 26 = .ok (.iconst 4, 1) := by decide +kernel
theorem dX9_mayBegin_27 : decode cX9_mayBegin 27 = .ok (.if_icmp .ne 7, 3) := by decide +kernel
theorem dX9_mayBegin_30 : decode cX9_mayBegin 30 = .ok (.iconst 1, 1) := by decide +kernel
theorem dX9_mayBegin_31 : decode cX9_mayBegin 31 = .ok (.goto 4, 3) := by decide +kernel
theorem dX9_mayBegin_34 : decode cX9_mayBegin 34 = .ok (.iconst 0, 1) := by decide +kernel
theorem dX9_mayBegin_35 : decode cX9_mayBegin 35 = .ok (.ireturn, 1) := by decide +kernel
theorem dX9_isOutOfState_0 : decode cX9_isOutOfState 0 = .ok (.iload_n 2, 1) := by decide +kernel
theorem dX9_isOutOfState_1 : decode cX9_isOutOfState 1 = .ok (.tableswitch 78 0 4 #[35, 50, 64, 78, 64], 35) := by decide +kernel
theorem dX9_isOutOfState_36 : decode cX9_isOutOfState 36 = .ok (.aload_n 0, 1) := by decide +kernel
theorem dX9_isOutOfState_37 : decode cX9_isOutOfState 37 = .ok (.getfield 62, 3) := by decide +kernel
theorem dX9_isOutOfState_40 : decode cX9_isOutOfState 40 = .ok (.iload_n 1, 1) := by decide +kernel
theorem dX9_isOutOfState_41 : decode cX9_isOutOfState 41 = .ok (.iaload, 1) := by decide +kernel
theorem dX9_isOutOfState_42 : decode cX9_isOutOfState 42 = .ok (.ifCond .eq 7, 3) := by decide +kernel
theorem dX9_isOutOfState_45 : decode cX9_isOutOfState 45 = .ok (.iconst 1, 1) := by decide +kernel
theorem dX9_isOutOfState_46 : decode cX9_isOutOfState 46 = .ok (.goto 4, 3) := by decide +kernel
theorem dX9_isOutOfState_49 : decode cX9_isOutOfState 49 = .ok (.iconst 0, 1) := by decide +kernel
theorem dX9_isOutOfState_50 : decode cX9_isOutOfState 50 = .ok (.ireturn, 1) := by decide +kernel
theorem dX9_isOutOfState_51 : decode cX9_isOutOfState 51 = .ok (.aload_n 0, 1) := by decide +kernel
theorem dX9_isOutOfState_52 : decode cX9_isOutOfState 52 = .ok (.iload_n 1, 1) := by decide +kernel
theorem dX9_isOutOfState_53 : decode cX9_isOutOfState 53 = .ok (.invokevirtual 122, 3) := by decide +kernel
theorem dX9_isOutOfState_56 : decode cX9_isOutOfState 56 = .ok (.ifCond .ne 7, 3) := by decide +kernel
theorem dX9_isOutOfState_59 : decode cX9_isOutOfState 59 = .ok (.iconst 1, 1) := by decide +kernel
theorem dX9_isOutOfState_60 : decode cX9_isOutOfState 60 = .ok (.goto 4, 3) := by decide +kernel
theorem dX9_isOutOfState_63 : decode cX9_isOutOfState 63 = .ok (.iconst 0, 1) := by decide +kernel
theorem dX9_isOutOfState_64 : decode cX9_isOutOfState 64 = .ok (.ireturn, 1) := by decide +kernel
theorem dX9_isOutOfState_65 : decode cX9_isOutOfState 65 = .ok (.aload_n 0, 1) := by decide +kernel
theorem dX9_isOutOfState_66 : decode cX9_isOutOfState 66 = .ok (.iload_n 1, 1) := by decide +kernel
theorem dX9_isOutOfState_67 : decode cX9_isOutOfState 67 = .ok (.invokevirtual 276, 3) := by decide +kernel
theorem dX9_isOutOfState_70 : decode cX9_isOutOfState 70 = .ok (.ifCond .ne 7, 3) := by decide +kernel
theorem dX9_isOutOfState_73 : decode cX9_isOutOfState 73 = .ok (.iconst 1, 1) := by decide +kernel
theorem dX9_isOutOfState_74 : decode cX9_isOutOfState 74 = .ok (.goto 4, 3) := by decide +kernel
theorem dX9_isOutOfState_77 : decode cX9_isOutOfState 77 = .ok (.iconst 0, 1) := by decide +kernel
theorem dX9_isOutOfState_78 : decode cX9_isOutOfState 78 = .ok (.ireturn, 1) := by decide +kernel
theorem dX9_isOutOfState_79 : decode cX9_isOutOfState 79 = .ok (.aload_n 0, 1) := by decide +kernel
theorem dX9_isOutOfState_80 : decode cX9_isOutOfState 80 = .ok (.getfield 62, 3) := by decide +kernel
theorem dX9_isOutOfState_83 : decode cX9_isOutOfState 83 = .ok (.iload_n 1, 1) := by decide +kernel
theorem dX9_isOutOfState_84 : decode cX9_isOutOfState 84 = .ok (.iaload, 1) := by decide +kernel
theorem dX9_isOutOfState_85 : decode cX9_isOutOfState 85 = .ok (.iconst 3, 1) := by decide +kernel
theorem dX9_isOutOfState_86 : decode cX9_isOutOfState 86 = .ok (.if_icmp .eq 7, 3) := by decide +kernel
theorem dX9_isOutOfState_89 : decode cX9_isOutOfState 89 = .ok (.iconst 1, 1) := by decide +kernel
theorem dX9_isOutOfState_90 : decode cX9_isOutOfState 90 = .ok (.goto 4, 3) := by decide +kernel
theorem dX9_isOutOfState_93 : decode cX9_isOutOfState 93 = .ok (.iconst 0, 1) := by decide +kernel
theorem dX9_isOutOfState_94 : decode cX9_isOutOfState 94 = .ok (.ireturn, 1) := by decide +kernel
theorem dX9_startBar_0 : decode cX9_startBar 0 = .ok (.aload_n 0, 1) := by decide +kernel
theorem dX9_startBar_1 : decode cX9_startBar 1 = .ok (.aload_n 0, 1) := by decide +kernel
theorem dX9_startBar_2 : decode cX9_startBar 2 = .ok (.getfield 53, 3) := by decide +kernel
theorem dX9_startBar_5 : decode cX9_startBar 5 = .ok (.iload_n 1, 1) := by decide +kernel
theorem dX9_startBar_6 : decode cX9_startBar 6 = .ok (.iaload, 1) := by decide +kernel
theorem dX9_startBar_7 : decode cX9_startBar 7 = .ok (.aload_n 0, 1) := by decide +kernel
theorem dX9_startBar_8 : decode cX9_startBar 8 = .ok (.invokevirtual 133, 3) := by decide +kernel
theorem dX9_startBar_11 : decode cX9_startBar 11 = .ok (.invokevirtual 158, 3) := by decide +kernel
theorem dX9_startBar_14 : decode cX9_startBar 14 = .ok (.ifCond .ne 5, 3) := by decide +kernel
theorem dX9_startBar_17 : decode cX9_startBar 17 = .ok (.iconst 2, 1) := by decide +kernel
theorem dX9_startBar_18 : decode cX9_startBar 18 = .ok (.ireturn, 1) := by decide +kernel
theorem dX9_startBar_19 : decode cX9_startBar 19 = .ok (.aload_n 0, 1) := by decide +kernel
theorem dX9_startBar_20 : decode cX9_startBar 20 = .ok (.iload_n 1, 1) := by decide +kernel
theorem dX9_startBar_21 : decode cX9_startBar 21 = .ok (.invokevirtual 279, 3) := by decide +kernel
theorem dX9_startBar_24 : decode cX9_startBar 24 = .ok (.ifCond .eq 5, 3) := by decide +kernel
theorem dX9_startBar_27 : decode cX9_startBar 27 = .ok (.iconst 3, 1) := by decide +kernel
theorem dX9_startBar_28 : decode cX9_startBar 28 = .ok (.ireturn, 1) := by decide +kernel
theorem dX9_startBar_29 : decode cX9_startBar 29 = .ok (.aload_n 0, 1) := by decide +kernel
theorem dX9_startBar_30 : decode cX9_startBar 30 = .ok (.iload_n 1, 1) := by decide +kernel
theorem dX9_startBar_31 : decode cX9_startBar 31 = .ok (.invokevirtual 282, 3) := by decide +kernel
theorem dX9_startBar_34 : decode cX9_startBar 34 = .ok (.ifCond .lt 5, 3) := by decide +kernel
theorem dX9_startBar_37 : decode cX9_startBar 37 = .ok (.iconst 4, 1) := by decide +kernel
theorem dX9_startBar_38 : decode cX9_startBar 38 = .ok (.ireturn, 1) := by decide +kernel
theorem dX9_startBar_39 : decode cX9_startBar 39 = .ok (.aload_n 0, 1) := by decide +kernel
theorem dX9_startBar_40 : decode cX9_startBar 40 = .ok (.iload_n 1, 1) := by decide +kernel
theorem dX9_startBar_41 : decode cX9_startBar 41 = .ok (.invokevirtual 285, 3) := by decide +kernel
theorem dX9_startBar_44 : decode cX9_startBar 44 = .ok (.ifCond .eq 5, 3) := by decide +kernel
theorem dX9_startBar_47 : decode cX9_startBar 47 = .ok (.iconst 5, 1) := by decide +kernel
theorem dX9_startBar_48 : decode cX9_startBar 48 = .ok (.ireturn, 1) := by decide +kernel
theorem dX9_startBar_49 : decode cX9_startBar 49 = .ok (.aload_n 0, 1) := by decide +kernel
theorem dX9_startBar_50 : decode cX9_startBar 50 = .ok (.getfield 65, 3) := by decide +kernel
theorem dX9_startBar_53 : decode cX9_startBar 53 = .ok (.iload_n 1, 1) := by decide +kernel
theorem dX9_startBar_54 : decode cX9_startBar 54 = .ok (.iaload, 1) := by decide +kernel
theorem dX9_startBar_55 : decode cX9_startBar 55 = .ok (.ifCond .lt 17, 3) := by decide +kernel
theorem dX9_startBar_58 : decode cX9_startBar 58 = .ok (.aload_n 0, 1) := by decide +kernel
theorem dX9_startBar_59 : decode cX9_startBar 59 = .ok (.getfield 47, 3) := by decide +kernel
theorem dX9_startBar_62 : decode cX9_startBar 62 = .ok (.aload_n 0, 1) := by decide +kernel
theorem dX9_startBar_63 : decode cX9_startBar 63 = .ok (.getfield 65, 3) := by decide +kernel
theorem dX9_startBar_66 : decode cX9_startBar 66 = .ok (.iload_n 1, 1) := by decide +kernel
theorem dX9_startBar_67 : decode cX9_startBar 67 = .ok (.iaload, 1) := by decide +kernel
theorem dX9_startBar_68 : decode cX9_startBar 68 = .ok (.baload, 1) := by decide +kernel
theorem dX9_startBar_69 : decode cX9_startBar 69 = .ok (.ifCond .eq 8, 3) := by decide +kernel
theorem dX9_startBar_72 : decode cX9_startBar 72 = .ok (.bipush 6, 2) := by decide +kernel
theorem dX9_startBar_74 : decode cX9_startBar 74 = .ok (.goto 4, 3) := by decide +kernel
theorem dX9_startBar_77 : decode cX9_startBar 77 = .ok (.iconst 0, 1) := by decide +kernel
theorem dX9_startBar_78 : decode cX9_startBar 78 = .ok (.ireturn, 1) := by decide +kernel
theorem dX9_bar_0 : decode cX9_bar 0 = .ok (.aload_n 0, 1) := by decide +kernel
theorem dX9_bar_1 : decode cX9_bar 1 = .ok (.iload_n 1, 1) := by decide +kernel
theorem dX9_bar_2 : decode cX9_bar 2 = .ok (.iload_n 2, 1) := by decide +kernel
theorem dX9_bar_3 : decode cX9_bar 3 = .ok (.invokevirtual 288, 3) := by decide +kernel
theorem dX9_bar_6 : decode cX9_bar 6 = .ok (.ifCond .eq 5, 3) := by decide +kernel
theorem dX9_bar_9 : decode cX9_bar 9 = .ok (.iconst 1, 1) := by decide +kernel
theorem dX9_bar_10 : decode cX9_bar 10 = .ok (.ireturn, 1) := by decide +kernel
theorem dX9_bar_11 : decode cX9_bar 11 = .ok (.iload_n 2, 1) := by decide +kernel
theorem dX9_bar_12 : decode cX9_bar 12 = .ok (.tableswitch 120 2 5 #[32, 38, 53, 81], 32) := by decide +kernel
theorem dX9_bar_44 : decode cX9_bar 44 = .ok (.aload_n 0, 1) := by decide +kernel
theorem dX9_bar_45 : decode cX9_bar 45 = .ok (.iload_n 1, 1) := by decide +kernel
theorem dX9_bar_46 : decode cX9_bar 46 = .ok (.invokevirtual 291, 3) := by decide +kernel
theorem dX9_bar_49 : decode cX9_bar 49 = .ok (.ireturn, 1) := by decide +kernel
theorem dX9_bar_50 : decode cX9_bar 50 = .ok (.aload_n 0, 1) := by decide +kernel
theorem dX9_bar_51 : decode cX9_bar 51 = .ok (.iload_n 1, 1) := by decide +kernel
theorem dX9_bar_52 : decode cX9_bar 52 = .ok (.invokevirtual 273, 3) := by decide +kernel
theorem dX9_bar_55 : decode cX9_bar 55 = .ok (.ifCond .le 8, 3) := by decide +kernel
theorem dX9_bar_58 : decode cX9_bar 58 = .ok (.bipush 7, 2) := by decide +kernel
theorem dX9_bar_60 : decode cX9_bar 60 = .ok (.goto 4, 3) := by decide +kernel
theorem dX9_bar_63 : decode cX9_bar 63 = .ok (.iconst 0, 1) := by decide +kernel
theorem dX9_bar_64 : decode cX9_bar 64 = .ok (.ireturn, 1) := by decide +kernel
theorem dX9_bar_65 : decode cX9_bar 65 = .ok (.aload_n 0, 1) := by decide +kernel
theorem dX9_bar_66 : decode cX9_bar 66 = .ok (.iload_n 1, 1) := by decide +kernel
theorem dX9_bar_67 : decode cX9_bar 67 = .ok (.invokevirtual 273, 3) := by decide +kernel
theorem dX9_bar_70 : decode cX9_bar 70 = .ok (.ifCond .le 8, 3) := by decide +kernel
theorem dX9_bar_73 : decode cX9_bar 73 = .ok (.bipush 7, 2) := by decide +kernel
theorem dX9_bar_75 : decode cX9_bar 75 = .ok (.goto 17, 3) := by decide +kernel
theorem dX9_bar_78 : decode cX9_bar 78 = .ok (.aload_n 0, 1) := by decide +kernel
theorem dX9_bar_79 : decode cX9_bar 79 = .ok (.iload_n 1, 1) := by decide +kernel
theorem dX9_bar_80 : decode cX9_bar 80 = .ok (.invokevirtual 294, 3) := by decide +kernel
theorem dX9_bar_83 : decode cX9_bar 83 = .ok (.ifCond .eq 8, 3) := by decide +kernel
theorem dX9_bar_86 : decode cX9_bar 86 = .ok (.bipush 8, 2) := by decide +kernel
theorem dX9_bar_88 : decode cX9_bar 88 = .ok (.goto 4, 3) := by decide +kernel
theorem dX9_bar_91 : decode cX9_bar 91 = .ok (.iconst 0, 1) := by decide +kernel
theorem dX9_bar_92 : decode cX9_bar 92 = .ok (.ireturn, 1) := by decide +kernel
theorem dX9_bar_93 : decode cX9_bar 93 = .ok (.aload_n 0, 1) := by decide +kernel
theorem dX9_bar_94 : decode cX9_bar 94 = .ok (.iload_n 1, 1) := by decide +kernel
theorem dX9_bar_95 : decode cX9_bar 95 = .ok (.invokevirtual 279, 3) := by decide +kernel
theorem dX9_bar_98 : decode cX9_bar 98 = .ok (.ifCond .eq 7, 3) := by decide +kernel
theorem dX9_bar_101 : decode cX9_bar 101 = .ok (.iconst 3, 1) := by decide +kernel
theorem dX9_bar_102 : decode cX9_bar 102 = .ok (.goto 29, 3) := by decide +kernel
theorem dX9_bar_105 : decode cX9_bar 105 = .ok (.aload_n 0, 1) := by decide +kernel
theorem dX9_bar_106 : decode cX9_bar 106 = .ok (.iload_n 1, 1) := by decide +kernel
theorem dX9_bar_107 : decode cX9_bar 107 = .ok (.invokevirtual 285, 3) := by decide +kernel
theorem dX9_bar_110 : decode cX9_bar 110 = .ok (.ifCond .eq 7, 3) := by decide +kernel
theorem dX9_bar_113 : decode cX9_bar 113 = .ok (.iconst 5, 1) := by decide +kernel
theorem dX9_bar_114 : decode cX9_bar 114 = .ok (.goto 17, 3) := by decide +kernel
theorem dX9_bar_117 : decode cX9_bar 117 = .ok (.aload_n 0, 1) := by decide +kernel
theorem dX9_bar_118 : decode cX9_bar 118 = .ok (.iload_n 1, 1) := by decide +kernel
theorem dX9_bar_119 : decode cX9_bar 119 = .ok (.invokevirtual 297, 3) := by decide +kernel
theorem dX9_bar_122 : decode cX9_bar 122 = .ok (.ifCond .eq 8, 3) := by decide +kernel
theorem dX9_bar_125 : decode cX9_bar 125 = .ok (.bipush 7, 2) := by decide +kernel
theorem dX9_bar_127 : decode cX9_bar 127 = .ok (.goto 4, 3) := by decide +kernel
theorem dX9_bar_130 : decode cX9_bar 130 = .ok (.iconst 0, 1) := by decide +kernel
theorem dX9_bar_131 : decode cX9_bar 131 = .ok (.ireturn, 1) := by decide +kernel
theorem dX9_bar_132 : decode cX9_bar 132 = .ok (.iconst 0, 1) := by decide +kernel
theorem dX9_bar_133 : decode cX9_bar 133 = .ok (.ireturn, 1) := by decide +kernel
theorem dX9_isolate_0 : decode cX9_isolate 0 = .ok (.aload_n 0, 1) := by decide +kernel
theorem dX9_isolate_1 : decode cX9_isolate 1 = .ok (.iload_n 1, 1) := by decide +kernel
theorem dX9_isolate_2 : decode cX9_isolate 2 = .ok (.invokevirtual 262, 3) := by decide +kernel
theorem dX9_isolate_5 : decode cX9_isolate 5 = .ok (.ifCond .ne 5, 3) := by decide +kernel
theorem dX9_isolate_8 : decode cX9_isolate 8 = .ok (.iconst (-1), 1) := by decide +kernel
theorem dX9_isolate_9 : decode cX9_isolate 9 = .ok (.ireturn, 1) := by decide +kernel
theorem dX9_isolate_10 : decode cX9_isolate 10 = .ok (.aload_n 0, 1) := by decide +kernel
theorem dX9_isolate_11 : decode cX9_isolate 11 = .ok (.iload_n 1, 1) := by decide +kernel
theorem dX9_isolate_12 : decode cX9_isolate 12 = .ok (.iconst 0, 1) := by decide +kernel
theorem dX9_isolate_13 : decode cX9_isolate 13 = .ok (.invokevirtual 300, 3) := by decide +kernel
theorem dX9_isolate_16 : decode cX9_isolate 16 = .ok (.ifCond .le 13, 3) := by decide +kernel
theorem dX9_isolate_19 : decode cX9_isolate 19 = .ok (.bipush (-10), 2) := by decide +kernel
theorem dX9_isolate_21 : decode cX9_isolate 21 = .ok (.aload_n 0, 1) := by decide +kernel
theorem dX9_isolate_22 : decode cX9_isolate 22 = .ok (.iload_n 1, 1) := by decide +kernel
theorem dX9_isolate_23 : decode cX9_isolate 23 = .ok (.iconst 0, 1) := by decide +kernel
theorem dX9_isolate_24 : decode cX9_isolate 24 = .ok (.invokevirtual 300, 3) := by decide +kernel
theorem dX9_isolate_27 : decode cX9_isolate 27 = .ok (.isub, 1) := by decide +kernel
theorem dX9_isolate_28 : decode cX9_isolate 28 = .ok (.ireturn, 1) := by decide +kernel
theorem dX9_isolate_29 : decode cX9_isolate 29 = .ok (.aload_n 0, 1) := by decide +kernel
theorem dX9_isolate_30 : decode cX9_isolate 30 = .ok (.invokevirtual 133, 3) := by decide +kernel
theorem dX9_isolate_33 : decode cX9_isolate 33 = .ok (.istore_n 2, 1) := by decide +kernel
theorem dX9_isolate_34 : decode cX9_isolate 34 = .ok (.aload_n 0, 1) := by decide +kernel
theorem dX9_isolate_35 : decode cX9_isolate 35 = .ok (.getfield 62, 3) := by decide +kernel
theorem dX9_isolate_38 : decode cX9_isolate 38 = .ok (.iload_n 1, 1) := by decide +kernel
theorem dX9_isolate_39 : decode cX9_isolate 39 = .ok (.iconst 1, 1) := by decide +kernel
theorem dX9_isolate_40 : decode cX9_isolate 40 = .ok (.iastore, 1) := by decide +kernel
theorem dX9_isolate_41 : decode cX9_isolate 41 = .ok (.aload_n 0, 1) := by decide +kernel
theorem dX9_isolate_42 : decode cX9_isolate 42 = .ok (.invokevirtual 133, 3) := by decide +kernel
theorem dX9_isolate_45 : decode cX9_isolate 45 = .ok (.invokestatic 303, 3) := by decide +kernel
theorem dX9_isolate_48 : decode cX9_isolate 48 = .ok (.iload_n 2, 1) := by decide +kernel
theorem dX9_isolate_49 : decode cX9_isolate 49 = .ok (.invokestatic 303, 3) := by decide +kernel
theorem dX9_isolate_52 : decode cX9_isolate 52 = .ok (.isub, 1) := by decide +kernel
theorem dX9_isolate_53 : decode cX9_isolate 53 = .ok (.ireturn, 1) := by decide +kernel
theorem dX9_test_0 : decode cX9_test 0 = .ok (.aload_n 0, 1) := by decide +kernel
theorem dX9_test_1 : decode cX9_test 1 = .ok (.iload_n 1, 1) := by decide +kernel
theorem dX9_test_2 : decode cX9_test 2 = .ok (.invokevirtual 262, 3) := by decide +kernel
theorem dX9_test_5 : decode cX9_test 5 = .ok (.ifCond .eq 13, 3) := by decide +kernel
theorem dX9_test_8 : decode cX9_test 8 = .ok (.iload_n 2, 1) := by decide +kernel
theorem dX9_test_9 : decode cX9_test 9 = .ok (.iconst 0, 1) := by decide +kernel
theorem dX9_test_10 : decode cX9_test 10 = .ok (.bipush 100, 2) := by decide +kernel
theorem dX9_test_12 : decode cX9_test 12 = .ok (.invokestatic 105, 3) := by decide +kernel
theorem dX9_test_15 : decode cX9_test 15 = .ok (.ifCond .ne 5, 3) := by decide +kernel
theorem dX9_test_18 : decode cX9_test 18 = .ok (.iconst (-1), 1) := by decide +kernel
theorem dX9_test_19 : decode cX9_test 19 = .ok (.ireturn, 1) := by decide +kernel
theorem dX9_test_20 : decode cX9_test 20 = .ok (.aload_n 0, 1) := by decide +kernel
theorem dX9_test_21 : decode cX9_test 21 = .ok (.iload_n 1, 1) := by decide +kernel
theorem dX9_test_22 : decode cX9_test 22 = .ok (.iconst 1, 1) := by decide +kernel
theorem dX9_test_23 : decode cX9_test 23 = .ok (.invokevirtual 300, 3) := by decide +kernel
theorem dX9_test_26 : decode cX9_test 26 = .ok (.ifCond .le 13, 3) := by decide +kernel
theorem dX9_test_29 : decode cX9_test 29 = .ok (.bipush (-10), 2) := by decide +kernel
theorem dX9_test_31 : decode cX9_test 31 = .ok (.aload_n 0, 1) := by decide +kernel
theorem dX9_test_32 : decode cX9_test 32 = .ok (.iload_n 1, 1) := by decide +kernel
theorem dX9_test_33 : decode cX9_test 33 = .ok (.iconst 1, 1) := by decide +kernel
theorem dX9_test_34 : decode cX9_test 34 = .ok (.invokevirtual 300, 3) := by decide +kernel
theorem dX9_test_37 : decode cX9_test 37 = .ok (.isub, 1) := by decide +kernel
theorem dX9_test_38 : decode cX9_test 38 = .ok (.ireturn, 1) := by decide +kernel
theorem dX9_test_39 : decode cX9_test 39 = .ok (.aload_n 0, 1) := by decide +kernel
theorem dX9_test_40 : decode cX9_test 40 = .ok (.getfield 68, 3) := by decide +kernel
theorem dX9_test_43 : decode cX9_test 43 = .ok (.iload_n 1, 1) := by decide +kernel
theorem dX9_test_44 : decode cX9_test 44 = .ok (.iload_n 2, 1) := by decide +kernel
theorem dX9_test_45 : decode cX9_test 45 = .ok (.iastore, 1) := by decide +kernel
theorem dX9_test_46 : decode cX9_test 46 = .ok (.aload_n 0, 1) := by decide +kernel
theorem dX9_test_47 : decode cX9_test 47 = .ok (.getfield 71, 3) := by decide +kernel
theorem dX9_test_50 : decode cX9_test 50 = .ok (.iload_n 1, 1) := by decide +kernel
theorem dX9_test_51 : decode cX9_test 51 = .ok (.aload_n 0, 1) := by decide +kernel
theorem dX9_test_52 : decode cX9_test 52 = .ok (.getfield 119, 3) := by decide +kernel
theorem dX9_test_55 : decode cX9_test 55 = .ok (.iastore, 1) := by decide +kernel
theorem dX9_test_56 : decode cX9_test 56 = .ok (.aload_n 0, 1) := by decide +kernel
theorem dX9_test_57 : decode cX9_test 57 = .ok (.getfield 62, 3) := by decide +kernel
theorem dX9_test_60 : decode cX9_test 60 = .ok (.iload_n 1, 1) := by decide +kernel
theorem dX9_test_61 : decode cX9_test 61 = .ok (.aload_n 0, 1) := by decide +kernel
theorem dX9_test_62 : decode cX9_test 62 = .ok (.getfield 62, 3) := by decide +kernel
theorem dX9_test_65 : decode cX9_test 65 = .ok (.iload_n 1, 1) := by decide +kernel
theorem dX9_test_66 : decode cX9_test 66 = .ok (.iaload, 1) := by decide +kernel
theorem dX9_test_67 : decode cX9_test 67 = .ok (.iconst 1, 1) := by decide +kernel
theorem dX9_test_68 : decode cX9_test 68 = .ok (.if_icmp .ne 7, 3) := by decide +kernel
theorem dX9_test_71 : decode cX9_test 71 = .ok (.iconst 2, 1) := by decide +kernel
theorem dX9_test_72 : decode cX9_test 72 = .ok (.goto 9, 3) := by decide +kernel
theorem dX9_test_75 : decode cX9_test 75 = .ok (.aload_n 0, 1) := by decide +kernel
theorem dX9_test_76 : decode cX9_test 76 = .ok (.getfield 62, 3) := by decide +kernel
theorem dX9_test_79 : decode cX9_test 79 = .ok (.iload_n 1, 1) := by decide +kernel
theorem dX9_test_80 : decode cX9_test 80 = .ok (.iaload, 1) := by decide +kernel
theorem dX9_test_81 : decode cX9_test 81 = .ok (.iastore, 1) := by decide +kernel
theorem dX9_test_82 : decode cX9_test 82 = .ok (.iload_n 2, 1) := by decide +kernel
theorem dX9_test_83 : decode cX9_test 83 = .ok (.bipush 10, 2) := by decide +kernel
theorem dX9_test_85 : decode cX9_test 85 = .ok (.if_icmp .gt 7, 3) := by decide +kernel
theorem dX9_test_88 : decode cX9_test 88 = .ok (.iconst 1, 1) := by decide +kernel
theorem dX9_test_89 : decode cX9_test 89 = .ok (.goto 4, 3) := by decide +kernel
theorem dX9_test_92 : decode cX9_test 92 = .ok (.iconst 0, 1) := by decide +kernel
theorem dX9_test_93 : decode cX9_test 93 = .ok (.ireturn, 1) := by decide +kernel
theorem dX9_start_0 : decode cX9_start 0 = .ok (.aload_n 0, 1) := by decide +kernel
theorem dX9_start_1 : decode cX9_start 1 = .ok (.iload_n 1, 1) := by decide +kernel
theorem dX9_start_2 : decode cX9_start 2 = .ok (.invokevirtual 262, 3) := by decide +kernel
theorem dX9_start_5 : decode cX9_start 5 = .ok (.ifCond .ne 5, 3) := by decide +kernel
theorem dX9_start_8 : decode cX9_start 8 = .ok (.iconst (-1), 1) := by decide +kernel
theorem dX9_start_9 : decode cX9_start 9 = .ok (.ireturn, 1) := by decide +kernel
theorem dX9_start_10 : decode cX9_start 10 = .ok (.aload_n 0, 1) := by decide +kernel
theorem dX9_start_11 : decode cX9_start 11 = .ok (.iload_n 1, 1) := by decide +kernel
theorem dX9_start_12 : decode cX9_start 12 = .ok (.iconst 2, 1) := by decide +kernel
theorem dX9_start_13 : decode cX9_start 13 = .ok (.invokevirtual 300, 3) := by decide +kernel
theorem dX9_start_16 : decode cX9_start 16 = .ok (.istore_n 2, 1) := by decide +kernel
theorem dX9_start_17 : decode cX9_start 17 = .ok (.iload_n 2, 1) := by decide +kernel
theorem dX9_start_18 : decode cX9_start 18 = .ok (.ifCond .le 8, 3) := by decide +kernel
theorem dX9_start_21 : decode cX9_start 21 = .ok (.bipush (-10), 2) := by decide +kernel
theorem dX9_start_23 : decode cX9_start 23 = .ok (.iload_n 2, 1) := by decide +kernel
theorem dX9_start_24 : decode cX9_start 24 = .ok (.isub, 1) := by decide +kernel
theorem dX9_start_25 : decode cX9_start 25 = .ok (.ireturn, 1) := by decide +kernel
theorem dX9_start_26 : decode cX9_start 26 = .ok (.aload_n 0, 1) := by decide +kernel
theorem dX9_start_27 : decode cX9_start 27 = .ok (.getfield 62, 3) := by decide +kernel
theorem dX9_start_30 : decode cX9_start 30 = .ok (.iload_n 1, 1) := by decide +kernel
theorem dX9_start_31 : decode cX9_start 31 = .ok (.iconst 3, 1) := by decide +kernel
theorem dX9_start_32 : decode cX9_start 32 = .ok (.iastore, 1) := by decide +kernel
theorem dX9_start_33 : decode cX9_start 33 = .ok (.iconst 1, 1) := by decide +kernel
theorem dX9_start_34 : decode cX9_start 34 = .ok (.ireturn, 1) := by decide +kernel
theorem dX9_hangUp_0 : decode cX9_hangUp 0 = .ok (.aload_n 0, 1) := by decide +kernel
theorem dX9_hangUp_1 : decode cX9_hangUp 1 = .ok (.getfield 62, 3) := by decide +kernel
theorem dX9_hangUp_4 : decode cX9_hangUp 4 = .ok (.iload_n 1, 1) := by decide +kernel
theorem dX9_hangUp_5 : decode cX9_hangUp 5 = .ok (.iconst 4, 1) := by decide +kernel
theorem dX9_hangUp_6 : decode cX9_hangUp 6 = .ok (.iastore, 1) := by decide +kernel
theorem dX9_hangUp_7 : decode cX9_hangUp 7 = .ok (.aload_n 0, 1) := by decide +kernel
theorem dX9_hangUp_8 : decode cX9_hangUp 8 = .ok (.getfield 74, 3) := by decide +kernel
theorem dX9_hangUp_11 : decode cX9_hangUp 11 = .ok (.iload_n 1, 1) := by decide +kernel
theorem dX9_hangUp_12 : decode cX9_hangUp 12 = .ok (.aload_n 0, 1) := by decide +kernel
theorem dX9_hangUp_13 : decode cX9_hangUp 13 = .ok (.getfield 119, 3) := by decide +kernel
theorem dX9_hangUp_16 : decode cX9_hangUp 16 = .ok (.iastore, 1) := by decide +kernel
theorem dX9_hangUp_17 : decode cX9_hangUp 17 = .ok (.return_, 1) := by decide +kernel
theorem dX9_hang_0 : decode cX9_hang 0 = .ok (.aload_n 0, 1) := by decide +kernel
theorem dX9_hang_1 : decode cX9_hang 1 = .ok (.iload_n 1, 1) := by decide +kernel
theorem dX9_hang_2 : decode cX9_hang 2 = .ok (.invokevirtual 262, 3) := by decide +kernel
theorem dX9_hang_5 : decode cX9_hang 5 = .ok (.ifCond .ne 5, 3) := by decide +kernel
theorem dX9_hang_8 : decode cX9_hang 8 = .ok (.iconst (-1), 1) := by decide +kernel
theorem dX9_hang_9 : decode cX9_hang 9 = .ok (.ireturn, 1) := by decide +kernel
theorem dX9_hang_10 : decode cX9_hang 10 = .ok (.aload_n 0, 1) := by decide +kernel
theorem dX9_hang_11 : decode cX9_hang 11 = .ok (.iload_n 1, 1) := by decide +kernel
theorem dX9_hang_12 : decode cX9_hang 12 = .ok (.iconst 3, 1) := by decide +kernel
theorem dX9_hang_13 : decode cX9_hang 13 = .ok (.invokevirtual 300, 3) := by decide +kernel
theorem dX9_hang_16 : decode cX9_hang 16 = .ok (.istore_n 2, 1) := by decide +kernel
theorem dX9_hang_17 : decode cX9_hang 17 = .ok (.iload_n 2, 1) := by decide +kernel
theorem dX9_hang_18 : decode cX9_hang 18 = .ok (.ifCond .le 8, 3) := by decide +kernel
theorem dX9_hang_21 : decode cX9_hang 21 = .ok (.bipush (-10), 2) := by decide +kernel
theorem dX9_hang_23 : decode cX9_hang 23 = .ok (.iload_n 2, 1) := by decide +kernel
theorem dX9_hang_24 : decode cX9_hang 24 = .ok (.isub, 1) := by decide +kernel
theorem dX9_hang_25 : decode cX9_hang 25 = .ok (.ireturn, 1) := by decide +kernel
theorem dX9_hang_26 : decode cX9_hang 26 = .ok (.aload_n 0, 1) := by decide +kernel
theorem dX9_hang_27 : decode cX9_hang 27 = .ok (.iload_n 1, 1) := by decide +kernel
theorem dX9_hang_28 : decode cX9_hang 28 = .ok (.invokevirtual 306, 3) := by decide +kernel
theorem dX9_hang_31 : decode cX9_hang 31 = .ok (.iconst 1, 1) := by decide +kernel
theorem dX9_hang_32 : decode cX9_hang 32 = .ok (.ireturn, 1) := by decide +kernel
theorem dX9_back_0 : decode cX9_back 0 = .ok (.aload_n 0, 1) := by decide +kernel
theorem dX9_back_1 : decode cX9_back 1 = .ok (.iload_n 1, 1) := by decide +kernel
theorem dX9_back_2 : decode cX9_back 2 = .ok (.invokevirtual 262, 3) := by decide +kernel
theorem dX9_back_5 : decode cX9_back 5 = .ok (.ifCond .ne 5, 3) := by decide +kernel
theorem dX9_back_8 : decode cX9_back 8 = .ok (.iconst (-1), 1) := by decide +kernel
theorem dX9_back_9 : decode cX9_back 9 = .ok (.ireturn, 1) := by decide +kernel
theorem dX9_back_10 : decode cX9_back 10 = .ok (.aload_n 0, 1) := by decide +kernel
theorem dX9_back_11 : decode cX9_back 11 = .ok (.iload_n 1, 1) := by decide +kernel
theorem dX9_back_12 : decode cX9_back 12 = .ok (.iconst 4, 1) := by decide +kernel
theorem dX9_back_13 : decode cX9_back 13 = .ok (.invokevirtual 300, 3) := by decide +kernel
theorem dX9_back_16 : decode cX9_back 16 = .ok (.istore_n 2, 1) := by decide +kernel
theorem dX9_back_17 : decode cX9_back 17 = .ok (.iload_n 2, 1) := by decide +kernel
theorem dX9_back_18 : decode cX9_back 18 = .ok (.ifCond .le 8, 3) := by decide +kernel
theorem dX9_back_21 : decode cX9_back 21 = .ok (.bipush (-10), 2) := by decide +kernel
theorem dX9_back_23 : decode cX9_back 23 = .ok (.iload_n 2, 1) := by decide +kernel
theorem dX9_back_24 : decode cX9_back 24 = .ok (.isub, 1) := by decide +kernel
theorem dX9_back_25 : decode cX9_back 25 = .ok (.ireturn, 1) := by decide +kernel
theorem dX9_back_26 : decode cX9_back 26 = .ok (.aload_n 0, 1) := by decide +kernel
theorem dX9_back_27 : decode cX9_back 27 = .ok (.invokevirtual 133, 3) := by decide +kernel
theorem dX9_back_30 : decode cX9_back 30 = .ok (.istore_n 3, 1) := by decide +kernel
theorem dX9_back_31 : decode cX9_back 31 = .ok (.aload_n 0, 1) := by decide +kernel
theorem dX9_back_32 : decode cX9_back 32 = .ok (.getfield 62, 3) := by decide +kernel
theorem dX9_back_35 : decode cX9_back 35 = .ok (.iload_n 1, 1) := by decide +kernel
theorem dX9_back_36 : decode cX9_back 36 = .ok (.iconst 5, 1) := by decide +kernel
theorem dX9_back_37 : decode cX9_back 37 = .ok (.iastore, 1) := by decide +kernel
theorem dX9_back_38 : decode cX9_back 38 = .ok (.iload_n 3, 1) := by decide +kernel
theorem dX9_back_39 : decode cX9_back 39 = .ok (.invokestatic 303, 3) := by decide +kernel
theorem dX9_back_42 : decode cX9_back 42 = .ok (.aload_n 0, 1) := by decide +kernel
theorem dX9_back_43 : decode cX9_back 43 = .ok (.invokevirtual 133, 3) := by decide +kernel
theorem dX9_back_46 : decode cX9_back 46 = .ok (.invokestatic 303, 3) := by decide +kernel
theorem dX9_back_49 : decode cX9_back 49 = .ok (.isub, 1) := by decide +kernel
theorem dX9_back_50 : decode cX9_back 50 = .ok (.ireturn, 1) := by decide +kernel
theorem dX9_may_0 : decode cX9_may 0 = .ok (.aload_n 0, 1) := by decide +kernel
theorem dX9_may_1 : decode cX9_may 1 = .ok (.iload_n 1, 1) := by decide +kernel
theorem dX9_may_2 : decode cX9_may 2 = .ok (.invokevirtual 262, 3) := by decide +kernel
theorem dX9_may_5 : decode cX9_may 5 = .ok (.ifCond .eq 21, 3) := by decide +kernel
theorem dX9_may_8 : decode cX9_may 8 = .ok (.iload_n 2, 1) := by decide +kernel
theorem dX9_may_9 : decode cX9_may 9 = .ok (.iconst 0, 1) := by decide +kernel
theorem dX9_may_10 : decode cX9_may 10 = .ok (.iconst 5, 1) := by decide +kernel
theorem dX9_may_11 : decode cX9_may 11 = .ok (.invokestatic 105, 3) := by decide +kernel
theorem dX9_may_14 : decode cX9_may 14 = .ok (.ifCond .eq 12, 3) := by decide +kernel
theorem dX9_may_17 : decode cX9_may 17 = .ok (.aload_n 0, 1) := by decide +kernel
theorem dX9_may_18 : decode cX9_may 18 = .ok (.iload_n 1, 1) := by decide +kernel
theorem dX9_may_19 : decode cX9_may 19 = .ok (.iload_n 2, 1) := by decide +kernel
theorem dX9_may_20 : decode cX9_may 20 = .ok (.invokevirtual 300, 3) := by decide +kernel
theorem dX9_may_23 : decode cX9_may 23 = .ok (.goto 4, 3) := by decide +kernel
theorem dX9_may_26 : decode cX9_may 26 = .ok (.iconst (-1), 1) := by decide +kernel
theorem dX9_may_27 : decode cX9_may 27 = .ok (.ireturn, 1) := by decide +kernel
theorem dX9_quarrels_0 : decode cX9_quarrels 0 = .ok (.aload_n 0, 1) := by decide +kernel
theorem dX9_quarrels_1 : decode cX9_quarrels 1 = .ok (.iload_n 1, 1) := by decide +kernel
theorem dX9_quarrels_2 : decode cX9_quarrels 2 = .ok (.invokevirtual 262, 3) := by decide +kernel
theorem dX9_quarrels_5 : decode cX9_quarrels 5 = .ok (.ifCond .eq 11, 3) := by decide +kernel
theorem dX9_quarrels_8 : decode cX9_quarrels 8 = .ok (.aload_n 0, 1) := by decide +kernel
theorem dX9_quarrels_9 : decode cX9_quarrels 9 = .ok (.iload_n 1, 1) := by decide +kernel
theorem dX9_quarrels_10 : decode cX9_quarrels 10 = .ok (.invokevirtual 282, 3) := by decide +kernel
theorem dX9_quarrels_13 : decode cX9_quarrels 13 = .ok (.goto 4, 3) := by decide +kernel
theorem dX9_quarrels_16 : decode cX9_quarrels 16 = .ok (.iconst (-1), 1) := by decide +kernel
theorem dX9_quarrels_17 : decode cX9_quarrels 17 = .ok (.ireturn, 1) := by decide +kernel
theorem dX9_permitOf_0 : decode cX9_permitOf 0 = .ok (.aload_n 0, 1) := by decide +kernel
theorem dX9_permitOf_1 : decode cX9_permitOf 1 = .ok (.iload_n 1, 1) := by decide +kernel
theorem dX9_permitOf_2 : decode cX9_permitOf 2 = .ok (.invokevirtual 262, 3) := by decide +kernel
theorem dX9_permitOf_5 : decode cX9_permitOf 5 = .ok (.ifCond .eq 13, 3) := by decide +kernel
theorem dX9_permitOf_8 : decode cX9_permitOf 8 = .ok (.iload_n 2, 1) := by decide +kernel
theorem dX9_permitOf_9 : decode cX9_permitOf 9 = .ok (.iconst 0, 1) := by decide +kernel
theorem dX9_permitOf_10 : decode cX9_permitOf 10 = .ok (.bipush 8, 2) := by decide +kernel
theorem dX9_permitOf_12 : decode cX9_permitOf 12 = .ok (.invokestatic 105, 3) := by decide +kernel
theorem dX9_permitOf_15 : decode cX9_permitOf 15 = .ok (.ifCond .ne 5, 3) := by decide +kernel
theorem dX9_permitOf_18 : decode cX9_permitOf 18 = .ok (.iconst (-1), 1) := by decide +kernel
theorem dX9_permitOf_19 : decode cX9_permitOf 19 = .ok (.ireturn, 1) := by decide +kernel
theorem dX9_permitOf_20 : decode cX9_permitOf 20 = .ok (.iload_n 2, 1) := by decide +kernel
theorem dX9_permitOf_21 : decode cX9_permitOf 21 = .ok (.tableswitch 116 0 7 #[47, 54, 61, 68, 75, 96, 102, 109], 47) := by decide +kernel
theorem dX9_permitOf_68 : decode cX9_permitOf 68 = .ok (.aload_n 0, 1) := by decide +kernel
theorem dX9_permitOf_69 : decode cX9_permitOf 69 = .ok (.getfield 53, 3) := by decide +kernel
theorem dX9_permitOf_72 : decode cX9_permitOf 72 = .ok (.iload_n 1, 1) := by decide +kernel
theorem dX9_permitOf_73 : decode cX9_permitOf 73 = .ok (.iaload, 1) := by decide +kernel
theorem dX9_permitOf_74 : decode cX9_permitOf 74 = .ok (.ireturn, 1) := by decide +kernel
theorem dX9_permitOf_75 : decode cX9_permitOf 75 = .ok (.aload_n 0, 1) := by decide +kernel
theorem dX9_permitOf_76 : decode cX9_permitOf 76 = .ok (.getfield 56, 3) := by decide +kernel
theorem dX9_permitOf_79 : decode cX9_permitOf 79 = .ok (.iload_n 1, 1) := by decide +kernel
theorem dX9_permitOf_80 : decode cX9_permitOf 80 = .ok (.iaload, 1) := by decide +kernel
theorem dX9_permitOf_81 : decode cX9_permitOf 81 = .ok (.ireturn, 1) := by decide +kernel
theorem dX9_permitOf_82 : decode cX9_permitOf 82 = .ok (.aload_n 0, 1) := by decide +kernel
theorem dX9_permitOf_83 : decode cX9_permitOf 83 = .ok (.getfield 59, 3) := by decide +kernel
theorem dX9_permitOf_86 : decode cX9_permitOf 86 = .ok (.iload_n 1, 1) := by decide +kernel
theorem dX9_permitOf_87 : decode cX9_permitOf 87 = .ok (.iaload, 1) := by decide +kernel
theorem dX9_permitOf_88 : decode cX9_permitOf 88 = .ok (.ireturn, 1) := by decide +kernel
theorem dX9_permitOf_89 : decode cX9_permitOf 89 = .ok (.aload_n 0, 1) := by decide +kernel
theorem dX9_permitOf_90 : decode cX9_permitOf 90 = .ok (.getfield 62, 3) := by decide +kernel
theorem dX9_permitOf_93 : decode cX9_permitOf 93 = .ok (.iload_n 1, 1) := by decide +kernel
theorem dX9_permitOf_94 : decode cX9_permitOf 94 = .ok (.iaload, 1) := by decide +kernel
theorem dX9_permitOf_95 : decode cX9_permitOf 95 = .ok (.ireturn, 1) := by decide +kernel
theorem dX9_permitOf_96 : decode cX9_permitOf 96 = .ok (.aload_n 0, 1) := by decide +kernel
theorem dX9_permitOf_97 : decode cX9_permitOf 97 = .ok (.getfield 65, 3) := by decide +kernel
theorem dX9_permitOf_100 : decode cX9_permitOf 100 = .ok (.iload_n 1, 1) := by decide +kernel
theorem dX9_permitOf_101 : decode cX9_permitOf 101 = .ok (.iaload, 1) := by decide +kernel
theorem dX9_permitOf_102 : decode cX9_permitOf 102 = .ok (.ifCond .ge 8, 3) := by decide +kernel
theorem dX9_permitOf_105 : decode cX9_permitOf 105 = .ok (.bipush (-3), 2) := by decide +kernel
theorem dX9_permitOf_107 : decode cX9_permitOf 107 = .ok (.goto 9, 3) := by decide +kernel
theorem dX9_permitOf_110 : decode cX9_permitOf 110 = .ok (.aload_n 0, 1) := by decide +kernel
theorem dX9_permitOf_111 : decode cX9_permitOf 111 = .ok (.getfield 65, 3) := by decide +kernel
theorem dX9_permitOf_114 : decode cX9_permitOf 114 = .ok (.iload_n 1, 1) := by decide +kernel
theorem dX9_permitOf_115 : decode cX9_permitOf 115 = .ok (.iaload, 1) := by decide +kernel
theorem dX9_permitOf_116 : decode cX9_permitOf 116 = .ok (.ireturn, 1) := by decide +kernel
theorem dX9_permitOf_117 : decode cX9_permitOf 117 = .ok (.aload_n 0, 1) := by decide +kernel
theorem dX9_permitOf_118 : decode cX9_permitOf 118 = .ok (.iload_n 1, 1) := by decide +kernel
theorem dX9_permitOf_119 : decode cX9_permitOf 119 = .ok (.invokevirtual 273, 3) := by decide +kernel
theorem dX9_permitOf_122 : decode cX9_permitOf 122 = .ok (.ireturn, 1) := by decide +kernel
theorem dX9_permitOf_123 : decode cX9_permitOf 123 = .ok (.aload_n 0, 1) := by decide +kernel
theorem dX9_permitOf_124 : decode cX9_permitOf 124 = .ok (.getfield 68, 3) := by decide +kernel
theorem dX9_permitOf_127 : decode cX9_permitOf 127 = .ok (.iload_n 1, 1) := by decide +kernel
theorem dX9_permitOf_128 : decode cX9_permitOf 128 = .ok (.iaload, 1) := by decide +kernel
theorem dX9_permitOf_129 : decode cX9_permitOf 129 = .ok (.ireturn, 1) := by decide +kernel
theorem dX9_permitOf_130 : decode cX9_permitOf 130 = .ok (.aload_n 0, 1) := by decide +kernel
theorem dX9_permitOf_131 : decode cX9_permitOf 131 = .ok (.getfield 71, 3) := by decide +kernel
theorem dX9_permitOf_134 : decode cX9_permitOf 134 = .ok (.iload_n 1, 1) := by decide +kernel
theorem dX9_permitOf_135 : decode cX9_permitOf 135 = .ok (.iaload, 1) := by decide +kernel
theorem dX9_permitOf_136 : decode cX9_permitOf 136 = .ok (.ireturn, 1) := by decide +kernel
theorem dX9_permitOf_137 : decode cX9_permitOf 137 = .ok (.aload_n 0, 1) := by decide +kernel
theorem dX9_permitOf_138 : decode cX9_permitOf 138 = .ok (.getfield 62, 3) := by decide +kernel
theorem dX9_permitOf_141 : decode cX9_permitOf 141 = .ok (.iload_n 1, 1) := by decide +kernel
theorem dX9_permitOf_142 : decode cX9_permitOf 142 = .ok (.iaload, 1) := by decide +kernel
theorem dX9_permitOf_143 : decode cX9_permitOf 143 = .ok (.iconst 3, 1) := by decide +kernel
theorem dX9_permitOf_144 : decode cX9_permitOf 144 = .ok (.if_icmp .ne 10, 3) := by decide +kernel
theorem dX9_permitOf_147 : decode cX9_permitOf 147 = .ok (.aload_n 0, 1) := by decide +kernel
theorem dX9_permitOf_148 : decode cX9_permitOf 148 = .ok (.getfield 119, 3) := by decide +kernel
theorem dX9_permitOf_151 : decode cX9_permitOf 151 = .ok (.goto 9, 3) := by decide +kernel
theorem dX9_permitOf_154 : decode cX9_permitOf 154 = .ok (.aload_n 0, 1) := by decide +kernel
theorem dX9_permitOf_155 : decode cX9_permitOf 155 = .ok (.getfield 74, 3) := by decide +kernel
theorem dX9_permitOf_158 : decode cX9_permitOf 158 = .ok (.iload_n 1, 1) := by decide +kernel
theorem dX9_permitOf_159 : decode cX9_permitOf 159 = .ok (.iaload, 1) := by decide +kernel
theorem dX9_permitOf_160 : decode cX9_permitOf 160 = .ok (.ireturn, 1) := by decide +kernel
theorem dX9_enter_0 : decode cX9_enter 0 = .ok (.iload_n 1, 1) := by decide +kernel
theorem dX9_enter_1 : decode cX9_enter 1 = .ok (.invokestatic 265, 3) := by decide +kernel
theorem dX9_enter_4 : decode cX9_enter 4 = .ok (.ifCond .eq 11, 3) := by decide +kernel
theorem dX9_enter_7 : decode cX9_enter 7 = .ok (.aload_n 0, 1) := by decide +kernel
theorem dX9_enter_8 : decode cX9_enter 8 = .ok (.iload_n 2, 1) := by decide +kernel
theorem dX9_enter_9 : decode cX9_enter 9 = .ok (.invokevirtual 262, 3) := by decide +kernel
theorem dX9_enter_12 : decode cX9_enter 12 = .ok (.ifCond .ne 5, 3) := by decide +kernel
theorem dX9_enter_15 : decode cX9_enter 15 = .ok (.iconst (-1), 1) := by decide +kernel
theorem dX9_enter_16 : decode cX9_enter 16 = .ok (.ireturn, 1) := by decide +kernel
theorem dX9_enter_17 : decode cX9_enter 17 = .ok (.aload_n 0, 1) := by decide +kernel
theorem dX9_enter_18 : decode cX9_enter 18 = .ok (.getfield 47, 3) := by decide +kernel
theorem dX9_enter_21 : decode cX9_enter 21 = .ok (.iload_n 1, 1) := by decide +kernel
theorem dX9_enter_22 : decode cX9_enter 22 = .ok (.baload, 1) := by decide +kernel
theorem dX9_enter_23 : decode cX9_enter 23 = .ok (.ifCond .ne 12, 3) := by decide +kernel
theorem dX9_enter_26 : decode cX9_enter 26 = .ok (.aload_n 0, 1) := by decide +kernel
theorem dX9_enter_27 : decode cX9_enter 27 = .ok (.getfield 50, 3) := by decide +kernel
theorem dX9_enter_30 : decode cX9_enter 30 = .ok (.iload_n 1, 1) := by decide +kernel
theorem dX9_enter_31 : decode cX9_enter 31 = .ok (.iaload, 1) := by decide +kernel
theorem dX9_enter_32 : decode cX9_enter 32 = .ok (.ifCond .lt 6, 3) := by decide +kernel
theorem dX9_enter_35 : decode cX9_enter 35 = .ok (.bipush (-4), 2) := by decide +kernel
theorem dX9_enter_37 : decode cX9_enter 37 = .ok (.ireturn, 1) := by decide +kernel
theorem dX9_enter_38 : decode cX9_enter 38 = .ok (.aload_n 0, 1) := by decide +kernel
theorem dX9_enter_39 : decode cX9_enter 39 = .ok (.iload_n 2, 1) := by decide +kernel
theorem dX9_enter_40 : decode cX9_enter 40 = .ok (.iconst 5, 1) := by decide +kernel
theorem dX9_enter_41 : decode cX9_enter 41 = .ok (.invokevirtual 300, 3) := by decide +kernel
theorem dX9_enter_44 : decode cX9_enter 44 = .ok (.istore_n 3, 1) := by decide +kernel
theorem dX9_enter_45 : decode cX9_enter 45 = .ok (.iload_n 3, 1) := by decide +kernel
theorem dX9_enter_46 : decode cX9_enter 46 = .ok (.ifCond .le 8, 3) := by decide +kernel
theorem dX9_enter_49 : decode cX9_enter 49 = .ok (.bipush (-10), 2) := by decide +kernel
theorem dX9_enter_51 : decode cX9_enter 51 = .ok (.iload_n 3, 1) := by decide +kernel
theorem dX9_enter_52 : decode cX9_enter 52 = .ok (.isub, 1) := by decide +kernel
theorem dX9_enter_53 : decode cX9_enter 53 = .ok (.ireturn, 1) := by decide +kernel
theorem dX9_enter_54 : decode cX9_enter 54 = .ok (.aload_n 0, 1) := by decide +kernel
theorem dX9_enter_55 : decode cX9_enter 55 = .ok (.getfield 50, 3) := by decide +kernel
theorem dX9_enter_58 : decode cX9_enter 58 = .ok (.iload_n 1, 1) := by decide +kernel
theorem dX9_enter_59 : decode cX9_enter 59 = .ok (.iload_n 2, 1) := by decide +kernel
theorem dX9_enter_60 : decode cX9_enter 60 = .ok (.iastore, 1) := by decide +kernel
theorem dX9_enter_61 : decode cX9_enter 61 = .ok (.aload_n 0, 1) := by decide +kernel
theorem dX9_enter_62 : decode cX9_enter 62 = .ok (.iload_n 2, 1) := by decide +kernel
theorem dX9_enter_63 : decode cX9_enter 63 = .ok (.invokevirtual 273, 3) := by decide +kernel
theorem dX9_enter_66 : decode cX9_enter 66 = .ok (.ireturn, 1) := by decide +kernel
theorem dX9_leave_0 : decode cX9_leave 0 = .ok (.iload_n 1, 1) := by decide +kernel
theorem dX9_leave_1 : decode cX9_leave 1 = .ok (.invokestatic 265, 3) := by decide +kernel
theorem dX9_leave_4 : decode cX9_leave 4 = .ok (.ifCond .ne 5, 3) := by decide +kernel
theorem dX9_leave_7 : decode cX9_leave 7 = .ok (.iconst (-1), 1) := by decide +kernel
theorem dX9_leave_8 : decode cX9_leave 8 = .ok (.ireturn, 1) := by decide +kernel
theorem dX9_leave_9 : decode cX9_leave 9 = .ok (.aload_n 0, 1) := by decide +kernel
theorem dX9_leave_10 : decode cX9_leave 10 = .ok (.getfield 50, 3) := by decide +kernel
theorem dX9_leave_13 : decode cX9_leave 13 = .ok (.iload_n 1, 1) := by decide +kernel
theorem dX9_leave_14 : decode cX9_leave 14 = .ok (.iaload, 1) := by decide +kernel
theorem dX9_leave_15 : decode cX9_leave 15 = .ok (.ifCond .ge 6, 3) := by decide +kernel
theorem dX9_leave_18 : decode cX9_leave 18 = .ok (.bipush (-4), 2) := by decide +kernel
theorem dX9_leave_20 : decode cX9_leave 20 = .ok (.ireturn, 1) := by decide +kernel
theorem dX9_leave_21 : decode cX9_leave 21 = .ok (.aload_n 0, 1) := by decide +kernel
theorem dX9_leave_22 : decode cX9_leave 22 = .ok (.getfield 50, 3) := by decide +kernel
theorem dX9_leave_25 : decode cX9_leave 25 = .ok (.iload_n 1, 1) := by decide +kernel
theorem dX9_leave_26 : decode cX9_leave 26 = .ok (.iaload, 1) := by decide +kernel
theorem dX9_leave_27 : decode cX9_leave 27 = .ok (.istore_n 2, 1) := by decide +kernel
theorem dX9_leave_28 : decode cX9_leave 28 = .ok (.aload_n 0, 1) := by decide +kernel
theorem dX9_leave_29 : decode cX9_leave 29 = .ok (.getfield 50, 3) := by decide +kernel
theorem dX9_leave_32 : decode cX9_leave 32 = .ok (.iload_n 1, 1) := by decide +kernel
theorem dX9_leave_33 : decode cX9_leave 33 = .ok (.iconst (-1), 1) := by decide +kernel
theorem dX9_leave_34 : decode cX9_leave 34 = .ok (.iastore, 1) := by decide +kernel
theorem dX9_leave_35 : decode cX9_leave 35 = .ok (.iload_n 2, 1) := by decide +kernel
theorem dX9_leave_36 : decode cX9_leave 36 = .ok (.ireturn, 1) := by decide +kernel
theorem dX9_holdsLive_0 : decode cX9_holdsLive 0 = .ok (.iconst 0, 1) := by decide +kernel
theorem dX9_holdsLive_1 : decode cX9_holdsLive 1 = .ok (.istore_n 2, 1) := by decide +kernel
theorem dX9_holdsLive_2 : decode cX9_holdsLive 2 = .ok (.iconst 0, 1) := by decide +kernel
theorem dX9_holdsLive_3 : decode cX9_holdsLive 3 = .ok (.istore_n 3, 1) := by decide +kernel
theorem dX9_holdsLive_4 : decode cX9_holdsLive 4 = .ok (.iload_n 3, 1) := by decide +kernel
theorem dX9_holdsLive_5 : decode cX9_holdsLive 5 = .ok (.aload_n 0, 1) := by decide +kernel
theorem dX9_holdsLive_6 : decode cX9_holdsLive 6 = .ok (.getfield 113, 3) := by decide +kernel
theorem dX9_holdsLive_9 : decode cX9_holdsLive 9 = .ok (.if_icmp .ge 39, 3) := by decide +kernel
theorem dX9_holdsLive_12 : decode cX9_holdsLive 12 = .ok (.iload_n 2, 1) := by decide +kernel
theorem dX9_holdsLive_13 : decode cX9_holdsLive 13 = .ok (.ifCond .ne 23, 3) := by decide +kernel
theorem dX9_holdsLive_16 : decode cX9_holdsLive 16 = .ok (.aload_n 0, 1) := by decide +kernel
theorem dX9_holdsLive_17 : decode cX9_holdsLive 17 = .ok (.getfield 62, 3) := by decide +kernel
theorem dX9_holdsLive_20 : decode cX9_holdsLive 20 = .ok (.iload_n 3, 1) := by decide +kernel
theorem dX9_holdsLive_21 : decode cX9_holdsLive 21 = .ok (.iaload, 1) := by decide +kernel
theorem dX9_holdsLive_22 : decode cX9_holdsLive 22 = .ok (.iconst 3, 1) := by decide +kernel
theorem dX9_holdsLive_23 : decode cX9_holdsLive 23 = .ok (.if_icmp .ne 17, 3) := by decide +kernel
theorem dX9_holdsLive_26 : decode cX9_holdsLive 26 = .ok (.aload_n 0, 1) := by decide +kernel
theorem dX9_holdsLive_27 : decode cX9_holdsLive 27 = .ok (.getfield 65, 3) := by decide +kernel
theorem dX9_holdsLive_30 : decode cX9_holdsLive 30 = .ok (.iload_n 3, 1) := by decide +kernel
theorem dX9_holdsLive_31 : decode cX9_holdsLive 31 = .ok (.iaload, 1) := by decide +kernel
theorem dX9_holdsLive_32 : decode cX9_holdsLive 32 = .ok (.iload_n 1, 1) := by decide +kernel
theorem dX9_holdsLive_33 : decode cX9_holdsLive 33 = .ok (.if_icmp .ne 7, 3) := by decide +kernel
theorem dX9_holdsLive_36 : decode cX9_holdsLive 36 = .ok (.iconst 1, 1) := by decide +kernel
theorem dX9_holdsLive_37 : decode cX9_holdsLive 37 = .ok (.goto 4, 3) := by decide +kernel
theorem dX9_holdsLive_40 : decode cX9_holdsLive 40 = .ok (.iconst 0, 1) := by decide +kernel
theorem dX9_holdsLive_41 : decode cX9_holdsLive 41 = .ok (.istore_n 2, 1) := by decide +kernel
theorem dX9_holdsLive_42 : decode cX9_holdsLive 42 = .ok (.iinc 3 1, 3) := by decide +kernel
theorem dX9_holdsLive_45 : decode cX9_holdsLive 45 = .ok (.goto (-41), 3) := by decide +kernel
theorem dX9_holdsLive_48 : decode cX9_holdsLive 48 = .ok (.iload_n 2, 1) := by decide +kernel
theorem dX9_holdsLive_49 : decode cX9_holdsLive 49 = .ok (.ireturn, 1) := by decide +kernel
theorem dX9_shift_0 : decode cX9_shift 0 = .ok (.iload_n 1, 1) := by decide +kernel
theorem dX9_shift_1 : decode cX9_shift 1 = .ok (.invokestatic 265, 3) := by decide +kernel
theorem dX9_shift_4 : decode cX9_shift 4 = .ok (.ifCond .ne 5, 3) := by decide +kernel
theorem dX9_shift_7 : decode cX9_shift 7 = .ok (.iconst (-1), 1) := by decide +kernel
theorem dX9_shift_8 : decode cX9_shift 8 = .ok (.ireturn, 1) := by decide +kernel
theorem dX9_shift_9 : decode cX9_shift 9 = .ok (.aload_n 0, 1) := by decide +kernel
theorem dX9_shift_10 : decode cX9_shift 10 = .ok (.getfield 47, 3) := by decide +kernel
theorem dX9_shift_13 : decode cX9_shift 13 = .ok (.iload_n 1, 1) := by decide +kernel
theorem dX9_shift_14 : decode cX9_shift 14 = .ok (.baload, 1) := by decide +kernel
theorem dX9_shift_15 : decode cX9_shift 15 = .ok (.iload_n 2, 1) := by decide +kernel
theorem dX9_shift_16 : decode cX9_shift 16 = .ok (.if_icmp .ne 24, 3) := by decide +kernel
theorem dX9_shift_19 : decode cX9_shift 19 = .ok (.iload_n 2, 1) := by decide +kernel
theorem dX9_shift_20 : decode cX9_shift 20 = .ok (.ifCond .ne 23, 3) := by decide +kernel
theorem dX9_shift_23 : decode cX9_shift 23 = .ok (.aload_n 0, 1) := by decide +kernel
theorem dX9_shift_24 : decode cX9_shift 24 = .ok (.getfield 50, 3) := by decide +kernel
theorem dX9_shift_27 : decode cX9_shift 27 = .ok (.iload_n 1, 1) := by decide +kernel
theorem dX9_shift_28 : decode cX9_shift 28 = .ok (.iaload, 1) := by decide +kernel
theorem dX9_shift_29 : decode cX9_shift 29 = .ok (.ifCond .ge 11, 3) := by decide +kernel
theorem dX9_shift_32 : decode cX9_shift 32 = .ok (.aload_n 0, 1) := by decide +kernel
theorem dX9_shift_33 : decode cX9_shift 33 = .ok (.iload_n 1, 1) := by decide +kernel
theorem dX9_shift_34 : decode cX9_shift 34 = .ok (.invokevirtual 310, 3) := by decide +kernel
theorem dX9_shift_37 : decode cX9_shift 37 = .ok (.ifCond .eq 6, 3) := by decide +kernel
theorem dX9_shift_40 : decode cX9_shift 40 = .ok (.bipush (-4), 2) := by decide +kernel
theorem dX9_shift_42 : decode cX9_shift 42 = .ok (.ireturn, 1) := by decide +kernel
theorem dX9_shift_43 : decode cX9_shift 43 = .ok (.aload_n 0, 1) := by decide +kernel
theorem dX9_shift_44 : decode cX9_shift 44 = .ok (.getfield 47, 3) := by decide +kernel
theorem dX9_shift_47 : decode cX9_shift 47 = .ok (.iload_n 1, 1) := by decide +kernel
theorem dX9_shift_48 : decode cX9_shift 48 = .ok (.iload_n 2, 1) := by decide +kernel
theorem dX9_shift_49 : decode cX9_shift 49 = .ok (.ifCond .ne 7, 3) := by decide +kernel
theorem dX9_shift_52 : decode cX9_shift 52 = .ok (.iconst 1, 1) := by decide +kernel
theorem dX9_shift_53 : decode cX9_shift 53 = .ok (.goto 4, 3) := by decide +kernel
theorem dX9_shift_56 : decode cX9_shift 56 = .ok (.iconst 0, 1) := by decide +kernel
theorem dX9_shift_57 : decode cX9_shift 57 = .ok (.bastore, 1) := by decide +kernel
theorem dX9_shift_58 : decode cX9_shift 58 = .ok (.iconst 1, 1) := by decide +kernel
theorem dX9_shift_59 : decode cX9_shift 59 = .ok (.ireturn, 1) := by decide +kernel
theorem dX9_siren_0 : decode cX9_siren 0 = .ok (.iconst 0, 1) := by decide +kernel
theorem dX9_siren_1 : decode cX9_siren 1 = .ok (.istore_n 1, 1) := by decide +kernel
theorem dX9_siren_2 : decode cX9_siren 2 = .ok (.iconst 0, 1) := by decide +kernel
theorem dX9_siren_3 : decode cX9_siren 3 = .ok (.istore_n 2, 1) := by decide +kernel
theorem dX9_siren_4 : decode cX9_siren 4 = .ok (.iload_n 2, 1) := by decide +kernel
theorem dX9_siren_5 : decode cX9_siren 5 = .ok (.bipush 8, 2) := by decide +kernel
theorem dX9_siren_7 : decode cX9_siren 7 = .ok (.if_icmp .ge 33, 3) := by decide +kernel
theorem dX9_siren_10 : decode cX9_siren 10 = .ok (.iload_n 1, 1) := by decide +kernel
theorem dX9_siren_11 : decode cX9_siren 11 = .ok (.aload_n 0, 1) := by decide +kernel
theorem dX9_siren_12 : decode cX9_siren 12 = .ok (.getfield 50, 3) := by decide +kernel
theorem dX9_siren_15 : decode cX9_siren 15 = .ok (.iload_n 2, 1) := by decide +kernel
theorem dX9_siren_16 : decode cX9_siren 16 = .ok (.iaload, 1) := by decide +kernel
theorem dX9_siren_17 : decode cX9_siren 17 = .ok (.ifCond .lt 7, 3) := by decide +kernel
theorem dX9_siren_20 : decode cX9_siren 20 = .ok (.iconst 1, 1) := by decide +kernel
theorem dX9_siren_21 : decode cX9_siren 21 = .ok (.goto 4, 3) := by decide +kernel
theorem dX9_siren_24 : decode cX9_siren 24 = .ok (.iconst 0, 1) := by decide +kernel
theorem dX9_siren_25 : decode cX9_siren 25 = .ok (.iadd, 1) := by decide +kernel
theorem dX9_siren_26 : decode cX9_siren 26 = .ok (.istore_n 1, 1) := by decide +kernel
theorem dX9_siren_27 : decode cX9_siren 27 = .ok (.aload_n 0, 1) := by decide +kernel
theorem dX9_siren_28 : decode cX9_siren 28 = .ok (.getfield 50, 3) := by decide +kernel
theorem dX9_siren_31 : decode cX9_siren 31 = .ok (.iload_n 2, 1) := by decide +kernel
theorem dX9_siren_32 : decode cX9_siren 32 = .ok (.iconst (-1), 1) := by decide +kernel
theorem dX9_siren_33 : decode cX9_siren 33 = .ok (.iastore, 1) := by decide +kernel
theorem dX9_siren_34 : decode cX9_siren 34 = .ok (.iinc 2 1, 3) := by decide +kernel
theorem dX9_siren_37 : decode cX9_siren 37 = .ok (.goto (-33), 3) := by decide +kernel
theorem dX9_siren_40 : decode cX9_siren 40 = .ok (.iconst 0, 1) := by decide +kernel
theorem dX9_siren_41 : decode cX9_siren 41 = .ok (.istore_n 2, 1) := by decide +kernel
theorem dX9_siren_42 : decode cX9_siren 42 = .ok (.iload_n 2, 1) := by decide +kernel
theorem dX9_siren_43 : decode cX9_siren 43 = .ok (.aload_n 0, 1) := by decide +kernel
theorem dX9_siren_44 : decode cX9_siren 44 = .ok (.getfield 113, 3) := by decide +kernel
theorem dX9_siren_47 : decode cX9_siren 47 = .ok (.if_icmp .ge 24, 3) := by decide +kernel
theorem dX9_siren_50 : decode cX9_siren 50 = .ok (.aload_n 0, 1) := by decide +kernel
theorem dX9_siren_51 : decode cX9_siren 51 = .ok (.getfield 62, 3) := by decide +kernel
theorem dX9_siren_54 : decode cX9_siren 54 = .ok (.iload_n 2, 1) := by decide +kernel
theorem dX9_siren_55 : decode cX9_siren 55 = .ok (.iaload, 1) := by decide +kernel
theorem dX9_siren_56 : decode cX9_siren 56 = .ok (.iconst 3, 1) := by decide +kernel
theorem dX9_siren_57 : decode cX9_siren 57 = .ok (.if_icmp .ne 8, 3) := by decide +kernel
theorem dX9_siren_60 : decode cX9_siren 60 = .ok (.aload_n 0, 1) := by decide +kernel
theorem dX9_siren_61 : decode cX9_siren 61 = .ok (.iload_n 2, 1) := by decide +kernel
theorem dX9_siren_62 : decode cX9_siren 62 = .ok (.invokevirtual 306, 3) := by decide +kernel
theorem dX9_siren_65 : decode cX9_siren 65 = .ok (.iinc 2 1, 3) := by decide +kernel
theorem dX9_siren_68 : decode cX9_siren 68 = .ok (.goto (-26), 3) := by decide +kernel
theorem dX9_siren_71 : decode cX9_siren 71 = .ok (.iload_n 1, 1) := by decide +kernel
theorem dX9_siren_72 : decode cX9_siren 72 = .ok (.ireturn, 1) := by decide +kernel
theorem dX9_hoursOf_0 : decode cX9_hoursOf 0 = .ok (.iconst 0, 1) := by decide +kernel
theorem dX9_hoursOf_1 : decode cX9_hoursOf 1 = .ok (.istore_n 2, 1) := by decide +kernel
theorem dX9_hoursOf_2 : decode cX9_hoursOf 2 = .ok (.iconst 0, 1) := by decide +kernel
theorem dX9_hoursOf_3 : decode cX9_hoursOf 3 = .ok (.istore_n 3, 1) := by decide +kernel
theorem dX9_hoursOf_4 : decode cX9_hoursOf 4 = .ok (.iload_n 3, 1) := by decide +kernel
theorem dX9_hoursOf_5 : decode cX9_hoursOf 5 = .ok (.aload_n 0, 1) := by decide +kernel
theorem dX9_hoursOf_6 : decode cX9_hoursOf 6 = .ok (.getfield 101, 3) := by decide +kernel
theorem dX9_hoursOf_9 : decode cX9_hoursOf 9 = .ok (.if_icmp .ge 38, 3) := by decide +kernel
theorem dX9_hoursOf_12 : decode cX9_hoursOf 12 = .ok (.iload_n 2, 1) := by decide +kernel
theorem dX9_hoursOf_13 : decode cX9_hoursOf 13 = .ok (.iload_n 1, 1) := by decide +kernel
theorem dX9_hoursOf_14 : decode cX9_hoursOf 14 = .ok (.iload_n 3, 1) := by decide +kernel
theorem dX9_hoursOf_15 : decode cX9_hoursOf 15 = .ok (.invokestatic 125, 3) := by decide +kernel
theorem dX9_hoursOf_18 : decode cX9_hoursOf 18 = .ok (.ifCond .ne 7, 3) := by decide +kernel
theorem dX9_hoursOf_21 : decode cX9_hoursOf 21 = .ok (.iconst 0, 1) := by decide +kernel
theorem dX9_hoursOf_22 : decode cX9_hoursOf 22 = .ok (.goto 17, 3) := by decide +kernel
theorem dX9_hoursOf_25 : decode cX9_hoursOf 25 = .ok (.aload_n 0, 1) := by decide +kernel
theorem dX9_hoursOf_26 : decode cX9_hoursOf 26 = .ok (.getfield 16, 3) := by decide +kernel
theorem dX9_hoursOf_29 : decode cX9_hoursOf 29 = .ok (.iload_n 3, 1) := by decide +kernel
theorem dX9_hoursOf_30 : decode cX9_hoursOf 30 = .ok (.iaload, 1) := by decide +kernel
theorem dX9_hoursOf_31 : decode cX9_hoursOf 31 = .ok (.ifCond .ne 7, 3) := by decide +kernel
theorem dX9_hoursOf_34 : decode cX9_hoursOf 34 = .ok (.iconst 1, 1) := by decide +kernel
theorem dX9_hoursOf_35 : decode cX9_hoursOf 35 = .ok (.goto 4, 3) := by decide +kernel
theorem dX9_hoursOf_38 : decode cX9_hoursOf 38 = .ok (.iconst 3, 1) := by decide +kernel
theorem dX9_hoursOf_39 : decode cX9_hoursOf 39 = .ok (.iadd, 1) := by decide +kernel
theorem dX9_hoursOf_40 : decode cX9_hoursOf 40 = .ok (.istore_n 2, 1) := by decide +kernel
theorem dX9_hoursOf_41 : decode cX9_hoursOf 41 = .ok (.iinc 3 1, 3) := by decide +kernel
theorem dX9_hoursOf_44 : decode cX9_hoursOf 44 = .ok (.goto (-40), 3) := by decide +kernel
theorem dX9_hoursOf_47 : decode cX9_hoursOf 47 = .ok (.iload_n 2, 1) := by decide +kernel
theorem dX9_hoursOf_48 : decode cX9_hoursOf 48 = .ok (.ireturn, 1) := by decide +kernel
theorem dX9_areFittings_0 : decode cX9_areFittings 0 = .ok (.iconst 1, 1) := by decide +kernel
theorem dX9_areFittings_1 : decode cX9_areFittings 1 = .ok (.istore_n 2, 1) := by decide +kernel
theorem dX9_areFittings_2 : decode cX9_areFittings 2 = .ok (.iconst 0, 1) := by decide +kernel
theorem dX9_areFittings_3 : decode cX9_areFittings 3 = .ok (.istore_n 3, 1) := by decide +kernel
theorem dX9_areFittings_4 : decode cX9_areFittings 4 = .ok (.iload_n 3, 1) := by decide +kernel
theorem dX9_areFittings_5 : decode cX9_areFittings 5 = .ok (.aload_n 0, 1) := by decide +kernel
theorem dX9_areFittings_6 : decode cX9_areFittings 6 = .ok (.getfield 101, 3) := by decide +kernel
theorem dX9_areFittings_9 : decode cX9_areFittings 9 = .ok (.if_icmp .ge 37, 3) := by decide +kernel
theorem dX9_areFittings_12 : decode cX9_areFittings 12 = .ok (.iload_n 2, 1) := by decide +kernel
theorem dX9_areFittings_13 : decode cX9_areFittings 13 = .ok (.ifCond .eq 25, 3) := by decide +kernel
theorem dX9_areFittings_16 : decode cX9_areFittings 16 = .ok (.iload_n 1, 1) := by decide +kernel
theorem dX9_areFittings_17 : decode cX9_areFittings 17 = .ok (.iload_n 3, 1) := by decide +kernel
theorem dX9_areFittings_18 : decode cX9_areFittings 18 = .ok (.invokestatic 125, 3) := by decide +kernel
theorem dX9_areFittings_21 : decode cX9_areFittings 21 = .ok (.ifCond .eq 13, 3) := by decide +kernel
theorem dX9_areFittings_24 : decode cX9_areFittings 24 = .ok (.aload_n 0, 1) := by decide +kernel
theorem dX9_areFittings_25 : decode cX9_areFittings 25 = .ok (.getfield 16, 3) := by decide +kernel
theorem dX9_areFittings_28 : decode cX9_areFittings 28 = .ok (.iload_n 3, 1) := by decide +kernel
theorem dX9_areFittings_29 : decode cX9_areFittings 29 = .ok (.iaload, 1) := by decide +kernel
theorem dX9_areFittings_30 : decode cX9_areFittings 30 = .ok (.iconst 2, 1) := by decide +kernel
theorem dX9_areFittings_31 : decode cX9_areFittings 31 = .ok (.if_icmp .ge 7, 3) := by decide +kernel
theorem dX9_areFittings_34 : decode cX9_areFittings 34 = .ok (.iconst 1, 1) := by decide +kernel
theorem dX9_areFittings_35 : decode cX9_areFittings 35 = .ok (.goto 4, 3) := by decide +kernel
theorem dX9_areFittings_38 : decode cX9_areFittings 38 = .ok (.iconst 0, 1) := by decide +kernel
theorem dX9_areFittings_39 : decode cX9_areFittings 39 = .ok (.istore_n 2, 1) := by decide +kernel
theorem dX9_areFittings_40 : decode cX9_areFittings 40 = .ok (.iinc 3 1, 3) := by decide +kernel
theorem dX9_areFittings_43 : decode cX9_areFittings 43 = .ok (.goto (-39), 3) := by decide +kernel
theorem dX9_areFittings_46 : decode cX9_areFittings 46 = .ok (.iload_n 2, 1) := by decide +kernel
theorem dX9_areFittings_47 : decode cX9_areFittings 47 = .ok (.ireturn, 1) := by decide +kernel
theorem dX9_isAhead_0 : decode cX9_isAhead 0 = .ok (.iload_n 0, 1) := by decide +kernel
theorem dX9_isAhead_1 : decode cX9_isAhead 1 = .ok (.iload_n 1, 1) := by decide +kernel
theorem dX9_isAhead_2 : decode cX9_isAhead 2 = .ok (.ixor, 1) := by decide +kernel
theorem dX9_isAhead_3 : decode cX9_isAhead 3 = .ok (.istore_n 2, 1) := by decide +kernel
theorem dX9_isAhead_4 : decode cX9_isAhead 4 = .ok (.iload_n 2, 1) := by decide +kernel
theorem dX9_isAhead_5 : decode cX9_isAhead 5 = .ok (.iload_n 2, 1) := by decide +kernel
theorem dX9_isAhead_6 : decode cX9_isAhead 6 = .ok (.ineg, 1) := by decide +kernel
theorem dX9_isAhead_7 : decode cX9_isAhead 7 = .ok (.iand, 1) := by decide +kernel
theorem dX9_isAhead_8 : decode cX9_isAhead 8 = .ok (.iload_n 0, 1) := by decide +kernel
theorem dX9_isAhead_9 : decode cX9_isAhead 9 = .ok (.iand, 1) := by decide +kernel
theorem dX9_isAhead_10 : decode cX9_isAhead 10 = .ok (.ifCond .eq 7, 3) := by decide +kernel
theorem dX9_isAhead_13 : decode cX9_isAhead 13 = .ok (.iconst 1, 1) := by decide +kernel
theorem dX9_isAhead_14 : decode cX9_isAhead 14 = .ok (.goto 4, 3) := by decide +kernel
theorem dX9_isAhead_17 : decode cX9_isAhead 17 = .ok (.iconst 0, 1) := by decide +kernel
theorem dX9_isAhead_18 : decode cX9_isAhead 18 = .ok (.ireturn, 1) := by decide +kernel
theorem dX9_leastOf_0 : decode cX9_leastOf 0 = .ok (.iconst (-1), 1) := by decide +kernel
theorem dX9_leastOf_1 : decode cX9_leastOf 1 = .ok (.istore_n 2, 1) := by decide +kernel
theorem dX9_leastOf_2 : decode cX9_leastOf 2 = .ok (.iconst 0, 1) := by decide +kernel
theorem dX9_leastOf_3 : decode cX9_leastOf 3 = .ok (.istore_n 3, 1) := by decide +kernel
theorem dX9_leastOf_4 : decode cX9_leastOf 4 = .ok (.iload_n 3, 1) := by decide +kernel
theorem dX9_leastOf_5 : decode cX9_leastOf 5 = .ok (.iconst 1, 1) := by decide +kernel
theorem dX9_leastOf_6 : decode cX9_leastOf 6 = .ok (.aload_n 0, 1) := by decide +kernel
theorem dX9_leastOf_7 : decode cX9_leastOf 7 = .ok (.getfield 101, 3) := by decide +kernel
theorem dX9_leastOf_10 : decode cX9_leastOf 10 = .ok (.ishl, 1) := by decide +kernel
theorem dX9_leastOf_11 : decode cX9_leastOf 11 = .ok (.if_icmp .ge 113, 3) := by decide +kernel
theorem dX9_leastOf_14 : decode cX9_leastOf 14 = .ok (.aload_n 0, 1) := by decide +kernel
theorem dX9_leastOf_15 : decode cX9_leastOf 15 = .ok (.iload_n 3, 1) := by decide +kernel
theorem dX9_leastOf_16 : decode cX9_leastOf 16 = .ok (.invokevirtual 313, 3) := by decide +kernel
theorem dX9_leastOf_19 : decode cX9_leastOf 19 = .ok (.istore 4, 2) := by decide +kernel
theorem dX9_leastOf_21 : decode cX9_leastOf 21 = .ok (.iload_n 2, 1) := by decide +kernel
theorem dX9_leastOf_22 : decode cX9_leastOf 22 = .ok (.ifCond .lt 13, 3) := by decide +kernel
theorem dX9_leastOf_25 : decode cX9_leastOf 25 = .ok (.iload 4, 2) := by decide +kernel
theorem dX9_leastOf_27 : decode cX9_leastOf 27 = .ok (.aload_n 0, 1) := by decide +kernel
theorem dX9_leastOf_28 : decode cX9_leastOf 28 = .ok (.iload_n 2, 1) := by decide +kernel
theorem dX9_leastOf_29 : decode cX9_leastOf 29 = .ok (.invokevirtual 313, 3) := by decide +kernel
theorem dX9_leastOf_32 : decode cX9_leastOf 32 = .ok (.if_icmp .ge 7, 3) := by decide +kernel
theorem dX9_leastOf_35 : decode cX9_leastOf 35 = .ok (.iconst 1, 1) := by decide +kernel
theorem dX9_leastOf_36 : decode cX9_leastOf 36 = .ok (.goto 4, 3) := by decide +kernel
theorem dX9_leastOf_39 : decode cX9_leastOf 39 = .ok (.iconst 0, 1) := by decide +kernel
theorem dX9_leastOf_40 : decode cX9_leastOf 40 = .ok (.istore 5, 2) := by decide +kernel
theorem dX9_leastOf_42 : decode cX9_leastOf 42 = .ok (.iload 5, 2) := by decide +kernel
theorem dX9_leastOf_44 : decode cX9_leastOf 44 = .ok (.ifCond .ne 43, 3) := by decide +kernel
theorem dX9_leastOf_47 : decode cX9_leastOf 47 = .ok (.iload 4, 2) := by decide +kernel
theorem dX9_leastOf_49 : decode cX9_leastOf 49 = .ok (.aload_n 0, 1) := by decide +kernel
theorem dX9_leastOf_50 : decode cX9_leastOf 50 = .ok (.iload_n 2, 1) := by decide +kernel
theorem dX9_leastOf_51 : decode cX9_leastOf 51 = .ok (.invokevirtual 313, 3) := by decide +kernel
theorem dX9_leastOf_54 : decode cX9_leastOf 54 = .ok (.if_icmp .ne 37, 3) := by decide +kernel
theorem dX9_leastOf_57 : decode cX9_leastOf 57 = .ok (.iload_n 3, 1) := by decide +kernel
theorem dX9_leastOf_58 : decode cX9_leastOf 58 = .ok (.invokestatic 303, 3) := by decide +kernel
theorem dX9_leastOf_61 : decode cX9_leastOf 61 = .ok (.iload_n 2, 1) := by decide +kernel
theorem dX9_leastOf_62 : decode cX9_leastOf 62 = .ok (.invokestatic 303, 3) := by decide +kernel
theorem dX9_leastOf_65 : decode cX9_leastOf 65 = .ok (.if_icmp .lt 22, 3) := by decide +kernel
theorem dX9_leastOf_68 : decode cX9_leastOf 68 = .ok (.iload_n 3, 1) := by decide +kernel
theorem dX9_leastOf_69 : decode cX9_leastOf 69 = .ok (.invokestatic 303, 3) := by decide +kernel
theorem dX9_leastOf_72 : decode cX9_leastOf 72 = .ok (.iload_n 2, 1) := by decide +kernel
theorem dX9_leastOf_73 : decode cX9_leastOf 73 = .ok (.invokestatic 303, 3) := by decide +kernel
theorem dX9_leastOf_76 : decode cX9_leastOf 76 = .ok (.if_icmp .ne 15, 3) := by decide +kernel
theorem dX9_leastOf_79 : decode cX9_leastOf 79 = .ok (.iload_n 3, 1) := by decide +kernel
theorem dX9_leastOf_80 : decode cX9_leastOf 80 = .ok (.iload_n 2, 1) := by decide +kernel
theorem dX9_leastOf_81 : decode cX9_leastOf 81 = .ok (.invokestatic 316, 3) := by decide +kernel
theorem dX9_leastOf_84 : decode cX9_leastOf 84 = .ok (.ifCond .eq 7, 3) := by decide +kernel
theorem dX9_leastOf_87 : decode cX9_leastOf 87 = .ok (.iconst 1, 1) := by decide +kernel
theorem dX9_leastOf_88 : decode cX9_leastOf 88 = .ok (.goto 4, 3) := by decide +kernel
theorem dX9_leastOf_91 : decode cX9_leastOf 91 = .ok (.iconst 0, 1) := by decide +kernel
theorem dX9_leastOf_92 : decode cX9_leastOf 92 = .ok (.istore 5, 2) := by decide +kernel
theorem dX9_leastOf_94 : decode cX9_leastOf 94 = .ok (.iload 5, 2) := by decide +kernel
theorem dX9_leastOf_96 : decode cX9_leastOf 96 = .ok (.ifCond .eq 22, 3) := by decide +kernel
theorem dX9_leastOf_99 : decode cX9_leastOf 99 = .ok (.aload_n 0, 1) := by decide +kernel
theorem dX9_leastOf_100 : decode cX9_leastOf 100 = .ok (.iload_n 3, 1) := by decide +kernel
theorem dX9_leastOf_101 : decode cX9_leastOf 101 = .ok (.invokevirtual 319, 3) := by decide +kernel
theorem dX9_leastOf_104 : decode cX9_leastOf 104 = .ok (.ifCond .eq 14, 3) := by decide +kernel
theorem dX9_leastOf_107 : decode cX9_leastOf 107 = .ok (.aload_n 0, 1) := by decide +kernel
theorem dX9_leastOf_108 : decode cX9_leastOf 108 = .ok (.iload_n 1, 1) := by decide +kernel
theorem dX9_leastOf_109 : decode cX9_leastOf 109 = .ok (.iload_n 3, 1) := by decide +kernel
theorem dX9_leastOf_110 : decode cX9_leastOf 110 = .ok (.invokevirtual 158, 3) := by decide +kernel
theorem dX9_leastOf_113 : decode cX9_leastOf 113 = .ok (.ifCond .eq 5, 3) := by decide +kernel
theorem dX9_leastOf_116 : decode cX9_leastOf 116 = .ok (.iload_n 3, 1) := by decide +kernel
theorem dX9_leastOf_117 : decode cX9_leastOf 117 = .ok (.istore_n 2, 1) := by decide +kernel
theorem dX9_leastOf_118 : decode cX9_leastOf 118 = .ok (.iinc 3 1, 3) := by decide +kernel
theorem dX9_leastOf_121 : decode cX9_leastOf 121 = .ok (.goto (-117), 3) := by decide +kernel
theorem dX9_leastOf_124 : decode cX9_leastOf 124 = .ok (.iload_n 2, 1) := by decide +kernel
theorem dX9_leastOf_125 : decode cX9_leastOf 125 = .ok (.ireturn, 1) := by decide +kernel
theorem dX9_least_0 : decode cX9_least 0 = .ok (.iload_n 1, 1) := by decide +kernel
theorem dX9_least_1 : decode cX9_least 1 = .ok (.invokestatic 116, 3) := by decide +kernel
theorem dX9_least_4 : decode cX9_least 4 = .ok (.ifCond .ne 5, 3) := by decide +kernel
theorem dX9_least_7 : decode cX9_least 7 = .ok (.iconst (-1), 1) := by decide +kernel
theorem dX9_least_8 : decode cX9_least 8 = .ok (.ireturn, 1) := by decide +kernel
theorem dX9_least_9 : decode cX9_least 9 = .ok (.aload_n 0, 1) := by decide +kernel
theorem dX9_least_10 : decode cX9_least 10 = .ok (.iload_n 1, 1) := by decide +kernel
theorem dX9_least_11 : decode cX9_least 11 = .ok (.invokevirtual 322, 3) := by decide +kernel
theorem dX9_least_14 : decode cX9_least 14 = .ok (.istore_n 2, 1) := by decide +kernel
theorem dX9_least_15 : decode cX9_least 15 = .ok (.iload_n 2, 1) := by decide +kernel
theorem dX9_least_16 : decode cX9_least 16 = .ok (.ifCond .ge 8, 3) := by decide +kernel
theorem dX9_least_19 : decode cX9_least 19 = .ok (.bipush (-3), 2) := by decide +kernel
theorem dX9_least_21 : decode cX9_least 21 = .ok (.goto 8, 3) := by decide +kernel
theorem dX9_least_24 : decode cX9_least 24 = .ok (.aload_n 0, 1) := by decide +kernel
theorem dX9_least_25 : decode cX9_least 25 = .ok (.iload_n 2, 1) := by decide +kernel
theorem dX9_least_26 : decode cX9_least 26 = .ok (.invokevirtual 313, 3) := by decide +kernel
theorem dX9_least_29 : decode cX9_least 29 = .ok (.ireturn, 1) := by decide +kernel
theorem dX9_leastSet_0 : decode cX9_leastSet 0 = .ok (.iload_n 1, 1) := by decide +kernel
theorem dX9_leastSet_1 : decode cX9_leastSet 1 = .ok (.invokestatic 116, 3) := by decide +kernel
theorem dX9_leastSet_4 : decode cX9_leastSet 4 = .ok (.ifCond .ne 5, 3) := by decide +kernel
theorem dX9_leastSet_7 : decode cX9_leastSet 7 = .ok (.iconst (-1), 1) := by decide +kernel
theorem dX9_leastSet_8 : decode cX9_leastSet 8 = .ok (.ireturn, 1) := by decide +kernel
theorem dX9_leastSet_9 : decode cX9_leastSet 9 = .ok (.aload_n 0, 1) := by decide +kernel
theorem dX9_leastSet_10 : decode cX9_leastSet 10 = .ok (.iload_n 1, 1) := by decide +kernel
theorem dX9_leastSet_11 : decode cX9_leastSet 11 = .ok (.invokevirtual 322, 3) := by decide +kernel
theorem dX9_leastSet_14 : decode cX9_leastSet 14 = .ok (.istore_n 2, 1) := by decide +kernel
theorem dX9_leastSet_15 : decode cX9_leastSet 15 = .ok (.iload_n 2, 1) := by decide +kernel
theorem dX9_leastSet_16 : decode cX9_leastSet 16 = .ok (.ifCond .ge 8, 3) := by decide +kernel
theorem dX9_leastSet_19 : decode cX9_leastSet 19 = .ok (.bipush (-3), 2) := by decide +kernel
theorem dX9_leastSet_21 : decode cX9_leastSet 21 = .ok (.goto 4, 3) := by decide +kernel
theorem dX9_leastSet_24 : decode cX9_leastSet 24 = .ok (.iload_n 2, 1) := by decide +kernel
theorem dX9_leastSet_25 : decode cX9_leastSet 25 = .ok (.ireturn, 1) := by decide +kernel
theorem dX9_risk_0 : decode cX9_risk 0 = .ok (.aload_n 0, 1) := by decide +kernel
theorem dX9_risk_1 : decode cX9_risk 1 = .ok (.iload_n 1, 1) := by decide +kernel
theorem dX9_risk_2 : decode cX9_risk 2 = .ok (.invokevirtual 137, 3) := by decide +kernel
theorem dX9_risk_5 : decode cX9_risk 5 = .ok (.ifCond .ne 5, 3) := by decide +kernel
theorem dX9_risk_8 : decode cX9_risk 8 = .ok (.iconst (-1), 1) := by decide +kernel
theorem dX9_risk_9 : decode cX9_risk 9 = .ok (.ireturn, 1) := by decide +kernel
theorem dX9_risk_10 : decode cX9_risk 10 = .ok (.aload_n 0, 1) := by decide +kernel
theorem dX9_risk_11 : decode cX9_risk 11 = .ok (.invokevirtual 133, 3) := by decide +kernel
theorem dX9_risk_14 : decode cX9_risk 14 = .ok (.iconst 1, 1) := by decide +kernel
theorem dX9_risk_15 : decode cX9_risk 15 = .ok (.iload_n 1, 1) := by decide +kernel
theorem dX9_risk_16 : decode cX9_risk 16 = .ok (.ishl, 1) := by decide +kernel
theorem dX9_risk_17 : decode cX9_risk 17 = .ok (.iconst (-1), 1) := by decide +kernel
theorem dX9_risk_18 : decode cX9_risk 18 = .ok (.ixor, 1) := by decide +kernel
theorem dX9_risk_19 : decode cX9_risk 19 = .ok (.iand, 1) := by decide +kernel
theorem dX9_risk_20 : decode cX9_risk 20 = .ok (.istore_n 2, 1) := by decide +kernel
theorem dX9_risk_21 : decode cX9_risk 21 = .ok (.iconst 0, 1) := by decide +kernel
theorem dX9_risk_22 : decode cX9_risk 22 = .ok (.istore_n 3, 1) := by decide +kernel
theorem dX9_risk_23 : decode cX9_risk 23 = .ok (.iconst 0, 1) := by decide +kernel
theorem dX9_risk_24 : decode cX9_risk 24 = .ok (.istore 4, 2) := by decide +kernel
theorem dX9_risk_26 : decode cX9_risk 26 = .ok (.iload 4, 2) := by decide +kernel
theorem dX9_risk_28 : decode cX9_risk 28 = .ok (.aload_n 0, 1) := by decide +kernel
theorem dX9_risk_29 : decode cX9_risk 29 = .ok (.getfield 113, 3) := by decide +kernel
theorem dX9_risk_32 : decode cX9_risk 32 = .ok (.if_icmp .ge 46, 3) := by decide +kernel
theorem dX9_risk_35 : decode cX9_risk 35 = .ok (.iload_n 3, 1) := by decide +kernel
theorem dX9_risk_36 : decode cX9_risk 36 = .ok (.aload_n 0, 1) := by decide +kernel
theorem dX9_risk_37 : decode cX9_risk 37 = .ok (.getfield 62, 3) := by decide +kernel
theorem dX9_risk_40 : decode cX9_risk 40 = .ok (.iload 4, 2) := by decide +kernel
theorem dX9_risk_42 : decode cX9_risk 42 = .ok (.iaload, 1) := by decide +kernel
theorem dX9_risk_43 : decode cX9_risk 43 = .ok (.iconst 3, 1) := by decide +kernel
theorem dX9_risk_44 : decode cX9_risk 44 = .ok (.if_icmp .ne 25, 3) := by decide +kernel
theorem dX9_risk_47 : decode cX9_risk 47 = .ok (.aload_n 0, 1) := by decide +kernel
theorem dX9_risk_48 : decode cX9_risk 48 = .ok (.aload_n 0, 1) := by decide +kernel
theorem dX9_risk_49 : decode cX9_risk 49 = .ok (.getfield 53, 3) := by decide +kernel
theorem dX9_risk_52 : decode cX9_risk 52 = .ok (.iload 4, 2) := by decide +kernel
theorem dX9_risk_54 : decode cX9_risk 54 = .ok (.iaload, 1) := by decide +kernel
theorem dX9_risk_55 : decode cX9_risk 55 = .ok (.iload_n 2, 1) := by decide +kernel
theorem dX9_risk_56 : decode cX9_risk 56 = .ok (.invokevirtual 158, 3) := by decide +kernel
theorem dX9_risk_59 : decode cX9_risk 59 = .ok (.ifCond .ne 10, 3) := by decide +kernel
theorem dX9_risk_62 : decode cX9_risk 62 = .ok (.iconst 1, 1) := by decide +kernel
theorem dX9_risk_63 : decode cX9_risk 63 = .ok (.iload 4, 2) := by decide +kernel
theorem dX9_risk_65 : decode cX9_risk 65 = .ok (.ishl, 1) := by decide +kernel
theorem dX9_risk_66 : decode cX9_risk 66 = .ok (.goto 4, 3) := by decide +kernel
theorem dX9_risk_69 : decode cX9_risk 69 = .ok (.iconst 0, 1) := by decide +kernel
theorem dX9_risk_70 : decode cX9_risk 70 = .ok (.ior, 1) := by decide +kernel
theorem dX9_risk_71 : decode cX9_risk 71 = .ok (.istore_n 3, 1) := by decide +kernel
theorem dX9_risk_72 : decode cX9_risk 72 = .ok (.iinc 4 1, 3) := by decide +kernel
theorem dX9_risk_75 : decode cX9_risk 75 = .ok (.goto (-49), 3) := by decide +kernel
theorem dX9_risk_78 : decode cX9_risk 78 = .ok (.iload_n 3, 1) := by decide +kernel
theorem dX9_risk_79 : decode cX9_risk 79 = .ok (.ireturn, 1) := by decide +kernel
theorem dX9_right_0 : decode cX9_right 0 = .ok (.aload_n 0, 1) := by decide +kernel
theorem dX9_right_1 : decode cX9_right 1 = .ok (.iload_n 1, 1) := by decide +kernel
theorem dX9_right_2 : decode cX9_right 2 = .ok (.invokevirtual 262, 3) := by decide +kernel
theorem dX9_right_5 : decode cX9_right 5 = .ok (.ifCond .eq 27, 3) := by decide +kernel
theorem dX9_right_8 : decode cX9_right 8 = .ok (.iload_n 2, 1) := by decide +kernel
theorem dX9_right_9 : decode cX9_right 9 = .ok (.iconst 0, 1) := by decide +kernel
theorem dX9_right_10 : decode cX9_right 10 = .ok (.aload_n 0, 1) := by decide +kernel
theorem dX9_right_11 : decode cX9_right 11 = .ok (.getfield 119, 3) := by decide +kernel
theorem dX9_right_14 : decode cX9_right 14 = .ok (.invokestatic 105, 3) := by decide +kernel
theorem dX9_right_17 : decode cX9_right 17 = .ok (.ifCond .eq 15, 3) := by decide +kernel
theorem dX9_right_20 : decode cX9_right 20 = .ok (.iload_n 3, 1) := by decide +kernel
theorem dX9_right_21 : decode cX9_right 21 = .ok (.iconst 0, 1) := by decide +kernel
theorem dX9_right_22 : decode cX9_right 22 = .ok (.aload_n 0, 1) := by decide +kernel
theorem dX9_right_23 : decode cX9_right 23 = .ok (.getfield 119, 3) := by decide +kernel
theorem dX9_right_26 : decode cX9_right 26 = .ok (.invokestatic 105, 3) := by decide +kernel
theorem dX9_right_29 : decode cX9_right 29 = .ok (.ifCond .ne 5, 3) := by decide +kernel
theorem dX9_right_32 : decode cX9_right 32 = .ok (.iconst (-1), 1) := by decide +kernel
theorem dX9_right_33 : decode cX9_right 33 = .ok (.ireturn, 1) := by decide +kernel
theorem dX9_right_34 : decode cX9_right 34 = .ok (.iload_n 2, 1) := by decide +kernel
theorem dX9_right_35 : decode cX9_right 35 = .ok (.aload_n 0, 1) := by decide +kernel
theorem dX9_right_36 : decode cX9_right 36 = .ok (.getfield 119, 3) := by decide +kernel
theorem dX9_right_39 : decode cX9_right 39 = .ok (.if_icmp .ne 10, 3) := by decide +kernel
theorem dX9_right_42 : decode cX9_right 42 = .ok (.aload_n 0, 1) := by decide +kernel
theorem dX9_right_43 : decode cX9_right 43 = .ok (.invokevirtual 165, 3) := by decide +kernel
theorem dX9_right_46 : decode cX9_right 46 = .ok (.goto 9, 3) := by decide +kernel
theorem dX9_right_49 : decode cX9_right 49 = .ok (.aload_n 0, 1) := by decide +kernel
theorem dX9_right_50 : decode cX9_right 50 = .ok (.getfield 80, 3) := by decide +kernel
theorem dX9_right_53 : decode cX9_right 53 = .ok (.iload_n 2, 1) := by decide +kernel
theorem dX9_right_54 : decode cX9_right 54 = .ok (.iaload, 1) := by decide +kernel
theorem dX9_right_55 : decode cX9_right 55 = .ok (.istore 4, 2) := by decide +kernel
theorem dX9_right_57 : decode cX9_right 57 = .ok (.iload_n 2, 1) := by decide +kernel
theorem dX9_right_58 : decode cX9_right 58 = .ok (.aload_n 0, 1) := by decide +kernel
theorem dX9_right_59 : decode cX9_right 59 = .ok (.getfield 119, 3) := by decide +kernel
theorem dX9_right_62 : decode cX9_right 62 = .ok (.if_icmp .ne 10, 3) := by decide +kernel
theorem dX9_right_65 : decode cX9_right 65 = .ok (.aload_n 0, 1) := by decide +kernel
theorem dX9_right_66 : decode cX9_right 66 = .ok (.invokevirtual 133, 3) := by decide +kernel
theorem dX9_right_69 : decode cX9_right 69 = .ok (.goto 9, 3) := by decide +kernel
theorem dX9_right_72 : decode cX9_right 72 = .ok (.aload_n 0, 1) := by decide +kernel
theorem dX9_right_73 : decode cX9_right 73 = .ok (.getfield 77, 3) := by decide +kernel
theorem dX9_right_76 : decode cX9_right 76 = .ok (.iload_n 2, 1) := by decide +kernel
theorem dX9_right_77 : decode cX9_right 77 = .ok (.iaload, 1) := by decide +kernel
theorem dX9_right_78 : decode cX9_right 78 = .ok (.istore 5, 2) := by decide +kernel
theorem dX9_right_80 : decode cX9_right 80 = .ok (.iload 4, 2) := by decide +kernel
theorem dX9_right_82 : decode cX9_right 82 = .ok (.iload_n 1, 1) := by decide +kernel
theorem dX9_right_83 : decode cX9_right 83 = .ok (.invokestatic 125, 3) := by decide +kernel
theorem dX9_right_86 : decode cX9_right 86 = .ok (.ifCond .ne 5, 3) := by decide +kernel
theorem dX9_right_89 : decode cX9_right 89 = .ok (.iconst 2, 1) := by decide +kernel
theorem dX9_right_90 : decode cX9_right 90 = .ok (.ireturn, 1) := by decide +kernel
theorem dX9_right_91 : decode cX9_right 91 = .ok (.aload_n 0, 1) := by decide +kernel
theorem dX9_right_92 : decode cX9_right 92 = .ok (.aload_n 0, 1) := by decide +kernel
theorem dX9_right_93 : decode cX9_right 93 = .ok (.getfield 53, 3) := by decide +kernel
theorem dX9_right_96 : decode cX9_right 96 = .ok (.iload_n 1, 1) := by decide +kernel
theorem dX9_right_97 : decode cX9_right 97 = .ok (.iaload, 1) := by decide +kernel
theorem dX9_right_98 : decode cX9_right 98 = .ok (.iload 5, 2) := by decide +kernel
theorem dX9_right_100 : decode cX9_right 100 = .ok (.iload_n 2, 1) := by decide +kernel
theorem dX9_right_101 : decode cX9_right 101 = .ok (.iload_n 3, 1) := by decide +kernel
theorem dX9_right_102 : decode cX9_right 102 = .ok (.invokevirtual 154, 3) := by decide +kernel
theorem dX9_right_105 : decode cX9_right 105 = .ok (.ifCond .eq 7, 3) := by decide +kernel
theorem dX9_right_108 : decode cX9_right 108 = .ok (.iconst 1, 1) := by decide +kernel
theorem dX9_right_109 : decode cX9_right 109 = .ok (.goto 4, 3) := by decide +kernel
theorem dX9_right_112 : decode cX9_right 112 = .ok (.iconst 0, 1) := by decide +kernel
theorem dX9_right_113 : decode cX9_right 113 = .ok (.ireturn, 1) := by decide +kernel
theorem dX9_asked_0 : decode cX9_asked 0 = .ok (.iconst 0, 1) := by decide +kernel
theorem dX9_asked_1 : decode cX9_asked 1 = .ok (.istore_n 1, 1) := by decide +kernel
theorem dX9_asked_2 : decode cX9_asked 2 = .ok (.iconst 0, 1) := by decide +kernel
theorem dX9_asked_3 : decode cX9_asked 3 = .ok (.istore_n 2, 1) := by decide +kernel
theorem dX9_asked_4 : decode cX9_asked 4 = .ok (.iload_n 2, 1) := by decide +kernel
theorem dX9_asked_5 : decode cX9_asked 5 = .ok (.aload_n 0, 1) := by decide +kernel
theorem dX9_asked_6 : decode cX9_asked 6 = .ok (.getfield 113, 3) := by decide +kernel
theorem dX9_asked_9 : decode cX9_asked 9 = .ok (.if_icmp .ge 28, 3) := by decide +kernel
theorem dX9_asked_12 : decode cX9_asked 12 = .ok (.iload_n 1, 1) := by decide +kernel
theorem dX9_asked_13 : decode cX9_asked 13 = .ok (.aload_n 0, 1) := by decide +kernel
theorem dX9_asked_14 : decode cX9_asked 14 = .ok (.getfield 62, 3) := by decide +kernel
theorem dX9_asked_17 : decode cX9_asked 17 = .ok (.iload_n 2, 1) := by decide +kernel
theorem dX9_asked_18 : decode cX9_asked 18 = .ok (.iaload, 1) := by decide +kernel
theorem dX9_asked_19 : decode cX9_asked 19 = .ok (.ifCond .ne 9, 3) := by decide +kernel
theorem dX9_asked_22 : decode cX9_asked 22 = .ok (.iconst 1, 1) := by decide +kernel
theorem dX9_asked_23 : decode cX9_asked 23 = .ok (.iload_n 2, 1) := by decide +kernel
theorem dX9_asked_24 : decode cX9_asked 24 = .ok (.ishl, 1) := by decide +kernel
theorem dX9_asked_25 : decode cX9_asked 25 = .ok (.goto 4, 3) := by decide +kernel
theorem dX9_asked_28 : decode cX9_asked 28 = .ok (.iconst 0, 1) := by decide +kernel
theorem dX9_asked_29 : decode cX9_asked 29 = .ok (.ior, 1) := by decide +kernel
theorem dX9_asked_30 : decode cX9_asked 30 = .ok (.istore_n 1, 1) := by decide +kernel
theorem dX9_asked_31 : decode cX9_asked 31 = .ok (.iinc 2 1, 3) := by decide +kernel
theorem dX9_asked_34 : decode cX9_asked 34 = .ok (.goto (-30), 3) := by decide +kernel
theorem dX9_asked_37 : decode cX9_asked 37 = .ok (.iload_n 1, 1) := by decide +kernel
theorem dX9_asked_38 : decode cX9_asked 38 = .ok (.ireturn, 1) := by decide +kernel
theorem dX9_moves_0 : decode cX9_moves 0 = .ok (.iload_n 1, 1) := by decide +kernel
theorem dX9_moves_1 : decode cX9_moves 1 = .ok (.ifCond .ge 7, 3) := by decide +kernel
theorem dX9_moves_4 : decode cX9_moves 4 = .ok (.iconst 0, 1) := by decide +kernel
theorem dX9_moves_5 : decode cX9_moves 5 = .ok (.goto 16, 3) := by decide +kernel
theorem dX9_moves_8 : decode cX9_moves 8 = .ok (.aload_n 0, 1) := by decide +kernel
theorem dX9_moves_9 : decode cX9_moves 9 = .ok (.getfield 59, 3) := by decide +kernel
theorem dX9_moves_12 : decode cX9_moves 12 = .ok (.iload_n 1, 1) := by decide +kernel
theorem dX9_moves_13 : decode cX9_moves 13 = .ok (.iaload, 1) := by decide +kernel
theorem dX9_moves_14 : decode cX9_moves 14 = .ok (.aload_n 0, 1) := by decide +kernel
theorem dX9_moves_15 : decode cX9_moves 15 = .ok (.getfield 325, 3) := by decide +kernel
theorem dX9_moves_18 : decode cX9_moves 18 = .ok (.iconst (-1), 1) := by decide +kernel
theorem dX9_moves_19 : decode cX9_moves 19 = .ok (.ixor, 1) := by decide +kernel
theorem dX9_moves_20 : decode cX9_moves 20 = .ok (.iand, 1) := by decide +kernel
theorem dX9_moves_21 : decode cX9_moves 21 = .ok (.istore_n 3, 1) := by decide +kernel
theorem dX9_moves_22 : decode cX9_moves 22 = .ok (.iload_n 2, 1) := by decide +kernel
theorem dX9_moves_23 : decode cX9_moves 23 = .ok (.ifCond .ge 7, 3) := by decide +kernel
theorem dX9_moves_26 : decode cX9_moves 26 = .ok (.iconst 0, 1) := by decide +kernel
theorem dX9_moves_27 : decode cX9_moves 27 = .ok (.goto 16, 3) := by decide +kernel
theorem dX9_moves_30 : decode cX9_moves 30 = .ok (.aload_n 0, 1) := by decide +kernel
theorem dX9_moves_31 : decode cX9_moves 31 = .ok (.getfield 59, 3) := by decide +kernel
theorem dX9_moves_34 : decode cX9_moves 34 = .ok (.iload_n 2, 1) := by decide +kernel
theorem dX9_moves_35 : decode cX9_moves 35 = .ok (.iaload, 1) := by decide +kernel
theorem dX9_moves_36 : decode cX9_moves 36 = .ok (.aload_n 0, 1) := by decide +kernel
theorem dX9_moves_37 : decode cX9_moves 37 = .ok (.getfield 325, 3) := by decide +kernel
theorem dX9_moves_40 : decode cX9_moves 40 = .ok (.iconst (-1), 1) := by decide +kernel
theorem dX9_moves_41 : decode cX9_moves 41 = .ok (.ixor, 1) := by decide +kernel
theorem dX9_moves_42 : decode cX9_moves 42 = .ok (.iand, 1) := by decide +kernel
theorem dX9_moves_43 : decode cX9_moves 43 = .ok (.istore 4, 2) := by decide +kernel
theorem dX9_moves_45 : decode cX9_moves 45 = .ok (.iload_n 3, 1) := by decide +kernel
theorem dX9_moves_46 : decode cX9_moves 46 = .ok (.iload 4, 2) := by decide +kernel
theorem dX9_moves_48 : decode cX9_moves 48 = .ok (.ixor, 1) := by decide +kernel
theorem dX9_moves_49 : decode cX9_moves 49 = .ok (.invokestatic 303, 3) := by decide +kernel
theorem dX9_moves_52 : decode cX9_moves 52 = .ok (.ireturn, 1) := by decide +kernel
theorem dX9_findRest_0 : decode cX9_findRest 0 = .ok (.iload_n 1, 1) := by decide +kernel
theorem dX9_findRest_1 : decode cX9_findRest 1 = .ok (.istore_n 2, 1) := by decide +kernel
theorem dX9_findRest_2 : decode cX9_findRest 2 = .ok (.iload_n 2, 1) := by decide +kernel
theorem dX9_findRest_3 : decode cX9_findRest 3 = .ok (.ifCond .le 150, 3) := by decide +kernel
theorem dX9_findRest_6 : decode cX9_findRest 6 = .ok (.iconst 0, 1) := by decide +kernel
theorem dX9_findRest_7 : decode cX9_findRest 7 = .ok (.istore_n 3, 1) := by decide +kernel
theorem dX9_findRest_8 : decode cX9_findRest 8 = .ok (.iload_n 3, 1) := by decide +kernel
theorem dX9_findRest_9 : decode cX9_findRest 9 = .ok (.aload_n 0, 1) := by decide +kernel
theorem dX9_findRest_10 : decode cX9_findRest 10 = .ok (.getfield 113, 3) := by decide +kernel
theorem dX9_findRest_13 : decode cX9_findRest 13 = .ok (.if_icmp .ge 134, 3) := by decide +kernel
theorem dX9_findRest_16 : decode cX9_findRest 16 = .ok (.iload_n 2, 1) := by decide +kernel
theorem dX9_findRest_17 : decode cX9_findRest 17 = .ok (.iload_n 1, 1) := by decide +kernel
theorem dX9_findRest_18 : decode cX9_findRest 18 = .ok (.iconst (-1), 1) := by decide +kernel
theorem dX9_findRest_19 : decode cX9_findRest 19 = .ok (.ixor, 1) := by decide +kernel
theorem dX9_findRest_20 : decode cX9_findRest 20 = .ok (.iand, 1) := by decide +kernel
theorem dX9_findRest_21 : decode cX9_findRest 21 = .ok (.ifCond .ne 120, 3) := by decide +kernel
theorem dX9_findRest_24 : decode cX9_findRest 24 = .ok (.iload_n 2, 1) := by decide +kernel
theorem dX9_findRest_25 : decode cX9_findRest 25 = .ok (.iload_n 3, 1) := by decide +kernel
theorem dX9_findRest_26 : decode cX9_findRest 26 = .ok (.invokestatic 125, 3) := by decide +kernel
theorem dX9_findRest_29 : decode cX9_findRest 29 = .ok (.ifCond .ne 6, 3) := by decide +kernel
theorem dX9_findRest_32 : decode cX9_findRest 32 = .ok (.goto 109, 3) := by decide +kernel
theorem dX9_findRest_35 : decode cX9_findRest 35 = .ok (.iload_n 2, 1) := by decide +kernel
theorem dX9_findRest_36 : decode cX9_findRest 36 = .ok (.iload_n 1, 1) := by decide +kernel
theorem dX9_findRest_37 : decode cX9_findRest 37 = .ok (.if_icmp .ne 12, 3) := by decide +kernel
theorem dX9_findRest_40 : decode cX9_findRest 40 = .ok (.aload_n 0, 1) := by decide +kernel
theorem dX9_findRest_41 : decode cX9_findRest 41 = .ok (.iload_n 3, 1) := by decide +kernel
theorem dX9_findRest_42 : decode cX9_findRest 42 = .ok (.iconst (-1), 1) := by decide +kernel
theorem dX9_findRest_43 : decode cX9_findRest 43 = .ok (.invokevirtual 328, 3) := by decide +kernel
theorem dX9_findRest_46 : decode cX9_findRest 46 = .ok (.goto 6, 3) := by decide +kernel
theorem dX9_findRest_49 : decode cX9_findRest 49 = .ok (.sipush 1000, 3) := by decide +kernel
theorem dX9_findRest_52 : decode cX9_findRest 52 = .ok (.istore 4, 2) := by decide +kernel
theorem dX9_findRest_54 : decode cX9_findRest 54 = .ok (.iconst 0, 1) := by decide +kernel
theorem dX9_findRest_55 : decode cX9_findRest 55 = .ok (.istore 5, 2) := by decide +kernel
theorem dX9_findRest_57 : decode cX9_findRest 57 = .ok (.iload 5, 2) := by decide +kernel
theorem dX9_findRest_59 : decode cX9_findRest 59 = .ok (.aload_n 0, 1) := by decide +kernel
theorem dX9_findRest_60 : decode cX9_findRest 60 = .ok (.getfield 113, 3) := by decide +kernel
theorem dX9_findRest_63 : decode cX9_findRest 63 = .ok (.if_icmp .ge 65, 3) := by decide +kernel
theorem dX9_findRest_66 : decode cX9_findRest 66 = .ok (.iload_n 1, 1) := by decide +kernel
theorem dX9_findRest_67 : decode cX9_findRest 67 = .ok (.iload_n 2, 1) := by decide +kernel
theorem dX9_findRest_68 : decode cX9_findRest 68 = .ok (.iconst (-1), 1) := by decide +kernel
theorem dX9_findRest_69 : decode cX9_findRest 69 = .ok (.ixor, 1) := by decide +kernel
theorem dX9_findRest_70 : decode cX9_findRest 70 = .ok (.iand, 1) := by decide +kernel
theorem dX9_findRest_71 : decode cX9_findRest 71 = .ok (.iload 5, 2) := by decide +kernel
theorem dX9_findRest_73 : decode cX9_findRest 73 = .ok (.invokestatic 125, 3) := by decide +kernel
theorem dX9_findRest_76 : decode cX9_findRest 76 = .ok (.ifCond .eq 46, 3) := by decide +kernel
theorem dX9_findRest_79 : decode cX9_findRest 79 = .ok (.aload_n 0, 1) := by decide +kernel
theorem dX9_findRest_80 : decode cX9_findRest 80 = .ok (.iload_n 3, 1) := by decide +kernel
theorem dX9_findRest_81 : decode cX9_findRest 81 = .ok (.iload 5, 2) := by decide +kernel
theorem dX9_findRest_83 : decode cX9_findRest 83 = .ok (.invokevirtual 328, 3) := by decide +kernel
theorem dX9_findRest_86 : decode cX9_findRest 86 = .ok (.aload_n 0, 1) := by decide +kernel
theorem dX9_findRest_87 : decode cX9_findRest 87 = .ok (.getfield 89, 3) := by decide +kernel
theorem dX9_findRest_90 : decode cX9_findRest 90 = .ok (.bipush 7, 2) := by decide +kernel
theorem dX9_findRest_92 : decode cX9_findRest 92 = .ok (.iload_n 2, 1) := by decide +kernel
theorem dX9_findRest_93 : decode cX9_findRest 93 = .ok (.iconst 1, 1) := by decide +kernel
theorem dX9_findRest_94 : decode cX9_findRest 94 = .ok (.iload 5, 2) := by decide +kernel
theorem dX9_findRest_96 : decode cX9_findRest 96 = .ok (.ishl, 1) := by decide +kernel
theorem dX9_findRest_97 : decode cX9_findRest 97 = .ok (.ior, 1) := by decide +kernel
theorem dX9_findRest_98 : decode cX9_findRest 98 = .ok (.imul, 1) := by decide +kernel
theorem dX9_findRest_99 : decode cX9_findRest 99 = .ok (.iload 5, 2) := by decide +kernel
theorem dX9_findRest_101 : decode cX9_findRest 101 = .ok (.iadd, 1) := by decide +kernel
theorem dX9_findRest_102 : decode cX9_findRest 102 = .ok (.iaload, 1) := by decide +kernel
theorem dX9_findRest_103 : decode cX9_findRest 103 = .ok (.iadd, 1) := by decide +kernel
theorem dX9_findRest_104 : decode cX9_findRest 104 = .ok (.istore 6, 2) := by decide +kernel
theorem dX9_findRest_106 : decode cX9_findRest 106 = .ok (.iload 6, 2) := by decide +kernel
theorem dX9_findRest_108 : decode cX9_findRest 108 = .ok (.iload 4, 2) := by decide +kernel
theorem dX9_findRest_110 : decode cX9_findRest 110 = .ok (.if_icmp .ge 8, 3) := by decide +kernel
theorem dX9_findRest_113 : decode cX9_findRest 113 = .ok (.iload 6, 2) := by decide +kernel
theorem dX9_findRest_115 : decode cX9_findRest 115 = .ok (.goto 5, 3) := by decide +kernel
theorem dX9_findRest_118 : decode cX9_findRest 118 = .ok (.iload 4, 2) := by decide +kernel
theorem dX9_findRest_120 : decode cX9_findRest 120 = .ok (.istore 4, 2) := by decide +kernel
theorem dX9_findRest_122 : decode cX9_findRest 122 = .ok (.iinc 5 1, 3) := by decide +kernel
theorem dX9_findRest_125 : decode cX9_findRest 125 = .ok (.goto (-68), 3) := by decide +kernel
theorem dX9_findRest_128 : decode cX9_findRest 128 = .ok (.aload_n 0, 1) := by decide +kernel
theorem dX9_findRest_129 : decode cX9_findRest 129 = .ok (.getfield 89, 3) := by decide +kernel
theorem dX9_findRest_132 : decode cX9_findRest 132 = .ok (.bipush 7, 2) := by decide +kernel
theorem dX9_findRest_134 : decode cX9_findRest 134 = .ok (.iload_n 2, 1) := by decide +kernel
theorem dX9_findRest_135 : decode cX9_findRest 135 = .ok (.imul, 1) := by decide +kernel
theorem dX9_findRest_136 : decode cX9_findRest 136 = .ok (.iload_n 3, 1) := by decide +kernel
theorem dX9_findRest_137 : decode cX9_findRest 137 = .ok (.iadd, 1) := by decide +kernel
theorem dX9_findRest_138 : decode cX9_findRest 138 = .ok (.iload 4, 2) := by decide +kernel
theorem dX9_findRest_140 : decode cX9_findRest 140 = .ok (.iastore, 1) := by decide +kernel
theorem dX9_findRest_141 : decode cX9_findRest 141 = .ok (.iinc 3 1, 3) := by decide +kernel
theorem dX9_findRest_144 : decode cX9_findRest 144 = .ok (.goto (-136), 3) := by decide +kernel
theorem dX9_findRest_147 : decode cX9_findRest 147 = .ok (.iinc 2 (-1), 3) := by decide +kernel
theorem dX9_findRest_150 : decode cX9_findRest 150 = .ok (.goto (-148), 3) := by decide +kernel
theorem dX9_findRest_153 : decode cX9_findRest 153 = .ok (.return_, 1) := by decide +kernel
theorem dX9_order_0 : decode cX9_order 0 = .ok (.aload_n 0, 1) := by decide +kernel
theorem dX9_order_1 : decode cX9_order 1 = .ok (.invokevirtual 331, 3) := by decide +kernel
theorem dX9_order_4 : decode cX9_order 4 = .ok (.istore_n 1, 1) := by decide +kernel
theorem dX9_order_5 : decode cX9_order 5 = .ok (.aload_n 0, 1) := by decide +kernel
theorem dX9_order_6 : decode cX9_order 6 = .ok (.aload_n 0, 1) := by decide +kernel
theorem dX9_order_7 : decode cX9_order 7 = .ok (.invokevirtual 133, 3) := by decide +kernel
theorem dX9_order_10 : decode cX9_order 10 = .ok (.putfield 325, 3) := by decide +kernel
theorem dX9_order_13 : decode cX9_order 13 = .ok (.aload_n 0, 1) := by decide +kernel
theorem dX9_order_14 : decode cX9_order 14 = .ok (.iload_n 1, 1) := by decide +kernel
theorem dX9_order_15 : decode cX9_order 15 = .ok (.invokevirtual 334, 3) := by decide +kernel
theorem dX9_order_18 : decode cX9_order 18 = .ok (.aload_n 0, 1) := by decide +kernel
theorem dX9_order_19 : decode cX9_order 19 = .ok (.iconst 0, 1) := by decide +kernel
theorem dX9_order_20 : decode cX9_order 20 = .ok (.putfield 337, 3) := by decide +kernel
theorem dX9_order_23 : decode cX9_order 23 = .ok (.aload_n 0, 1) := by decide +kernel
theorem dX9_order_24 : decode cX9_order 24 = .ok (.iconst 0, 1) := by decide +kernel
theorem dX9_order_25 : decode cX9_order 25 = .ok (.putfield 340, 3) := by decide +kernel
theorem dX9_order_28 : decode cX9_order 28 = .ok (.aload_n 0, 1) := by decide +kernel
theorem dX9_order_29 : decode cX9_order 29 = .ok (.iconst 1, 1) := by decide +kernel
theorem dX9_order_30 : decode cX9_order 30 = .ok (.putfield 343, 3) := by decide +kernel
theorem dX9_order_33 : decode cX9_order 33 = .ok (.iconst 0, 1) := by decide +kernel
theorem dX9_order_34 : decode cX9_order 34 = .ok (.istore_n 2, 1) := by decide +kernel
theorem dX9_order_35 : decode cX9_order 35 = .ok (.iconst (-1), 1) := by decide +kernel
theorem dX9_order_36 : decode cX9_order 36 = .ok (.istore_n 3, 1) := by decide +kernel
theorem dX9_order_37 : decode cX9_order 37 = .ok (.iconst 0, 1) := by decide +kernel
theorem dX9_order_38 : decode cX9_order 38 = .ok (.istore 4, 2) := by decide +kernel
theorem dX9_order_40 : decode cX9_order 40 = .ok (.iconst 0, 1) := by decide +kernel
theorem dX9_order_41 : decode cX9_order 41 = .ok (.istore 5, 2) := by decide +kernel
theorem dX9_order_43 : decode cX9_order 43 = .ok (.iload_n 2, 1) := by decide +kernel
theorem dX9_order_44 : decode cX9_order 44 = .ok (.iload_n 1, 1) := by decide +kernel
theorem dX9_order_45 : decode cX9_order 45 = .ok (.if_icmp .eq 209, 3) := by decide +kernel
theorem dX9_order_48 : decode cX9_order 48 = .ok (.iconst (-1), 1) := by decide +kernel
theorem dX9_order_49 : decode cX9_order 49 = .ok (.istore 6, 2) := by decide +kernel
theorem dX9_order_51 : decode cX9_order 51 = .ok (.sipush 1000, 3) := by decide +kernel
theorem dX9_order_54 : decode cX9_order 54 = .ok (.istore 7, 2) := by decide +kernel
theorem dX9_order_56 : decode cX9_order 56 = .ok (.iconst 0, 1) := by decide +kernel
theorem dX9_order_57 : decode cX9_order 57 = .ok (.istore 8, 2) := by decide +kernel
theorem dX9_order_59 : decode cX9_order 59 = .ok (.iload 8, 2) := by decide +kernel
theorem dX9_order_61 : decode cX9_order 61 = .ok (.aload_n 0, 1) := by decide +kernel
theorem dX9_order_62 : decode cX9_order 62 = .ok (.getfield 113, 3) := by decide +kernel
theorem dX9_order_65 : decode cX9_order 65 = .ok (.if_icmp .ge 139, 3) := by decide +kernel
theorem dX9_order_68 : decode cX9_order 68 = .ok (.iload_n 1, 1) := by decide +kernel
theorem dX9_order_69 : decode cX9_order 69 = .ok (.iload_n 2, 1) := by decide +kernel
theorem dX9_order_70 : decode cX9_order 70 = .ok (.iconst (-1), 1) := by decide +kernel
theorem dX9_order_71 : decode cX9_order 71 = .ok (.ixor, 1) := by decide +kernel
theorem dX9_order_72 : decode cX9_order 72 = .ok (.iand, 1) := by decide +kernel
theorem dX9_order_73 : decode cX9_order 73 = .ok (.iload 8, 2) := by decide +kernel
theorem dX9_order_75 : decode cX9_order 75 = .ok (.invokestatic 125, 3) := by decide +kernel
theorem dX9_order_78 : decode cX9_order 78 = .ok (.ifCond .eq 120, 3) := by decide +kernel
theorem dX9_order_81 : decode cX9_order 81 = .ok (.iload 4, 2) := by decide +kernel
theorem dX9_order_83 : decode cX9_order 83 = .ok (.aload_n 0, 1) := by decide +kernel
theorem dX9_order_84 : decode cX9_order 84 = .ok (.iload_n 3, 1) := by decide +kernel
theorem dX9_order_85 : decode cX9_order 85 = .ok (.iload 8, 2) := by decide +kernel
theorem dX9_order_87 : decode cX9_order 87 = .ok (.invokevirtual 328, 3) := by decide +kernel
theorem dX9_order_90 : decode cX9_order 90 = .ok (.iadd, 1) := by decide +kernel
theorem dX9_order_91 : decode cX9_order 91 = .ok (.aload_n 0, 1) := by decide +kernel
theorem dX9_order_92 : decode cX9_order 92 = .ok (.getfield 89, 3) := by decide +kernel
theorem dX9_order_95 : decode cX9_order 95 = .ok (.bipush 7, 2) := by decide +kernel
theorem dX9_order_97 : decode cX9_order 97 = .ok (.iload_n 2, 1) := by decide +kernel
theorem dX9_order_98 : decode cX9_order 98 = .ok (.iconst 1, 1) := by decide +kernel
theorem dX9_order_99 : decode cX9_order 99 = .ok (.iload 8, 2) := by decide +kernel
theorem dX9_order_101 : decode cX9_order 101 = .ok (.ishl, 1) := by decide +kernel
theorem dX9_order_102 : decode cX9_order 102 = .ok (.ior, 1) := by decide +kernel
theorem dX9_order_103 : decode cX9_order 103 = .ok (.imul, 1) := by decide +kernel
theorem dX9_order_104 : decode cX9_order 104 = .ok (.iload 8, 2) := by decide +kernel
theorem dX9_order_106 : decode cX9_order 106 = .ok (.iadd, 1) := by decide +kernel
theorem dX9_order_107 : decode cX9_order 107 = .ok (.iaload, 1) := by decide +kernel
theorem dX9_order_108 : decode cX9_order 108 = .ok (.iadd, 1) := by decide +kernel
theorem dX9_order_109 : decode cX9_order 109 = .ok (.istore 9, 2) := by decide +kernel
theorem dX9_order_111 : decode cX9_order 111 = .ok (.aload_n 0, 1) := by decide +kernel
theorem dX9_order_112 : decode cX9_order 112 = .ok (.getfield 95, 3) := by decide +kernel
theorem dX9_order_115 : decode cX9_order 115 = .ok (.iconst 3, 1) := by decide +kernel
theorem dX9_order_116 : decode cX9_order 116 = .ok (.aload_n 0, 1) := by decide +kernel
theorem dX9_order_117 : decode cX9_order 117 = .ok (.getfield 340, 3) := by decide +kernel
theorem dX9_order_120 : decode cX9_order 120 = .ok (.imul, 1) := by decide +kernel
theorem dX9_order_121 : decode cX9_order 121 = .ok (.aload_n 0, 1) := by decide +kernel
theorem dX9_order_122 : decode cX9_order 122 = .ok (.getfield 337, 3) := by decide +kernel
theorem dX9_order_125 : decode cX9_order 125 = .ok (.iastore, 1) := by decide +kernel
theorem dX9_order_126 : decode cX9_order 126 = .ok (.aload_n 0, 1) := by decide +kernel
theorem dX9_order_127 : decode cX9_order 127 = .ok (.getfield 95, 3) := by decide +kernel
theorem dX9_order_130 : decode cX9_order 130 = .ok (.iconst 3, 1) := by decide +kernel
theorem dX9_order_131 : decode cX9_order 131 = .ok (.aload_n 0, 1) := by decide +kernel
theorem dX9_order_132 : decode cX9_order 132 = .ok (.getfield 340, 3) := by decide +kernel
theorem dX9_order_135 : decode cX9_order 135 = .ok (.imul, 1) := by decide +kernel
theorem dX9_order_136 : decode cX9_order 136 = .ok (.iconst 1, 1) := by decide +kernel
theorem dX9_order_137 : decode cX9_order 137 = .ok (.iadd, 1) := by decide +kernel
theorem dX9_order_138 : decode cX9_order 138 = .ok (.iload 8, 2) := by decide +kernel
theorem dX9_order_140 : decode cX9_order 140 = .ok (.iastore, 1) := by decide +kernel
theorem dX9_order_141 : decode cX9_order 141 = .ok (.aload_n 0, 1) := by decide +kernel
theorem dX9_order_142 : decode cX9_order 142 = .ok (.getfield 95, 3) := by decide +kernel
theorem dX9_order_145 : decode cX9_order 145 = .ok (.iconst 3, 1) := by decide +kernel
theorem dX9_order_146 : decode cX9_order 146 = .ok (.aload_n 0, 1) := by decide +kernel
theorem dX9_order_147 : decode cX9_order 147 = .ok (.getfield 340, 3) := by decide +kernel
theorem dX9_order_150 : decode cX9_order 150 = .ok (.imul, 1) := by decide +kernel
theorem dX9_order_151 : decode cX9_order 151 = .ok (.iconst 2, 1) := by decide +kernel
theorem dX9_order_152 : decode cX9_order 152 = .ok (.iadd, 1) := by decide +kernel
theorem dX9_order_153 : decode cX9_order 153 = .ok (.iload 9, 2) := by decide +kernel
theorem dX9_order_155 : decode cX9_order 155 = .ok (.iastore, 1) := by decide +kernel
theorem dX9_order_156 : decode cX9_order 156 = .ok (.aload_n 0, 1) := by decide +kernel
theorem dX9_order_157 : decode cX9_order 157 = .ok (.dup, 1) := by decide +kernel
theorem dX9_order_158 : decode cX9_order 158 = .ok (.getfield 340, 3) := by decide +kernel
theorem dX9_order_161 : decode cX9_order 161 = .ok (.iconst 1, 1) := by decide +kernel
theorem dX9_order_162 : decode cX9_order 162 = .ok (.iadd, 1) := by decide +kernel
theorem dX9_order_163 : decode cX9_order 163 = .ok (.putfield 340, 3) := by decide +kernel
theorem dX9_order_166 : decode cX9_order 166 = .ok (.iload 9, 2) := by decide +kernel
theorem dX9_order_168 : decode cX9_order 168 = .ok (.iload 7, 2) := by decide +kernel
theorem dX9_order_170 : decode cX9_order 170 = .ok (.if_icmp .ge 8, 3) := by decide +kernel
theorem dX9_order_173 : decode cX9_order 173 = .ok (.iload 8, 2) := by decide +kernel
theorem dX9_order_175 : decode cX9_order 175 = .ok (.goto 5, 3) := by decide +kernel
theorem dX9_order_178 : decode cX9_order 178 = .ok (.iload 6, 2) := by decide +kernel
theorem dX9_order_180 : decode cX9_order 180 = .ok (.istore 6, 2) := by decide +kernel
theorem dX9_order_182 : decode cX9_order 182 = .ok (.iload 9, 2) := by decide +kernel
theorem dX9_order_184 : decode cX9_order 184 = .ok (.iload 7, 2) := by decide +kernel
theorem dX9_order_186 : decode cX9_order 186 = .ok (.if_icmp .ge 8, 3) := by decide +kernel
theorem dX9_order_189 : decode cX9_order 189 = .ok (.iload 9, 2) := by decide +kernel
theorem dX9_order_191 : decode cX9_order 191 = .ok (.goto 5, 3) := by decide +kernel
theorem dX9_order_194 : decode cX9_order 194 = .ok (.iload 7, 2) := by decide +kernel
theorem dX9_order_196 : decode cX9_order 196 = .ok (.istore 7, 2) := by decide +kernel
theorem dX9_order_198 : decode cX9_order 198 = .ok (.iinc 8 1, 3) := by decide +kernel
theorem dX9_order_201 : decode cX9_order 201 = .ok (.goto (-142), 3) := by decide +kernel
theorem dX9_order_204 : decode cX9_order 204 = .ok (.iload 7, 2) := by decide +kernel
theorem dX9_order_206 : decode cX9_order 206 = .ok (.istore 5, 2) := by decide +kernel
theorem dX9_order_208 : decode cX9_order 208 = .ok (.iload 4, 2) := by decide +kernel
theorem dX9_order_210 : decode cX9_order 210 = .ok (.aload_n 0, 1) := by decide +kernel
theorem dX9_order_211 : decode cX9_order 211 = .ok (.iload_n 3, 1) := by decide +kernel
theorem dX9_order_212 : decode cX9_order 212 = .ok (.iload 6, 2) := by decide +kernel
theorem dX9_order_214 : decode cX9_order 214 = .ok (.invokevirtual 328, 3) := by decide +kernel
theorem dX9_order_217 : decode cX9_order 217 = .ok (.iadd, 1) := by decide +kernel
theorem dX9_order_218 : decode cX9_order 218 = .ok (.istore 4, 2) := by decide +kernel
theorem dX9_order_220 : decode cX9_order 220 = .ok (.aload_n 0, 1) := by decide +kernel
theorem dX9_order_221 : decode cX9_order 221 = .ok (.getfield 92, 3) := by decide +kernel
theorem dX9_order_224 : decode cX9_order 224 = .ok (.aload_n 0, 1) := by decide +kernel
theorem dX9_order_225 : decode cX9_order 225 = .ok (.getfield 337, 3) := by decide +kernel
theorem dX9_order_228 : decode cX9_order 228 = .ok (.iload 6, 2) := by decide +kernel
theorem dX9_order_230 : decode cX9_order 230 = .ok (.iastore, 1) := by decide +kernel
theorem dX9_order_231 : decode cX9_order 231 = .ok (.aload_n 0, 1) := by decide +kernel
theorem dX9_order_232 : decode cX9_order 232 = .ok (.dup, 1) := by decide +kernel
theorem dX9_order_233 : decode cX9_order 233 = .ok (.getfield 337, 3) := by decide +kernel
theorem dX9_order_236 : decode cX9_order 236 = .ok (.iconst 1, 1) := by decide +kernel
theorem dX9_order_237 : decode cX9_order 237 = .ok (.iadd, 1) := by decide +kernel
theorem dX9_order_238 : decode cX9_order 238 = .ok (.putfield 337, 3) := by decide +kernel
theorem dX9_order_241 : decode cX9_order 241 = .ok (.iload_n 2, 1) := by decide +kernel
theorem dX9_order_242 : decode cX9_order 242 = .ok (.iconst 1, 1) := by decide +kernel
theorem dX9_order_243 : decode cX9_order 243 = .ok (.iload 6, 2) := by decide +kernel
theorem dX9_order_245 : decode cX9_order 245 = .ok (.ishl, 1) := by decide +kernel
theorem dX9_order_246 : decode cX9_order 246 = .ok (.ior, 1) := by decide +kernel
theorem dX9_order_247 : decode cX9_order 247 = .ok (.istore_n 2, 1) := by decide +kernel
theorem dX9_order_248 : decode cX9_order 248 = .ok (.iload 6, 2) := by decide +kernel
theorem dX9_order_250 : decode cX9_order 250 = .ok (.istore_n 3, 1) := by decide +kernel
theorem dX9_order_251 : decode cX9_order 251 = .ok (.goto (-208), 3) := by decide +kernel
theorem dX9_order_254 : decode cX9_order 254 = .ok (.aload_n 0, 1) := by decide +kernel
theorem dX9_order_255 : decode cX9_order 255 = .ok (.aload_n 0, 1) := by decide +kernel
theorem dX9_order_256 : decode cX9_order 256 = .ok (.getfield 340, 3) := by decide +kernel
theorem dX9_order_259 : decode cX9_order 259 = .ok (.putfield 347, 3) := by decide +kernel
theorem dX9_order_262 : decode cX9_order 262 = .ok (.iconst 0, 1) := by decide +kernel
theorem dX9_order_263 : decode cX9_order 263 = .ok (.istore 6, 2) := by decide +kernel
theorem dX9_order_265 : decode cX9_order 265 = .ok (.iload 6, 2) := by decide +kernel
theorem dX9_order_267 : decode cX9_order 267 = .ok (.iconst 3, 1) := by decide +kernel
theorem dX9_order_268 : decode cX9_order 268 = .ok (.aload_n 0, 1) := by decide +kernel
theorem dX9_order_269 : decode cX9_order 269 = .ok (.getfield 340, 3) := by decide +kernel
theorem dX9_order_272 : decode cX9_order 272 = .ok (.imul, 1) := by decide +kernel
theorem dX9_order_273 : decode cX9_order 273 = .ok (.if_icmp .ge 23, 3) := by decide +kernel
theorem dX9_order_276 : decode cX9_order 276 = .ok (.aload_n 0, 1) := by decide +kernel
theorem dX9_order_277 : decode cX9_order 277 = .ok (.getfield 98, 3) := by decide +kernel
theorem dX9_order_280 : decode cX9_order 280 = .ok (.iload 6, 2) := by decide +kernel
theorem dX9_order_282 : decode cX9_order 282 = .ok (.aload_n 0, 1) := by decide +kernel
theorem dX9_order_283 : decode cX9_order 283 = .ok (.getfield 95, 3) := by decide +kernel
theorem dX9_order_286 : decode cX9_order 286 = .ok (.iload 6, 2) := by decide +kernel
theorem dX9_order_288 : decode cX9_order 288 = .ok (.iaload, 1) := by decide +kernel
theorem dX9_order_289 : decode cX9_order 289 = .ok (.iastore, 1) := by decide +kernel
theorem dX9_order_290 : decode cX9_order 290 = .ok (.iinc 6 1, 3) := by decide +kernel
theorem dX9_order_293 : decode cX9_order 293 = .ok (.goto (-28), 3) := by decide +kernel
theorem dX9_order_296 : decode cX9_order 296 = .ok (.iload 5, 2) := by decide +kernel
theorem dX9_order_298 : decode cX9_order 298 = .ok (.ireturn, 1) := by decide +kernel
theorem dX9_ordered_0 : decode cX9_ordered 0 = .ok (.iload_n 1, 1) := by decide +kernel
theorem dX9_ordered_1 : decode cX9_ordered 1 = .ok (.iconst 0, 1) := by decide +kernel
theorem dX9_ordered_2 : decode cX9_ordered 2 = .ok (.aload_n 0, 1) := by decide +kernel
theorem dX9_ordered_3 : decode cX9_ordered 3 = .ok (.getfield 337, 3) := by decide +kernel
theorem dX9_ordered_6 : decode cX9_ordered 6 = .ok (.iconst 1, 1) := by decide +kernel
theorem dX9_ordered_7 : decode cX9_ordered 7 = .ok (.isub, 1) := by decide +kernel
theorem dX9_ordered_8 : decode cX9_ordered 8 = .ok (.invokestatic 105, 3) := by decide +kernel
theorem dX9_ordered_11 : decode cX9_ordered 11 = .ok (.ifCond .eq 12, 3) := by decide +kernel
theorem dX9_ordered_14 : decode cX9_ordered 14 = .ok (.aload_n 0, 1) := by decide +kernel
theorem dX9_ordered_15 : decode cX9_ordered 15 = .ok (.getfield 92, 3) := by decide +kernel
theorem dX9_ordered_18 : decode cX9_ordered 18 = .ok (.iload_n 1, 1) := by decide +kernel
theorem dX9_ordered_19 : decode cX9_ordered 19 = .ok (.iaload, 1) := by decide +kernel
theorem dX9_ordered_20 : decode cX9_ordered 20 = .ok (.goto 5, 3) := by decide +kernel
theorem dX9_ordered_23 : decode cX9_ordered 23 = .ok (.bipush (-3), 2) := by decide +kernel
theorem dX9_ordered_25 : decode cX9_ordered 25 = .ok (.ireturn, 1) := by decide +kernel
theorem dX9_row_0 : decode cX9_row 0 = .ok (.iload_n 2, 1) := by decide +kernel
theorem dX9_row_1 : decode cX9_row 1 = .ok (.iconst 0, 1) := by decide +kernel
theorem dX9_row_2 : decode cX9_row 2 = .ok (.iconst 2, 1) := by decide +kernel
theorem dX9_row_3 : decode cX9_row 3 = .ok (.invokestatic 105, 3) := by decide +kernel
theorem dX9_row_6 : decode cX9_row 6 = .ok (.ifCond .ne 5, 3) := by decide +kernel
theorem dX9_row_9 : decode cX9_row 9 = .ok (.iconst (-1), 1) := by decide +kernel
theorem dX9_row_10 : decode cX9_row 10 = .ok (.ireturn, 1) := by decide +kernel
theorem dX9_row_11 : decode cX9_row 11 = .ok (.iload_n 1, 1) := by decide +kernel
theorem dX9_row_12 : decode cX9_row 12 = .ok (.iconst 0, 1) := by decide +kernel
theorem dX9_row_13 : decode cX9_row 13 = .ok (.aload_n 0, 1) := by decide +kernel
theorem dX9_row_14 : decode cX9_row 14 = .ok (.getfield 347, 3) := by decide +kernel
theorem dX9_row_17 : decode cX9_row 17 = .ok (.iconst 1, 1) := by decide +kernel
theorem dX9_row_18 : decode cX9_row 18 = .ok (.isub, 1) := by decide +kernel
theorem dX9_row_19 : decode cX9_row 19 = .ok (.invokestatic 105, 3) := by decide +kernel
theorem dX9_row_22 : decode cX9_row 22 = .ok (.ifCond .eq 16, 3) := by decide +kernel
theorem dX9_row_25 : decode cX9_row 25 = .ok (.aload_n 0, 1) := by decide +kernel
theorem dX9_row_26 : decode cX9_row 26 = .ok (.getfield 98, 3) := by decide +kernel
theorem dX9_row_29 : decode cX9_row 29 = .ok (.iconst 3, 1) := by decide +kernel
theorem dX9_row_30 : decode cX9_row 30 = .ok (.iload_n 1, 1) := by decide +kernel
theorem dX9_row_31 : decode cX9_row 31 = .ok (.imul, 1) := by decide +kernel
theorem dX9_row_32 : decode cX9_row 32 = .ok (.iload_n 2, 1) := by decide +kernel
theorem dX9_row_33 : decode cX9_row 33 = .ok (.iadd, 1) := by decide +kernel
theorem dX9_row_34 : decode cX9_row 34 = .ok (.iaload, 1) := by decide +kernel
theorem dX9_row_35 : decode cX9_row 35 = .ok (.goto 5, 3) := by decide +kernel
theorem dX9_row_38 : decode cX9_row 38 = .ok (.bipush (-3), 2) := by decide +kernel
theorem dX9_row_40 : decode cX9_row 40 = .ok (.ireturn, 1) := by decide +kernel
theorem dX9_alter_0 : decode cX9_alter 0 = .ok (.iload_n 2, 1) := by decide +kernel
theorem dX9_alter_1 : decode cX9_alter 1 = .ok (.iconst 0, 1) := by decide +kernel
theorem dX9_alter_2 : decode cX9_alter 2 = .ok (.iconst 2, 1) := by decide +kernel
theorem dX9_alter_3 : decode cX9_alter 3 = .ok (.invokestatic 105, 3) := by decide +kernel
theorem dX9_alter_6 : decode cX9_alter 6 = .ok (.ifCond .ne 5, 3) := by decide +kernel
theorem dX9_alter_9 : decode cX9_alter 9 = .ok (.iconst (-1), 1) := by decide +kernel
theorem dX9_alter_10 : decode cX9_alter 10 = .ok (.ireturn, 1) := by decide +kernel
theorem dX9_alter_11 : decode cX9_alter 11 = .ok (.iload_n 1, 1) := by decide +kernel
theorem dX9_alter_12 : decode cX9_alter 12 = .ok (.iconst 0, 1) := by decide +kernel
theorem dX9_alter_13 : decode cX9_alter 13 = .ok (.aload_n 0, 1) := by decide +kernel
theorem dX9_alter_14 : decode cX9_alter 14 = .ok (.getfield 347, 3) := by decide +kernel
theorem dX9_alter_17 : decode cX9_alter 17 = .ok (.iconst 1, 1) := by decide +kernel
theorem dX9_alter_18 : decode cX9_alter 18 = .ok (.isub, 1) := by decide +kernel
theorem dX9_alter_19 : decode cX9_alter 19 = .ok (.invokestatic 105, 3) := by decide +kernel
theorem dX9_alter_22 : decode cX9_alter 22 = .ok (.ifCond .ne 6, 3) := by decide +kernel
theorem dX9_alter_25 : decode cX9_alter 25 = .ok (.bipush (-3), 2) := by decide +kernel
theorem dX9_alter_27 : decode cX9_alter 27 = .ok (.ireturn, 1) := by decide +kernel
theorem dX9_alter_28 : decode cX9_alter 28 = .ok (.aload_n 0, 1) := by decide +kernel
theorem dX9_alter_29 : decode cX9_alter 29 = .ok (.getfield 98, 3) := by decide +kernel
theorem dX9_alter_32 : decode cX9_alter 32 = .ok (.iconst 3, 1) := by decide +kernel
theorem dX9_alter_33 : decode cX9_alter 33 = .ok (.iload_n 1, 1) := by decide +kernel
theorem dX9_alter_34 : decode cX9_alter 34 = .ok (.imul, 1) := by decide +kernel
theorem dX9_alter_35 : decode cX9_alter 35 = .ok (.iload_n 2, 1) := by decide +kernel
theorem dX9_alter_36 : decode cX9_alter 36 = .ok (.iadd, 1) := by decide +kernel
theorem dX9_alter_37 : decode cX9_alter 37 = .ok (.iaload, 1) := by decide +kernel
theorem dX9_alter_38 : decode cX9_alter 38 = .ok (.istore 4, 2) := by decide +kernel
theorem dX9_alter_40 : decode cX9_alter 40 = .ok (.aload_n 0, 1) := by decide +kernel
theorem dX9_alter_41 : decode cX9_alter 41 = .ok (.getfield 98, 3) := by decide +kernel
theorem dX9_alter_44 : decode cX9_alter 44 = .ok (.iconst 3, 1) := by decide +kernel
theorem dX9_alter_45 : decode cX9_alter 45 = .ok (.iload_n 1, 1) := by decide +kernel
theorem dX9_alter_46 : decode cX9_alter 46 = .ok (.imul, 1) := by decide +kernel
theorem dX9_alter_47 : decode cX9_alter 47 = .ok (.iload_n 2, 1) := by decide +kernel
theorem dX9_alter_48 : decode cX9_alter 48 = .ok (.iadd, 1) := by decide +kernel
theorem dX9_alter_49 : decode cX9_alter 49 = .ok (.iload_n 3, 1) := by decide +kernel
theorem dX9_alter_50 : decode cX9_alter 50 = .ok (.iastore, 1) := by decide +kernel
theorem dX9_alter_51 : decode cX9_alter 51 = .ok (.iload 4, 2) := by decide +kernel
theorem dX9_alter_53 : decode cX9_alter 53 = .ok (.ireturn, 1) := by decide +kernel
theorem dX9_drop_0 : decode cX9_drop 0 = .ok (.aload_n 0, 1) := by decide +kernel
theorem dX9_drop_1 : decode cX9_drop 1 = .ok (.getfield 347, 3) := by decide +kernel
theorem dX9_drop_4 : decode cX9_drop 4 = .ok (.ifCond .ne 6, 3) := by decide +kernel
theorem dX9_drop_7 : decode cX9_drop 7 = .ok (.bipush (-3), 2) := by decide +kernel
theorem dX9_drop_9 : decode cX9_drop 9 = .ok (.ireturn, 1) := by decide +kernel
theorem dX9_drop_10 : decode cX9_drop 10 = .ok (.aload_n 0, 1) := by decide +kernel
theorem dX9_drop_11 : decode cX9_drop 11 = .ok (.dup, 1) := by decide +kernel
theorem dX9_drop_12 : decode cX9_drop 12 = .ok (.getfield 347, 3) := by decide +kernel
theorem dX9_drop_15 : decode cX9_drop 15 = .ok (.iconst 1, 1) := by decide +kernel
theorem dX9_drop_16 : decode cX9_drop 16 = .ok (.isub, 1) := by decide +kernel
theorem dX9_drop_17 : decode cX9_drop 17 = .ok (.putfield 347, 3) := by decide +kernel
theorem dX9_drop_20 : decode cX9_drop 20 = .ok (.aload_n 0, 1) := by decide +kernel
theorem dX9_drop_21 : decode cX9_drop 21 = .ok (.getfield 347, 3) := by decide +kernel
theorem dX9_drop_24 : decode cX9_drop 24 = .ok (.ireturn, 1) := by decide +kernel
theorem dX9_check_0 : decode cX9_check 0 = .ok (.aload_n 0, 1) := by decide +kernel
theorem dX9_check_1 : decode cX9_check 1 = .ok (.getfield 343, 3) := by decide +kernel
theorem dX9_check_4 : decode cX9_check 4 = .ok (.ifCond .ne 6, 3) := by decide +kernel
theorem dX9_check_7 : decode cX9_check 7 = .ok (.bipush (-3), 2) := by decide +kernel
theorem dX9_check_9 : decode cX9_check 9 = .ok (.ireturn, 1) := by decide +kernel
theorem dX9_check_10 : decode cX9_check 10 = .ok (.iconst 0, 1) := by decide +kernel
theorem dX9_check_11 : decode cX9_check 11 = .ok (.istore_n 1, 1) := by decide +kernel
theorem dX9_check_12 : decode cX9_check 12 = .ok (.iload_n 1, 1) := by decide +kernel
theorem dX9_check_13 : decode cX9_check 13 = .ok (.aload_n 0, 1) := by decide +kernel
theorem dX9_check_14 : decode cX9_check 14 = .ok (.getfield 347, 3) := by decide +kernel
theorem dX9_check_17 : decode cX9_check 17 = .ok (.if_icmp .ge 47, 3) := by decide +kernel
theorem dX9_check_20 : decode cX9_check 20 = .ok (.iconst 0, 1) := by decide +kernel
theorem dX9_check_21 : decode cX9_check 21 = .ok (.istore_n 2, 1) := by decide +kernel
theorem dX9_check_22 : decode cX9_check 22 = .ok (.iload_n 2, 1) := by decide +kernel
theorem dX9_check_23 : decode cX9_check 23 = .ok (.iconst 3, 1) := by decide +kernel
theorem dX9_check_24 : decode cX9_check 24 = .ok (.if_icmp .ge 34, 3) := by decide +kernel
theorem dX9_check_27 : decode cX9_check 27 = .ok (.aload_n 0, 1) := by decide +kernel
theorem dX9_check_28 : decode cX9_check 28 = .ok (.getfield 98, 3) := by decide +kernel
theorem dX9_check_31 : decode cX9_check 31 = .ok (.iconst 3, 1) := by decide +kernel
theorem dX9_check_32 : decode cX9_check 32 = .ok (.iload_n 1, 1) := by decide +kernel
theorem dX9_check_33 : decode cX9_check 33 = .ok (.imul, 1) := by decide +kernel
theorem dX9_check_34 : decode cX9_check 34 = .ok (.iload_n 2, 1) := by decide +kernel
theorem dX9_check_35 : decode cX9_check 35 = .ok (.iadd, 1) := by decide +kernel
theorem dX9_check_36 : decode cX9_check 36 = .ok (.iaload, 1) := by decide +kernel
theorem dX9_check_37 : decode cX9_check 37 = .ok (.aload_n 0, 1) := by decide +kernel
theorem dX9_check_38 : decode cX9_check 38 = .ok (.getfield 95, 3) := by decide +kernel
theorem dX9_check_41 : decode cX9_check 41 = .ok (.iconst 3, 1) := by decide +kernel
theorem dX9_check_42 : decode cX9_check 42 = .ok (.iload_n 1, 1) := by decide +kernel
theorem dX9_check_43 : decode cX9_check 43 = .ok (.imul, 1) := by decide +kernel
theorem dX9_check_44 : decode cX9_check 44 = .ok (.iload_n 2, 1) := by decide +kernel
theorem dX9_check_45 : decode cX9_check 45 = .ok (.iadd, 1) := by decide +kernel
theorem dX9_check_46 : decode cX9_check 46 = .ok (.iaload, 1) := by decide +kernel
theorem dX9_check_47 : decode cX9_check 47 = .ok (.if_icmp .eq 5, 3) := by decide +kernel
theorem dX9_check_50 : decode cX9_check 50 = .ok (.iload_n 1, 1) := by decide +kernel
theorem dX9_check_51 : decode cX9_check 51 = .ok (.ireturn, 1) := by decide +kernel
theorem dX9_check_52 : decode cX9_check 52 = .ok (.iinc 2 1, 3) := by decide +kernel
theorem dX9_check_55 : decode cX9_check 55 = .ok (.goto (-33), 3) := by decide +kernel
theorem dX9_check_58 : decode cX9_check 58 = .ok (.iinc 1 1, 3) := by decide +kernel
theorem dX9_check_61 : decode cX9_check 61 = .ok (.goto (-49), 3) := by decide +kernel
theorem dX9_check_64 : decode cX9_check 64 = .ok (.aload_n 0, 1) := by decide +kernel
theorem dX9_check_65 : decode cX9_check 65 = .ok (.getfield 347, 3) := by decide +kernel
theorem dX9_check_68 : decode cX9_check 68 = .ok (.aload_n 0, 1) := by decide +kernel
theorem dX9_check_69 : decode cX9_check 69 = .ok (.getfield 340, 3) := by decide +kernel
theorem dX9_check_72 : decode cX9_check 72 = .ok (.if_icmp .ge 10, 3) := by decide +kernel
theorem dX9_check_75 : decode cX9_check 75 = .ok (.aload_n 0, 1) := by decide +kernel
theorem dX9_check_76 : decode cX9_check 76 = .ok (.getfield 347, 3) := by decide +kernel
theorem dX9_check_79 : decode cX9_check 79 = .ok (.goto 4, 3) := by decide +kernel
theorem dX9_check_82 : decode cX9_check 82 = .ok (.iconst (-1), 1) := by decide +kernel
theorem dX9_check_83 : decode cX9_check 83 = .ok (.ireturn, 1) := by decide +kernel
theorem dX9_permitsThat_0 : decode cX9_permitsThat 0 = .ok (.iconst 0, 1) := by decide +kernel
theorem dX9_permitsThat_1 : decode cX9_permitsThat 1 = .ok (.istore_n 2, 1) := by decide +kernel
theorem dX9_permitsThat_2 : decode cX9_permitsThat 2 = .ok (.iconst 0, 1) := by decide +kernel
theorem dX9_permitsThat_3 : decode cX9_permitsThat 3 = .ok (.istore_n 3, 1) := by decide +kernel
theorem dX9_permitsThat_4 : decode cX9_permitsThat 4 = .ok (.iload_n 3, 1) := by decide +kernel
theorem dX9_permitsThat_5 : decode cX9_permitsThat 5 = .ok (.aload_n 0, 1) := by decide +kernel
theorem dX9_permitsThat_6 : decode cX9_permitsThat 6 = .ok (.getfield 113, 3) := by decide +kernel
theorem dX9_permitsThat_9 : decode cX9_permitsThat 9 = .ok (.if_icmp .ge 27, 3) := by decide +kernel
theorem dX9_permitsThat_12 : decode cX9_permitsThat 12 = .ok (.iload_n 2, 1) := by decide +kernel
theorem dX9_permitsThat_13 : decode cX9_permitsThat 13 = .ok (.aload_n 0, 1) := by decide +kernel
theorem dX9_permitsThat_14 : decode cX9_permitsThat 14 = .ok (.getfield 62, 3) := by decide +kernel
theorem dX9_permitsThat_17 : decode cX9_permitsThat 17 = .ok (.iload_n 3, 1) := by decide +kernel
theorem dX9_permitsThat_18 : decode cX9_permitsThat 18 = .ok (.iaload, 1) := by decide +kernel
theorem dX9_permitsThat_19 : decode cX9_permitsThat 19 = .ok (.iload_n 1, 1) := by decide +kernel
theorem dX9_permitsThat_20 : decode cX9_permitsThat 20 = .ok (.if_icmp .ne 7, 3) := by decide +kernel
theorem dX9_permitsThat_23 : decode cX9_permitsThat 23 = .ok (.iconst 1, 1) := by decide +kernel
theorem dX9_permitsThat_24 : decode cX9_permitsThat 24 = .ok (.goto 4, 3) := by decide +kernel
theorem dX9_permitsThat_27 : decode cX9_permitsThat 27 = .ok (.iconst 0, 1) := by decide +kernel
theorem dX9_permitsThat_28 : decode cX9_permitsThat 28 = .ok (.iadd, 1) := by decide +kernel
theorem dX9_permitsThat_29 : decode cX9_permitsThat 29 = .ok (.istore_n 2, 1) := by decide +kernel
theorem dX9_permitsThat_30 : decode cX9_permitsThat 30 = .ok (.iinc 3 1, 3) := by decide +kernel
theorem dX9_permitsThat_33 : decode cX9_permitsThat 33 = .ok (.goto (-29), 3) := by decide +kernel
theorem dX9_permitsThat_36 : decode cX9_permitsThat 36 = .ok (.iload_n 2, 1) := by decide +kernel
theorem dX9_permitsThat_37 : decode cX9_permitsThat 37 = .ok (.ireturn, 1) := by decide +kernel
theorem dX9_men_0 : decode cX9_men 0 = .ok (.iconst 0, 1) := by decide +kernel
theorem dX9_men_1 : decode cX9_men 1 = .ok (.istore_n 2, 1) := by decide +kernel
theorem dX9_men_2 : decode cX9_men 2 = .ok (.iconst 0, 1) := by decide +kernel
theorem dX9_men_3 : decode cX9_men 3 = .ok (.istore_n 3, 1) := by decide +kernel
theorem dX9_men_4 : decode cX9_men 4 = .ok (.iload_n 3, 1) := by decide +kernel
theorem dX9_men_5 : decode cX9_men 5 = .ok (.bipush 8, 2) := by decide +kernel
theorem dX9_men_7 : decode cX9_men 7 = .ok (.if_icmp .ge 59, 3) := by decide +kernel
theorem dX9_men_10 : decode cX9_men 10 = .ok (.iload_n 1, 1) := by decide +kernel
theorem dX9_men_11 : decode cX9_men 11 = .ok (.ifCond .eq 20, 3) := by decide +kernel
theorem dX9_men_14 : decode cX9_men 14 = .ok (.aload_n 0, 1) := by decide +kernel
theorem dX9_men_15 : decode cX9_men 15 = .ok (.getfield 50, 3) := by decide +kernel
theorem dX9_men_18 : decode cX9_men 18 = .ok (.iload_n 3, 1) := by decide +kernel
theorem dX9_men_19 : decode cX9_men 19 = .ok (.iaload, 1) := by decide +kernel
theorem dX9_men_20 : decode cX9_men 20 = .ok (.ifCond .lt 7, 3) := by decide +kernel
theorem dX9_men_23 : decode cX9_men 23 = .ok (.iconst 1, 1) := by decide +kernel
theorem dX9_men_24 : decode cX9_men 24 = .ok (.goto 21, 3) := by decide +kernel
theorem dX9_men_27 : decode cX9_men 27 = .ok (.iconst 0, 1) := by decide +kernel
theorem dX9_men_28 : decode cX9_men 28 = .ok (.goto 17, 3) := by decide +kernel
theorem dX9_men_31 : decode cX9_men 31 = .ok (.aload_n 0, 1) := by decide +kernel
theorem dX9_men_32 : decode cX9_men 32 = .ok (.getfield 47, 3) := by decide +kernel
theorem dX9_men_35 : decode cX9_men 35 = .ok (.iload_n 3, 1) := by decide +kernel
theorem dX9_men_36 : decode cX9_men 36 = .ok (.baload, 1) := by decide +kernel
theorem dX9_men_37 : decode cX9_men 37 = .ok (.ifCond .ne 7, 3) := by decide +kernel
theorem dX9_men_40 : decode cX9_men 40 = .ok (.iconst 1, 1) := by decide +kernel
theorem dX9_men_41 : decode cX9_men 41 = .ok (.goto 4, 3) := by decide +kernel
theorem dX9_men_44 : decode cX9_men 44 = .ok (.iconst 0, 1) := by decide +kernel
theorem dX9_men_45 : decode cX9_men 45 = .ok (.istore 4, 2) := by decide +kernel
theorem dX9_men_47 : decode cX9_men 47 = .ok (.iload_n 2, 1) := by decide +kernel
theorem dX9_men_48 : decode cX9_men 48 = .ok (.iload 4, 2) := by decide +kernel
theorem dX9_men_50 : decode cX9_men 50 = .ok (.ifCond .eq 7, 3) := by decide +kernel
theorem dX9_men_53 : decode cX9_men 53 = .ok (.iconst 1, 1) := by decide +kernel
theorem dX9_men_54 : decode cX9_men 54 = .ok (.goto 4, 3) := by decide +kernel
theorem dX9_men_57 : decode cX9_men 57 = .ok (.iconst 0, 1) := by decide +kernel
theorem dX9_men_58 : decode cX9_men 58 = .ok (.iadd, 1) := by decide +kernel
theorem dX9_men_59 : decode cX9_men 59 = .ok (.istore_n 2, 1) := by decide +kernel
theorem dX9_men_60 : decode cX9_men 60 = .ok (.iinc 3 1, 3) := by decide +kernel
theorem dX9_men_63 : decode cX9_men 63 = .ok (.goto (-59), 3) := by decide +kernel
theorem dX9_men_66 : decode cX9_men 66 = .ok (.iload_n 2, 1) := by decide +kernel
theorem dX9_men_67 : decode cX9_men 67 = .ok (.ireturn, 1) := by decide +kernel
theorem dX9_allLocks_0 : decode cX9_allLocks 0 = .ok (.iconst 0, 1) := by decide +kernel
theorem dX9_allLocks_1 : decode cX9_allLocks 1 = .ok (.istore_n 1, 1) := by decide +kernel
theorem dX9_allLocks_2 : decode cX9_allLocks 2 = .ok (.iconst 0, 1) := by decide +kernel
theorem dX9_allLocks_3 : decode cX9_allLocks 3 = .ok (.istore_n 2, 1) := by decide +kernel
theorem dX9_allLocks_4 : decode cX9_allLocks 4 = .ok (.iload_n 2, 1) := by decide +kernel
theorem dX9_allLocks_5 : decode cX9_allLocks 5 = .ok (.aload_n 0, 1) := by decide +kernel
theorem dX9_allLocks_6 : decode cX9_allLocks 6 = .ok (.getfield 101, 3) := by decide +kernel
theorem dX9_allLocks_9 : decode cX9_allLocks 9 = .ok (.if_icmp .ge 17, 3) := by decide +kernel
theorem dX9_allLocks_12 : decode cX9_allLocks 12 = .ok (.iload_n 1, 1) := by decide +kernel
theorem dX9_allLocks_13 : decode cX9_allLocks 13 = .ok (.aload_n 0, 1) := by decide +kernel
theorem dX9_allLocks_14 : decode cX9_allLocks 14 = .ok (.iload_n 2, 1) := by decide +kernel
theorem dX9_allLocks_15 : decode cX9_allLocks 15 = .ok (.invokevirtual 129, 3) := by decide +kernel
theorem dX9_allLocks_18 : decode cX9_allLocks 18 = .ok (.iadd, 1) := by decide +kernel
theorem dX9_allLocks_19 : decode cX9_allLocks 19 = .ok (.istore_n 1, 1) := by decide +kernel
theorem dX9_allLocks_20 : decode cX9_allLocks 20 = .ok (.iinc 2 1, 3) := by decide +kernel
theorem dX9_allLocks_23 : decode cX9_allLocks 23 = .ok (.goto (-19), 3) := by decide +kernel
theorem dX9_allLocks_26 : decode cX9_allLocks 26 = .ok (.iload_n 1, 1) := by decide +kernel
theorem dX9_allLocks_27 : decode cX9_allLocks 27 = .ok (.ireturn, 1) := by decide +kernel
theorem dX9_many_0 : decode cX9_many 0 = .ok (.iload_n 1, 1) := by decide +kernel
theorem dX9_many_1 : decode cX9_many 1 = .ok (.tableswitch 120 0 10 #[59, 64, 69, 74, 79, 85, 93, 99, 105, 110, 115], 59) := by decide +kernel
theorem dX9_many_60 : decode cX9_many 60 = .ok (.aload_n 0, 1) := by decide +kernel
theorem dX9_many_61 : decode cX9_many 61 = .ok (.getfield 119, 3) := by decide +kernel
theorem dX9_many_64 : decode cX9_many 64 = .ok (.ireturn, 1) := by decide +kernel
theorem dX9_many_65 : decode cX9_many 65 = .ok (.aload_n 0, 1) := by decide +kernel
theorem dX9_many_66 : decode cX9_many 66 = .ok (.getfield 101, 3) := by decide +kernel
theorem dX9_many_69 : decode cX9_many 69 = .ok (.ireturn, 1) := by decide +kernel
theorem dX9_many_70 : decode cX9_many 70 = .ok (.aload_n 0, 1) := by decide +kernel
theorem dX9_many_71 : decode cX9_many 71 = .ok (.getfield 140, 3) := by decide +kernel
theorem dX9_many_74 : decode cX9_many 74 = .ok (.ireturn, 1) := by decide +kernel
theorem dX9_many_75 : decode cX9_many 75 = .ok (.aload_n 0, 1) := by decide +kernel
theorem dX9_many_76 : decode cX9_many 76 = .ok (.getfield 113, 3) := by decide +kernel
theorem dX9_many_79 : decode cX9_many 79 = .ok (.ireturn, 1) := by decide +kernel
theorem dX9_many_80 : decode cX9_many 80 = .ok (.aload_n 0, 1) := by decide +kernel
theorem dX9_many_81 : decode cX9_many 81 = .ok (.iconst 3, 1) := by decide +kernel
theorem dX9_many_82 : decode cX9_many 82 = .ok (.invokevirtual 350, 3) := by decide +kernel
theorem dX9_many_85 : decode cX9_many 85 = .ok (.ireturn, 1) := by decide +kernel
theorem dX9_many_86 : decode cX9_many 86 = .ok (.aload_n 0, 1) := by decide +kernel
theorem dX9_many_87 : decode cX9_many 87 = .ok (.invokevirtual 133, 3) := by decide +kernel
theorem dX9_many_90 : decode cX9_many 90 = .ok (.invokestatic 303, 3) := by decide +kernel
theorem dX9_many_93 : decode cX9_many 93 = .ok (.ireturn, 1) := by decide +kernel
theorem dX9_many_94 : decode cX9_many 94 = .ok (.aload_n 0, 1) := by decide +kernel
theorem dX9_many_95 : decode cX9_many 95 = .ok (.iconst 1, 1) := by decide +kernel
theorem dX9_many_96 : decode cX9_many 96 = .ok (.invokevirtual 353, 3) := by decide +kernel
theorem dX9_many_99 : decode cX9_many 99 = .ok (.ireturn, 1) := by decide +kernel
theorem dX9_many_100 : decode cX9_many 100 = .ok (.aload_n 0, 1) := by decide +kernel
theorem dX9_many_101 : decode cX9_many 101 = .ok (.iconst 0, 1) := by decide +kernel
theorem dX9_many_102 : decode cX9_many 102 = .ok (.invokevirtual 353, 3) := by decide +kernel
theorem dX9_many_105 : decode cX9_many 105 = .ok (.ireturn, 1) := by decide +kernel
theorem dX9_many_106 : decode cX9_many 106 = .ok (.aload_n 0, 1) := by decide +kernel
theorem dX9_many_107 : decode cX9_many 107 = .ok (.getfield 168, 3) := by decide +kernel
theorem dX9_many_110 : decode cX9_many 110 = .ok (.ireturn, 1) := by decide +kernel
theorem dX9_many_111 : decode cX9_many 111 = .ok (.aload_n 0, 1) := by decide +kernel
theorem dX9_many_112 : decode cX9_many 112 = .ok (.getfield 347, 3) := by decide +kernel
theorem dX9_many_115 : decode cX9_many 115 = .ok (.ireturn, 1) := by decide +kernel
theorem dX9_many_116 : decode cX9_many 116 = .ok (.aload_n 0, 1) := by decide +kernel
theorem dX9_many_117 : decode cX9_many 117 = .ok (.invokevirtual 357, 3) := by decide +kernel
theorem dX9_many_120 : decode cX9_many 120 = .ok (.ireturn, 1) := by decide +kernel
theorem dX9_many_121 : decode cX9_many 121 = .ok (.iconst (-1), 1) := by decide +kernel
theorem dX9_many_122 : decode cX9_many 122 = .ok (.ireturn, 1) := by decide +kernel
end
section
/-! THE WORLD: one list of 70 cells (the class's 0..38, the reference's 39..69) over a state σ: what cell k holds at place j -/
abbrev Sg : Type := Nat → Nat → Int32
def sUp (σ : Sg) (k j : Nat) (v : Int32) : Sg := fun a => if a = k then upd (σ a) j v else σ a
theorem sUp_ne {σ : Sg} {k j a : Nat} {v : Int32} (h : a ≠ k) : sUp σ k j v a = σ a := if_neg h
theorem sUp_eq {σ : Sg} {k j : Nat} {v : Int32} : sUp σ k j v k = upd (σ k) j v := if_pos rfl
abbrev classes : List vw_C := [(RX0, TX0, 2), (RX1, TX1, 2), (RX2, TX2, 10), (RX3, TX3, 9), (RX4, TX4, 10), (RX5, TX5, 4), (RX6, TX6, 7), (RX7, TX7, 9), (RX8, TX8, 9), (RX9, TX9, 47)]
def ent (cI cZ : ClassId) (ad : Nat → Nat) (k : Nat) (f : Nat → Int32) : va_E := match k with
  | 0 => .inr (8, [.ref (ad 1), .ref (ad 2), .ref (ad 9), .ref (ad 16), .ref (ad 25), .ref (ad 27), .ref (ad 29), .ref (ad 32), .int (f 8)])
  | 1 => .inr (5, [.ref (ad 2), .ref (ad 9), .ref (ad 16), .ref (ad 25)])
  | 2 => .inr (2, [.ref (ad 3), .ref (ad 4), .ref (ad 5), .ref (ad 6), .ref (ad 7), .ref (ad 8), .int (f 6), .int (f 7), .int (f 8), .int (f 9)])
  | 3 => .inl (cI, 12, .inl f)
  | 4 => .inl (cI, 12, .inl f)
  | 5 => .inl (cI, 12, .inl f)
  | 6 => .inl (cI, 12, .inl f)
  | 7 => .inl (cI, 12, .inl f)
  | 8 => .inl (cI, 3, .inl f)
  | 9 => .inr (6, [.ref (ad 10), .ref (ad 11), .ref (ad 12), .ref (ad 13), .ref (ad 14), .ref (ad 15), .int (f 6)])
  | 10 => .inl (cI, 12, .inl f)
  | 11 => .inl (cI, 12, .inl f)
  | 12 => .inl (cI, 12, .inl f)
  | 13 => .inl (cI, 12, .inl f)
  | 14 => .inl (cI, 12, .inl f)
  | 15 => .inl (cI, 12, .inl f)
  | 16 => .inr (3, [.ref (ad 17), .ref (ad 18), .ref (ad 19), .ref (ad 20), .ref (ad 21), .ref (ad 22), .ref (ad 23), .ref (ad 24), .int (f 8)])
  | 17 => .inl (cI, 7, .inl f)
  | 18 => .inl (cI, 7, .inl f)
  | 19 => .inl (cI, 7, .inl f)
  | 20 => .inl (cI, 7, .inl f)
  | 21 => .inl (cI, 7, .inl f)
  | 22 => .inl (cI, 7, .inl f)
  | 23 => .inl (cI, 7, .inl f)
  | 24 => .inl (cI, 7, .inl f)
  | 25 => .inr (0, [.int (f 0), .ref (ad 26)])
  | 26 => .inl (cI, 8, .inl f)
  | 27 => .inr (7, [.ref (ad 28), .int (f 1), .int (f 2), .int (f 3), .int (f 4), .int (f 5), .int (f 6), .int (f 7), .int (f 8)])
  | 28 => .inl (cI, 60, .inl f)
  | 29 => .inr (1, [.ref (ad 30), .ref (ad 31)])
  | 30 => .inl (cI, 301, .inl f)
  | 31 => .inl (cI, 301, .inl f)
  | 32 => .inr (4, [.ref (ad 33), .ref (ad 34), .ref (ad 35), .int (f 3), .int (f 4), .int (f 5), .int (f 6), .ref (ad 36), .ref (ad 37), .ref (ad 38)])
  | 33 => .inl (cI, 7, .inl f)
  | 34 => .inl (cI, 84, .inl f)
  | 35 => .inl (cI, 84, .inl f)
  | 36 => .inl (cI, 7, .inl f)
  | 37 => .inl (cI, 7, .inl f)
  | 38 => .inl (cI, 896, .inl f)
  | 39 => .inr (9, [.int (f 0), .int (f 1), .ref (ad 40), .ref (ad 41), .ref (ad 42), .ref (ad 43), .ref (ad 44), .ref (ad 45), .int (f 8), .ref (ad 46), .ref (ad 47), .ref (ad 48), .ref (ad 49), .ref (ad 50), .ref (ad 51), .ref (ad 52), .ref (ad 53), .int (f 17), .ref (ad 54), .ref (ad 55), .ref (ad 56), .ref (ad 57), .ref (ad 58), .ref (ad 59), .ref (ad 60), .ref (ad 61), .ref (ad 62), .ref (ad 63), .ref (ad 64), .int (f 29), .ref (ad 65), .int (f 31), .int (f 32), .int (f 33), .int (f 34), .int (f 35), .int (f 36), .int (f 37), .ref (ad 66), .int (f 39), .int (f 40), .ref (ad 67), .int (f 42), .ref (ad 68), .int (f 44), .ref (ad 69), .int (f 46)])
  | 40 => .inl (cI, 12, .inl f)
  | 41 => .inl (cI, 12, .inl f)
  | 42 => .inl (cI, 12, .inl f)
  | 43 => .inl (cI, 12, .inl f)
  | 44 => .inl (cZ, 12, .inl f)
  | 45 => .inl (cZ, 30, .inl f)
  | 46 => .inl (cI, 12, .inl f)
  | 47 => .inl (cI, 12, .inl f)
  | 48 => .inl (cI, 12, .inl f)
  | 49 => .inl (cI, 12, .inl f)
  | 50 => .inl (cI, 12, .inl f)
  | 51 => .inl (cI, 12, .inl f)
  | 52 => .inl (cZ, 8, .inl f)
  | 53 => .inl (cI, 8, .inl f)
  | 54 => .inl (cI, 7, .inl f)
  | 55 => .inl (cI, 7, .inl f)
  | 56 => .inl (cI, 7, .inl f)
  | 57 => .inl (cI, 7, .inl f)
  | 58 => .inl (cI, 7, .inl f)
  | 59 => .inl (cI, 7, .inl f)
  | 60 => .inl (cI, 7, .inl f)
  | 61 => .inl (cI, 7, .inl f)
  | 62 => .inl (cI, 301, .inl f)
  | 63 => .inl (cI, 301, .inl f)
  | 64 => .inl (cI, 60, .inl f)
  | 65 => .inl (cI, 10, .inl f)
  | 66 => .inl (cI, 896, .inl f)
  | 67 => .inl (cI, 7, .inl f)
  | 68 => .inl (cI, 84, .inl f)
  | 69 => .inl (cI, 84, .inl f)
  | _ => .inl (cI, 0, .inl f)
def wld (cI cZ : ClassId) (ad : Nat → Nat) (σ : Sg) : va_W := (List.range 70).map (fun k => (ad k, ent cI cZ ad k (σ k)))
theorem wld_get {cI cZ : ClassId} {ad : Nat → Nat} {σ : Sg} {k : Nat} (h : k < 70) : (wld cI cZ ad σ)[k]? = some (ad k, ent cI cZ ad k (σ k)) := by
  simp [wld, h]
theorem wld_none {cI cZ : ClassId} {ad : Nat → Nat} {σ : Sg} {k : Nat} (h : ¬ k < 70) : (wld cI cZ ad σ)[k]? = none := by
  simp [wld]; omega
theorem wld_set {cI cZ : ClassId} {ad : Nat → Nat} {σ σ' : Sg} {k : Nat} {e : va_E} (h : k < 70) (he : ent cI cZ ad k (σ' k) = e) (hn : ∀ j, j ≠ k → σ' j = σ j) : (wld cI cZ ad σ).set k (ad k, e) = wld cI cZ ad σ' := by
  apply List.ext_getElem?
  intro i
  by_cases hi : i = k
  · subst hi
    rw [List.getElem?_set_self (by simp [wld]; exact h), wld_get h, he]
  · rw [List.getElem?_set_ne (Ne.symm hi)]
    by_cases h2 : i < 70
    · rw [wld_get h2, wld_get h2, hn i hi]
    · rw [wld_none h2, wld_none h2]
def Aw (ad : Nat → Nat) : Nat → Prop := fun q => ∃ k, k < 70 ∧ ad k = q
def AdOk (ad : Nat → Nat) : Prop := ∀ i j, i < 70 → j < 70 → ad i = ad j → i = j
theorem wld_D {cI cZ : ClassId} {ad : Nat → Nat} {σ : Sg} (h : AdOk ad) : va_D (Aw ad) (wld cI cZ ad σ) := by
  have key : ∀ (k : Nat) (q : Nat × va_E), (wld cI cZ ad σ)[k]? = some q → k < 70 ∧ q.1 = ad k := by
    intro k q hq
    by_cases hk : k < 70
    · rw [wld_get hk] at hq
      cases hq
      exact ⟨hk, rfl⟩
    · rw [wld_none hk] at hq
      cases hq
  exact ⟨fun i j x y hi hj hxy => h i j (key i x hi).1 (key j y hj).1 (by rw [← (key i x hi).2, ← (key j y hj).2]; exact hxy), fun k q hk => ⟨k, (key k q hk).1, (key k q hk).2.symm⟩⟩
/-! THE WORDS -/
def lw_g : List Cond := lw_tbl.filter goodWord
theorem g_in {w : Cond} (h : w ∈ lw_tbl) (hg : goodWord w = true) : w ∈ lw_g := List.mem_filter.mpr ⟨h, hg⟩
theorem gI {ws : List Cond} (h : ∀ w ∈ ws, w ∈ lw_g) : GoodIn lw_g ws := fun w hw => ⟨h w hw, good_of_word (List.mem_filter.mp (h w hw)).2⟩
/-! WHAT LIES OUTSIDE: six texts, the switch of texts, a table of six numbers, a link -/
def slen : List Nat := [31, 15, 15, 4, 6, 2]
def sbyt : List (List Int32) := [[110, 101, 101, 100, 32, 98, 97, 114, 32, 100, 111, 117, 98, 108, 101, 32, 109, 101, 110, 32, 104, 111, 117, 114, 115, 32, 119, 97, 116, 99, 104], [103, 97, 115, 32, 115, 116, 101, 97, 109, 32, 112, 111, 119, 101, 114], [99, 111, 108, 100, 32, 104, 111, 116, 32, 118, 101, 115, 115, 101, 108], [116, 101, 115, 116], [119, 105, 116, 104, 105, 110], [116, 111]]
def sidx (i : Nat) : Nat := ([42, 48, 50, 58, 64, 66] : List Nat).getD i 0
def stx (i : Nat) : String := (["need bar double men hours watch", "gas steam power", "cold hot vessel", "test", "within", "to"] : List String).getD i ""
def gof (j : Nat) : Int32 := ([1, 30, 22, 8, 22, 8] : List Int32).getD j 0
def Fx (ad : Nat → Nat) (U : State) : Prop :=
  vk_S 6 slen sbyt (fun i => ad (100 + i)) (fun i => ad (200 + i)) (Aw ad) U U.heap ∧ (∀ i, i < 6 → vk_R RX7 (sidx i) (stx i) (ad (100 + i)) U) ∧
  va_Z "java/lang/String" "COMPACT_STRINGS" "Z" (.int 1) (Aw ad) U U.heap ∧ va_Zq "jdk/internal/util/Preconditions" "SIOOBE_FORMATTER" "Ljava/util/function/BiFunction;" (Aw ad) U U.heap ∧
  va_Z "PermitRoom$Plant" "GOES_FROM" "[I" (.ref (ad 300)) (Aw ad) U U.heap ∧ va_T .int (ad 300) 6 (fun j => .int (gof j)) (Aw ad) U U.heap ∧
  va_Nw (.methodLinkNest RX0 19 yX8_isMan "PermitRoom") U
theorem Fx.to {ad : Nat → Nat} {s U : State} (h : Fx ad s) (hW : s.WarmedH U.vm) (hq : ∀ a : Nat, a < s.heap.size → ¬ Aw ad a → U.heap[a]? = s.heap[a]?) : Fx ad U := by
  obtain ⟨h1, h2, h3, h4, h5, h6, h7⟩ := h
  exact ⟨(h1.moved hW.alike).kept hq, fun i hi => (h2 i hi).warm hW, (h3.moved hW.alike).kept hq, (h4.moved hW.alike).kept hq, (h5.moved hW.alike).kept hq, (h6.moved hW.alike).kept hq, va_Nw.warmM hW h7⟩
theorem Fx.same {ad : Nat → Nat} {s U : State} (h : Fx ad s) (hv : U.vm = s.vm) (hq : U.heap = s.heap) : Fx ad U := by
  obtain ⟨h1, h2, h3, h4, h5, h6, h7⟩ := h
  have ha : s.vm.Alike U.vm := by rw [hv]; exact Vm.Alike.refl _
  rw [Fx, hq]
  exact ⟨h1.moved ha, fun i hi => (h2 i hi).same hv, h3.moved ha, h4.moved ha, h5.moved ha, h6.moved ha, va_Nw.same rfl hv.symm h7⟩
/-! THE JUDGEMENT -/
abbrev Ev : Type := Launch × va_G × ClassId × ClassId
abbrev Gm : Type := Program × Env × Room × State × MethodId × Array Value × List Frame × Method × Code × (State → Prop) × Nat × Nat
abbrev gP (G : Gm) : Program := G.1
abbrev gE (G : Gm) : Env := G.2.1
abbrev gR (G : Gm) : Room := G.2.2.1
abbrev gS (G : Gm) : State := G.2.2.2.1
abbrev gM (G : Gm) : MethodId := G.2.2.2.2.1
abbrev gA (G : Gm) : Array Value := G.2.2.2.2.2.1
abbrev gB (G : Gm) : List Frame := G.2.2.2.2.2.2.1
abbrev gN (G : Gm) : Method := G.2.2.2.2.2.2.2.1
abbrev gC (G : Gm) : Code := G.2.2.2.2.2.2.2.2.1
abbrev gQ (G : Gm) : State → Prop := G.2.2.2.2.2.2.2.2.2.1
abbrev gK (G : Gm) : Nat := G.2.2.2.2.2.2.2.2.2.2.1
abbrev gZ (G : Gm) : Nat := G.2.2.2.2.2.2.2.2.2.2.2
abbrev tyz (E : Ev) : List (ClassId × FieldType) := [(E.2.2.1, .int), (E.2.2.2, .boolean)]
abbrev wl (E : Ev) (ad : Nat → Nat) (σ : Sg) : va_W := wld E.2.2.1 E.2.2.2 ad σ
/-- the machine, at this place with these locals and this stack, in any heap that holds the world of σ, comes to its end -/
def At (E : Ev) (ad : Nat → Nat) (G : Gm) (nL pc : Nat) (L : List (Nat × Value)) (st : List Value) (σ : Sg) : Prop :=
  ∀ (H : Heap) (locs : List Loc) (ls : Array Slot), va_P E.2.1 classes (wl E ad σ) H → va_S (Aw ad) (gS G).heap H locs → lv_has ls nL L → W (gP G) E.1 (gE G) (gR G) (gS G) (gM G) (gA G) (gB G) (gN G) (gC G) H locs (gK G) (gZ G) (gQ G) (F0 (gM G) pc ls st)

def Wd (E : Ev) (ad : Nat → Nat) (σ : Sg) (U : State) : Prop := va_P E.2.1 classes (wl E ad σ) U.heap ∧ va_K E.2.1 classes (tyz E) U ∧ AdOk ad ∧ Fx ad U
def rmD (d : Nat) : Room := { frames := d, cells := 0, slots := 0, locals := 40 * d }
/-- a walk's fixed things: the machine, the method's bytes, the words, the tables -/
def Cx (E : Ev) (ad : Nat → Nat) (G : Gm) (own : String) (cc : ByteArray) (nL d : Nat) : Prop :=
  (gP G).tables.exec = Jvm.exec ∧ (gC G).code = cc ∧ (gC G).maxLocals = nL ∧ (gS G).vm.findClass own = some (gM G).cls ∧ (∀ w ∈ lw_g, w.before (gA G) (gS G) = true) ∧ va_K E.2.1 classes (tyz E) (gS G) ∧ AdOk ad ∧ Fx ad (gS G) ∧ (d ≤ (gR G).frames ∧ 40 * d ≤ (gR G).locals) ∧ (gK G ≤ (gR G).cells ∧ gZ G ≤ (gR G).slots)
section CXP
variable {E : Ev} {ad : Nat → Nat} {G : Gm} {own : String} {cc : ByteArray} {nL d : Nat}
theorem Cx.x (C : Cx E ad G own cc nL d) : (gP G).tables.exec = Jvm.exec := C.1
theorem Cx.b (C : Cx E ad G own cc nL d) : (gC G).code = cc := C.2.1
theorem Cx.ml (C : Cx E ad G own cc nL d) : (gC G).maxLocals = nL := C.2.2.1
theorem Cx.o (C : Cx E ad G own cc nL d) : (gS G).vm.findClass own = some (gM G).cls := C.2.2.2.1
theorem Cx.t (C : Cx E ad G own cc nL d) : ∀ w ∈ lw_g, w.before (gA G) (gS G) = true := C.2.2.2.2.1
theorem Cx.k (C : Cx E ad G own cc nL d) : va_K E.2.1 classes (tyz E) (gS G) := C.2.2.2.2.2.1
theorem Cx.a (C : Cx E ad G own cc nL d) : AdOk ad := C.2.2.2.2.2.2.1
theorem Cx.f (C : Cx E ad G own cc nL d) : Fx ad (gS G) := C.2.2.2.2.2.2.2.1
theorem Cx.r (C : Cx E ad G own cc nL d) : d ≤ (gR G).frames ∧ 40 * d ≤ (gR G).locals := C.2.2.2.2.2.2.2.2.1
theorem Cx.c (C : Cx E ad G own cc nL d) : gK G ≤ (gR G).cells ∧ gZ G ≤ (gR G).slots := C.2.2.2.2.2.2.2.2.2
end CXP
/-- a method's own end -/
def Rt (ad : Nat → Nat) (G : Gm) (rt : Option FieldType) (Qc : Array Value → State → Outcome → State → Prop) : Prop :=
  (gN G).sig.returnType = rt ∧ (gN G).locks = false ∧ gQ G = MQ (gB G) Qc (gA G) (gS G) 0 0 (Aw ad) ∧ gK G = 0 ∧ gZ G = 0
/-- THE CONTRACT: from the world of σ with these arguments the method returns r in a world of σ', with post -/
def Ct (E : Ev) (ad : Nat → Nat) (y : MethodName) (yc : ByteArray) (mL : Nat) (rt : Option FieldType) (d : Nat) (As : List Value) (σ : Sg) (post : Int32 → Sg → Prop) : Prop :=
  Met E.1 y (.code y yc mL rt :: lw_g) (rmD d) (va_Pc As (Wd E ad σ)) (va_Qi post (Wd E ad) (Aw ad)) 0 0 (Aw ad)
def CtV (E : Ev) (ad : Nat → Nat) (y : MethodName) (yc : ByteArray) (mL : Nat) (d : Nat) (As : List Value) (σ : Sg) (post : Sg → Prop) : Prop :=
  Met E.1 y (.code y yc mL none :: lw_g) (rmD d) (va_Pc As (Wd E ad σ)) (va_Qv post (Wd E ad) (Aw ad)) 0 0 (Aw ad)
theorem met_of {E : Ev} {ad : Nat → Nat} {y : MethodName} {yc : ByteArray} {mL d : Nat} {rt : Option FieldType} {As : List Value} {σ : Sg} {Qc : Array Value → State → Outcome → State → Prop} (own : String) (hown : y.cls = own) (hy : plainName y.cls = true) (L0 : List (Nat × Value)) (hL0 : lv_args 0 As = L0) (hlen : (lg_sl As).length ≤ mL)
    (body : ∀ G : Gm, Cx E ad G own yc mL d → Rt ad G rt Qc → At E ad G mL 0 L0 [] σ) : Met E.1 y (.code y yc mL rt :: lw_g) (rmD d) (va_Pc As (Wd E ad σ)) Qc 0 0 (Aw ad) := by
  refine Met.ofW (cc := yc) (maxL := mL) (ret := rt) hy rfl ?_
  intro p e s m args below meth c s₁ B hml hv
  obtain ⟨rfl, hP, hK, hA, hF⟩ := hv
  have hts := atoms_spec (ws := .code y yc mL rt :: lw_g) B.pre
  have hfc : s.vm.findClass own = some m.cls := hown ▸ findClass_of_methodNamed B.named
  have key := body (p, e, rmD d, s, m, As.toArray, below, meth, c, MQ below Qc As.toArray s 0 0 (Aw ad), 0, 0) ⟨B.exec, B.bytes, hml, hfc, fun w hw => hts w (List.mem_cons_of_mem _ hw), hK, hA, hF, ⟨Nat.le_refl _, Nat.le_refl _⟩, ⟨Nat.zero_le _, Nat.zero_le _⟩⟩ ⟨B.returns, B.notSynchronized, rfl, rfl, rfl⟩
  have hl := lv_entry As (n := mL) hlen
  rw [hL0] at hl
  rw [lg_entry_eq]
  exact key s.heap [] _ hP va_S.rf hl
theorem ct_of {E : Ev} {ad : Nat → Nat} {y : MethodName} {yc : ByteArray} {mL d : Nat} {rt : Option FieldType} {As : List Value} {σ : Sg} {post : Int32 → Sg → Prop} (own : String) (hown : y.cls = own) (hy : plainName y.cls = true) (L0 : List (Nat × Value)) (hL0 : lv_args 0 As = L0) (hlen : (lg_sl As).length ≤ mL)
    (body : ∀ G : Gm, Cx E ad G own yc mL d → Rt ad G rt (va_Qi post (Wd E ad) (Aw ad)) → At E ad G mL 0 L0 [] σ) : Ct E ad y yc mL rt d As σ post := met_of own hown hy L0 hL0 hlen body
theorem ctv_of {E : Ev} {ad : Nat → Nat} {y : MethodName} {yc : ByteArray} {mL d : Nat} {As : List Value} {σ : Sg} {post : Sg → Prop} (own : String) (hown : y.cls = own) (hy : plainName y.cls = true) (L0 : List (Nat × Value)) (hL0 : lv_args 0 As = L0) (hlen : (lg_sl As).length ≤ mL)
    (body : ∀ G : Gm, Cx E ad G own yc mL d → Rt ad G none (va_Qv post (Wd E ad) (Aw ad)) → At E ad G mL 0 L0 [] σ) : CtV E ad y yc mL d As σ post := met_of own hown hy L0 hL0 hlen body
/-! links, by the tables' words -/
def LkV (own : String) (idx : Nat) (y : MethodName) (yc : ByteArray) (mL : Nat) (rt : Option FieldType) (n : Nat) : Prop :=
  (∀ w ∈ ([.methodLink own idx y, .instanceMethod y, .selects y.cls y y, .initialized y.cls, .code y yc mL rt] : List Cond), w ∈ lw_g) ∧ (y.cls ≠ "java/lang/invoke/MethodHandle" ∧ y.cls ≠ "java/lang/invoke/VarHandle" ∧ (parseMethodDescriptor y.desc).map (fun d => d.parameters.length) = some n)
def LkS (own : String) (idx : Nat) (y : MethodName) (yc : ByteArray) (mL : Nat) (rt : Option FieldType) (n : Nat) : Prop :=
  (∀ w ∈ ([.methodLink own idx y, .static y, .initialized y.cls, .code y yc mL rt] : List Cond), w ∈ lw_g) ∧ (y.cls ≠ "java/lang/invoke/MethodHandle" ∧ y.cls ≠ "java/lang/invoke/VarHandle" ∧ (parseMethodDescriptor y.desc).map (fun d => d.parameters.length) = some n)
def LkF (own : String) (idx ci j : Nat) : Prop := ∃ (C : String) (T : u_T) (N : Nat), classes[ci]? = some (C, T, N) ∧ j < N ∧ (∀ w ∈ u_ws C T N, w ∈ lw_g) ∧ Cond.fieldLink own idx (T j).1 (T j).2.1 (T j).2.2.1 ∈ lw_g
def LkP (own : String) (idx ci j : Nat) (ty : FieldType) : Prop := ∃ (C : String) (T : u_T) (N : Nat) (ty0 : Nat → FieldType), classes[ci]? = some (C, T, N) ∧ j < N ∧ (∀ w ∈ u_ws C T N, w ∈ lw_g) ∧ Cond.fieldLink own idx (T j).1 (T j).2.1 (T j).2.2.1 ∈ lw_g ∧ (T j).2.2.2 = false ∧ (∀ k, k < N → parseFieldDescriptor (T k).2.2.1 = some (ty0 k)) ∧ (∀ a, a < N → ∀ b, b < N → a ≠ b → (T a).2.1 ≠ (T b).2.1) ∧ parseFieldDescriptor (T j).2.2.1 = some ty
theorem ta_inj {x y : Int32} (h : x.toInt = y.toInt) : x = y := Int32.toInt_inj.mp h
theorem ta_lo (x : Int32) : -2147483648 ≤ x.toInt := by have := Int32.le_toInt x; simpa using this
theorem ta_hi (x : Int32) : x.toInt ≤ 2147483647 := by have := Int32.toInt_lt x; omega
theorem ta_add {x y : Int32} (h : -2147483648 ≤ x.toInt + y.toInt ∧ x.toInt + y.toInt ≤ 2147483647) : (x + y).toInt = x.toInt + y.toInt := by
  rw [Int32.toInt_add]; exact Int.bmod_eq_of_le (by omega) (by omega)
theorem ta_sub {x y : Int32} (h : -2147483648 ≤ x.toInt - y.toInt ∧ x.toInt - y.toInt ≤ 2147483647) : (x - y).toInt = x.toInt - y.toInt := by
  rw [Int32.toInt_sub]; exact Int.bmod_eq_of_le (by omega) (by omega)
theorem ta_mul {x y : Int32} (h : -2147483648 ≤ x.toInt * y.toInt ∧ x.toInt * y.toInt ≤ 2147483647) : (x * y).toInt = x.toInt * y.toInt := by
  rw [Int32.toInt_mul]; exact Int.bmod_eq_of_le (by omega) (by omega)
theorem ta_mulL {n : Int} {x y : Int32} (hx : x.toInt = n) (h : -2147483648 ≤ n * y.toInt ∧ n * y.toInt ≤ 2147483647) : (x * y).toInt = n * y.toInt := by
  rw [ta_mul (by rw [hx]; exact h), hx]
theorem ta_mulR {n : Int} {x y : Int32} (hy : y.toInt = n) (h : -2147483648 ≤ n * x.toInt ∧ n * x.toInt ≤ 2147483647) : (x * y).toInt = n * x.toInt := by
  rw [ta_mul (by rw [hy, Int.mul_comm]; exact h), hy, Int.mul_comm]
theorem ta_in {i : Int32} {n : Nat} (h : 0 ≤ i.toInt ∧ i.toInt < n) : vp_in i n := vp_in_iff.mpr h
section RULES
variable {E : Ev} {ad : Nat → Nat} {G : Gm} {own : String} {cc : ByteArray} {nL d pc : Nat} {L : List (Nat × Value)} {st : List Value} {σ : Sg}
theorem At.sub {L' : List (Nat × Value)} (ks : List Nat) (hl : lv_pick L ks = L') (K : At E ad G nL pc L' st σ) : At E ad G nL pc L st σ := fun H locs ls hP hS h => K H locs ls hP hS (lv_sub h ks hl)
theorem r_iconst (C : Cx E ad G own cc nL d) {n : Int} (v : Int32) (hd : decode cc pc = .ok (.iconst n, 1)) (hv : Int32.ofInt n = v) (K : At E ad G nL (pc + 1) L (.int v :: st) σ) : At E ad G nL pc L st σ := fun H locs ls hP hS hl => lv_iconst C.x C.b hd hv (K H locs ls hP hS hl)
theorem r_bipush (C : Cx E ad G own cc nL d) {n : Int} (v : Int32) (hd : decode cc pc = .ok (.bipush n, 2)) (hv : (Int8.ofInt n).toInt32 = v) (K : At E ad G nL (pc + 2) L (.int v :: st) σ) : At E ad G nL pc L st σ := fun H locs ls hP hS hl => lv_bipush C.x C.b hd hv (K H locs ls hP hS hl)
theorem r_sipush (C : Cx E ad G own cc nL d) {n : Int} (v : Int32) (hd : decode cc pc = .ok (.sipush n, 3)) (hv : (Int16.ofInt n).toInt32 = v) (K : At E ad G nL (pc + 3) L (.int v :: st) σ) : At E ad G nL pc L st σ := fun H locs ls hP hS hl => lv_sipush C.x C.b hd hv (K H locs ls hP hS hl)
theorem r_ldc2 (C : Cx E ad G own cc nL d) {i : Nat} (v : Int64) (hw : Cond.constantLong own i v ∈ lw_g) (hd : decode cc pc = .ok (.ldc2_w i, 3)) (K : At E ad G nL (pc + 3) L (.long v :: st) σ) : At E ad G nL pc L st σ := fun H locs ls hP hS hl => lv_ldc2 C.x C.b C.o (C.t _ hw) hd (K H locs ls hP hS hl)
theorem r_ldcw (C : Cx E ad G own cc nL d) {i : Nat} (v : Int32) (hw : Cond.constant own i v ∈ lw_g) (hd : decode cc pc = .ok (.ldc_w i, 3)) (K : At E ad G nL (pc + 3) L (.int v :: st) σ) : At E ad G nL pc L st σ := fun H locs ls hP hS hl => lv_ldcw C.x C.b C.o (C.t _ hw) hd (K H locs ls hP hS hl)
theorem r_iload_n (C : Cx E ad G own cc nL d) {k : Fin 4} {i : Nat} {x : Int32} (j : Nat) (hd : decode cc pc = .ok (.iload_n k, 1)) (hi : (k : Nat) = i) (hL : L[j]? = some (i, .int x)) (K : At E ad G nL (pc + 1) L (.int x :: st) σ) : At E ad G nL pc L st σ := fun H locs ls hP hS hl => lv_iload_n C.x C.b hd hi (lv_at hl j hL) (K H locs ls hP hS hl)
theorem r_iload (C : Cx E ad G own cc nL d) {i : Nat} {x : Int32} (j : Nat) (hd : decode cc pc = .ok (.iload i, 2)) (hL : L[j]? = some (i, .int x)) (K : At E ad G nL (pc + 2) L (.int x :: st) σ) : At E ad G nL pc L st σ := fun H locs ls hP hS hl => lv_iload C.x C.b hd (lv_at hl j hL) (K H locs ls hP hS hl)
theorem r_lload_n (C : Cx E ad G own cc nL d) {k : Fin 4} {i : Nat} {x : Int64} (j : Nat) (hd : decode cc pc = .ok (.lload_n k, 1)) (hi : (k : Nat) = i) (hL : L[j]? = some (i, .long x)) (K : At E ad G nL (pc + 1) L (.long x :: st) σ) : At E ad G nL pc L st σ := fun H locs ls hP hS hl => lv_lload_n C.x C.b hd hi (lv_at hl j hL) (K H locs ls hP hS hl)
theorem r_aload_n (C : Cx E ad G own cc nL d) {k : Fin 4} {i : Nat} {x : Nat} (j : Nat) (hd : decode cc pc = .ok (.aload_n k, 1)) (hi : (k : Nat) = i) (hL : L[j]? = some (i, .ref x)) (K : At E ad G nL (pc + 1) L (.ref x :: st) σ) : At E ad G nL pc L st σ := fun H locs ls hP hS hl => lv_aload_n C.x C.b hd hi (lv_at hl j hL) (K H locs ls hP hS hl)
theorem r_istore_n (C : Cx E ad G own cc nL d) {k : Fin 4} {i : Nat} {x : Int32} (L' : List (Nat × Value)) (hd : decode cc pc = .ok (.istore_n k, 1)) (hi : (k : Nat) = i) (hn : i < nL) (hl : (i, Value.int x) :: L.filter (fun q => !(q.1 == i) && !(q.1 + 1 == i && q.2.category == 2)) = L') (K : At E ad G nL (pc + 1) L' st σ) : At E ad G nL pc L (.int x :: st) σ := fun H locs ls hP hS h => lv_istore_n C.x C.b hd hi h hn hl (fun ls' h' => K H locs ls' hP hS h')
theorem r_istore (C : Cx E ad G own cc nL d) {i : Nat} {x : Int32} (L' : List (Nat × Value)) (hd : decode cc pc = .ok (.istore i, 2)) (hn : i < nL) (hl : (i, Value.int x) :: L.filter (fun q => !(q.1 == i) && !(q.1 + 1 == i && q.2.category == 2)) = L') (K : At E ad G nL (pc + 2) L' st σ) : At E ad G nL pc L (.int x :: st) σ := fun H locs ls hP hS h => lv_istore C.x C.b hd h hn hl (fun ls' h' => K H locs ls' hP hS h')
theorem r_iinc (C : Cx E ad G own cc nL d) {i : Nat} {n : Int} {x : Int32} (j : Nat) (L' : Int32 → List (Nat × Value)) (hd : decode cc pc = .ok (.iinc i n, 3)) (hk : L[j]? = some (i, .int x)) (hm : (Int32.ofInt n).toInt = n) (hn : i < nL) (hb : -2147483648 ≤ x.toInt + n ∧ x.toInt + n ≤ 2147483647) (hl : ∀ z : Int32, (i, Value.int z) :: L.filter (fun q => !(q.1 == i) && !(q.1 + 1 == i && q.2.category == 2)) = L' z) (K : ∀ z : Int32, z.toInt = x.toInt + n → At E ad G nL (pc + 3) (L' z) st σ) : At E ad G nL pc L st σ := fun H locs ls hP hS h => lv_iinc C.x C.b hd h hk rfl hn (hl _) (fun ls' h' => K _ (by rw [ta_add (by rw [hm]; exact hb), hm]) H locs ls' hP hS h')
theorem r_iadd (C : Cx E ad G own cc nL d) {x y : Int32} (hd : decode cc pc = .ok (.iadd, 1)) (K : At E ad G nL (pc + 1) L (.int (x + y) :: st) σ) : At E ad G nL pc L (.int y :: .int x :: st) σ := fun H locs ls hP hS hl => lv_iadd C.x C.b hd (K H locs ls hP hS hl)
theorem r_isub (C : Cx E ad G own cc nL d) {x y : Int32} (hd : decode cc pc = .ok (.isub, 1)) (K : At E ad G nL (pc + 1) L (.int (x - y) :: st) σ) : At E ad G nL pc L (.int y :: .int x :: st) σ := fun H locs ls hP hS hl => lv_isub C.x C.b hd (K H locs ls hP hS hl)
theorem r_imul (C : Cx E ad G own cc nL d) {x y : Int32} (hd : decode cc pc = .ok (.imul, 1)) (K : At E ad G nL (pc + 1) L (.int (x * y) :: st) σ) : At E ad G nL pc L (.int y :: .int x :: st) σ := fun H locs ls hP hS hl => lv_imul C.x C.b hd (K H locs ls hP hS hl)
theorem r_iand (C : Cx E ad G own cc nL d) {x y : Int32} (hd : decode cc pc = .ok (.iand, 1)) (K : At E ad G nL (pc + 1) L (.int (x &&& y) :: st) σ) : At E ad G nL pc L (.int y :: .int x :: st) σ := fun H locs ls hP hS hl => lv_iand C.x C.b hd (K H locs ls hP hS hl)
theorem r_ior (C : Cx E ad G own cc nL d) {x y : Int32} (hd : decode cc pc = .ok (.ior, 1)) (K : At E ad G nL (pc + 1) L (.int (x ||| y) :: st) σ) : At E ad G nL pc L (.int y :: .int x :: st) σ := fun H locs ls hP hS hl => lv_ior C.x C.b hd (K H locs ls hP hS hl)
theorem r_ixor (C : Cx E ad G own cc nL d) {x y : Int32} (hd : decode cc pc = .ok (.ixor, 1)) (K : At E ad G nL (pc + 1) L (.int (x ^^^ y) :: st) σ) : At E ad G nL pc L (.int y :: .int x :: st) σ := fun H locs ls hP hS hl => lv_ixor C.x C.b hd (K H locs ls hP hS hl)
theorem r_ishl (C : Cx E ad G own cc nL d) {x y : Int32} (hd : decode cc pc = .ok (.ishl, 1)) (K : At E ad G nL (pc + 1) L (.int (x <<< (y &&& 31)) :: st) σ) : At E ad G nL pc L (.int y :: .int x :: st) σ := fun H locs ls hP hS hl => lv_ishl C.x C.b hd (K H locs ls hP hS hl)
theorem r_ishr (C : Cx E ad G own cc nL d) {x y : Int32} (hd : decode cc pc = .ok (.ishr, 1)) (K : At E ad G nL (pc + 1) L (.int (x >>> (y &&& 31)) :: st) σ) : At E ad G nL pc L (.int y :: .int x :: st) σ := fun H locs ls hP hS hl => lv_ishr C.x C.b hd (K H locs ls hP hS hl)
theorem r_iushr (C : Cx E ad G own cc nL d) {x y : Int32} (hd : decode cc pc = .ok (.iushr, 1)) (K : At E ad G nL (pc + 1) L (.int ((x.toUInt32 >>> (y.toUInt32 &&& Int32.toUInt32 31)).toInt32) :: st) σ) : At E ad G nL pc L (.int y :: .int x :: st) σ := fun H locs ls hP hS hl => lv_iushr C.x C.b hd rfl (K H locs ls hP hS hl)
theorem r_ineg (C : Cx E ad G own cc nL d) {x : Int32} (hd : decode cc pc = .ok (.ineg, 1)) (K : At E ad G nL (pc + 1) L (.int (-x) :: st) σ) : At E ad G nL pc L (.int x :: st) σ := fun H locs ls hP hS hl => lv_ineg C.x C.b hd (K H locs ls hP hS hl)
theorem r_idiv (C : Cx E ad G own cc nL d) {x y : Int32} (hd : decode cc pc = .ok (.idiv, 1)) (hne : ¬ y = 0) (K : At E ad G nL (pc + 1) L (.int (x / y) :: st) σ) : At E ad G nL pc L (.int y :: .int x :: st) σ := fun H locs ls hP hS hl => lv_idiv C.x C.b hd hne (K H locs ls hP hS hl)
theorem r_irem (C : Cx E ad G own cc nL d) {x y : Int32} (hd : decode cc pc = .ok (.irem, 1)) (hne : ¬ y = 0) (K : At E ad G nL (pc + 1) L (.int (x - x / y * y) :: st) σ) : At E ad G nL pc L (.int y :: .int x :: st) σ := fun H locs ls hP hS hl => lv_irem C.x C.b hd hne (K H locs ls hP hS hl)
theorem r_i2c (C : Cx E ad G own cc nL d) {x : Int32} (hd : decode cc pc = .ok (.i2c, 1)) (K : At E ad G nL (pc + 1) L (.int ((x.toUInt32 % 65536).toInt32) :: st) σ) : At E ad G nL pc L (.int x :: st) σ := fun H locs ls hP hS hl => lv_i2c C.x C.b hd rfl (K H locs ls hP hS hl)
theorem r_l2i (C : Cx E ad G own cc nL d) {x : Int64} (hd : decode cc pc = .ok (.l2i, 1)) (K : At E ad G nL (pc + 1) L (.int x.toInt32 :: st) σ) : At E ad G nL pc L (.long x :: st) σ := fun H locs ls hP hS hl => lv_l2i C.x C.b hd rfl (K H locs ls hP hS hl)
theorem r_i2l (C : Cx E ad G own cc nL d) {x : Int32} (hd : decode cc pc = .ok (.i2l, 1)) (K : At E ad G nL (pc + 1) L (.long x.toInt64 :: st) σ) : At E ad G nL pc L (.int x :: st) σ := fun H locs ls hP hS hl => lv_i2l C.x C.b hd rfl (K H locs ls hP hS hl)
theorem r_land (C : Cx E ad G own cc nL d) {x y : Int64} (hd : decode cc pc = .ok (.land, 1)) (K : At E ad G nL (pc + 1) L (.long (x &&& y) :: st) σ) : At E ad G nL pc L (.long y :: .long x :: st) σ := fun H locs ls hP hS hl => lv_land C.x C.b hd (K H locs ls hP hS hl)
theorem r_lor (C : Cx E ad G own cc nL d) {x y : Int64} (hd : decode cc pc = .ok (.lor, 1)) (K : At E ad G nL (pc + 1) L (.long (x ||| y) :: st) σ) : At E ad G nL pc L (.long y :: .long x :: st) σ := fun H locs ls hP hS hl => lv_lor C.x C.b hd (K H locs ls hP hS hl)
theorem r_lshl (C : Cx E ad G own cc nL d) {x : Int64} {y : Int32} (hd : decode cc pc = .ok (.lshl, 1)) (K : At E ad G nL (pc + 1) L (.long (x <<< (y.toInt64 &&& 63)) :: st) σ) : At E ad G nL pc L (.int y :: .long x :: st) σ := fun H locs ls hP hS hl => lv_lshl C.x C.b hd rfl (K H locs ls hP hS hl)
theorem r_lshr (C : Cx E ad G own cc nL d) {x : Int64} {y : Int32} (hd : decode cc pc = .ok (.lshr, 1)) (K : At E ad G nL (pc + 1) L (.long (x >>> (y.toInt64 &&& 63)) :: st) σ) : At E ad G nL pc L (.int y :: .long x :: st) σ := fun H locs ls hP hS hl => lv_lshr C.x C.b hd rfl (K H locs ls hP hS hl)
theorem r_lushr (C : Cx E ad G own cc nL d) {x : Int64} {y : Int32} (hd : decode cc pc = .ok (.lushr, 1)) (K : At E ad G nL (pc + 1) L (.long ((x.toUInt64 >>> (y.toInt64.toUInt64 &&& Int64.toUInt64 63)).toInt64) :: st) σ) : At E ad G nL pc L (.int y :: .long x :: st) σ := fun H locs ls hP hS hl => lv_lushr C.x C.b hd rfl (K H locs ls hP hS hl)
theorem r_dup (C : Cx E ad G own cc nL d) {v : Value} (hd : decode cc pc = .ok (.dup, 1)) (hc : v.category = 1) (K : At E ad G nL (pc + 1) L (v :: v :: st) σ) : At E ad G nL pc L (v :: st) σ := fun H locs ls hP hS hl => lv_dup C.x C.b hd hc (K H locs ls hP hS hl)
theorem r_pop (C : Cx E ad G own cc nL d) {v : Value} (hd : decode cc pc = .ok (.pop, 1)) (hc : v.category = 1) (K : At E ad G nL (pc + 1) L st σ) : At E ad G nL pc L (v :: st) σ := fun H locs ls hP hS hl => lv_pop C.x C.b hd hc (K H locs ls hP hS hl)
theorem r_goto (C : Cx E ad G own cc nL d) {off : Int} (tgt : Nat) (hd : decode cc pc = .ok (.goto off, 3)) (ht : (pc : Int) + off = (tgt : Int)) (K : At E ad G nL tgt L st σ) : At E ad G nL pc L st σ := fun H locs ls hP hS hl => lv_goto C.x C.b hd ht (K H locs ls hP hS hl)
/-- the number on top gets a name, and what is known of it -/
theorem r_nm {x : Int32} {P : Int32 → Prop} (hx : P x) (K : ∀ z : Int32, P z → At E ad G nL pc L (.int z :: st) σ) : At E ad G nL pc L (.int x :: st) σ := K x hx
theorem r_if_eq (C : Cx E ad G own cc nL d) {x : Int32} {off : Int} (tgt : Nat) (hd : decode cc pc = .ok (.ifCond .eq off, 3)) (ht : (pc : Int) + off = (tgt : Int)) (kt : x.toInt = 0 → At E ad G nL tgt L st σ) (kf : x.toInt ≠ 0 → At E ad G nL (pc + 3) L st σ) : At E ad G nL pc L (.int x :: st) σ := fun H locs ls hP hS hl => lv_if_eq C.x C.b hd ht (fun h => kt (by rw [h]; rfl) H locs ls hP hS hl) (fun h => kf (fun q => h (ta_inj (q.trans Int32.toInt_zero.symm))) H locs ls hP hS hl)
theorem r_if_ne (C : Cx E ad G own cc nL d) {x : Int32} {off : Int} (tgt : Nat) (hd : decode cc pc = .ok (.ifCond .ne off, 3)) (ht : (pc : Int) + off = (tgt : Int)) (kt : x.toInt ≠ 0 → At E ad G nL tgt L st σ) (kf : x.toInt = 0 → At E ad G nL (pc + 3) L st σ) : At E ad G nL pc L (.int x :: st) σ := fun H locs ls hP hS hl => lv_if_ne C.x C.b hd ht (fun h => kt (fun q => h (ta_inj (q.trans Int32.toInt_zero.symm))) H locs ls hP hS hl) (fun h => kf (by rw [h]; rfl) H locs ls hP hS hl)
theorem r_if_lt (C : Cx E ad G own cc nL d) {x : Int32} {off : Int} (tgt : Nat) (hd : decode cc pc = .ok (.ifCond .lt off, 3)) (ht : (pc : Int) + off = (tgt : Int)) (kt : x.toInt < 0 → At E ad G nL tgt L st σ) (kf : 0 ≤ x.toInt → At E ad G nL (pc + 3) L st σ) : At E ad G nL pc L (.int x :: st) σ := fun H locs ls hP hS hl => lv_if_lt C.x C.b hd ht (fun h => kt (Int32.lt_iff_toInt_lt.mp h) H locs ls hP hS hl) (fun h => kf (by have := Int32.not_lt.mp h; exact Int32.le_iff_toInt_le.mp this) H locs ls hP hS hl)
theorem r_if_ge (C : Cx E ad G own cc nL d) {x : Int32} {off : Int} (tgt : Nat) (hd : decode cc pc = .ok (.ifCond .ge off, 3)) (ht : (pc : Int) + off = (tgt : Int)) (kt : 0 ≤ x.toInt → At E ad G nL tgt L st σ) (kf : x.toInt < 0 → At E ad G nL (pc + 3) L st σ) : At E ad G nL pc L (.int x :: st) σ := fun H locs ls hP hS hl => lv_if_ge C.x C.b hd ht (fun h => kt (Int32.le_iff_toInt_le.mp h) H locs ls hP hS hl) (fun h => kf (by have := Int32.not_le.mp h; exact Int32.lt_iff_toInt_lt.mp this) H locs ls hP hS hl)
theorem r_if_gt (C : Cx E ad G own cc nL d) {x : Int32} {off : Int} (tgt : Nat) (hd : decode cc pc = .ok (.ifCond .gt off, 3)) (ht : (pc : Int) + off = (tgt : Int)) (kt : 0 < x.toInt → At E ad G nL tgt L st σ) (kf : x.toInt ≤ 0 → At E ad G nL (pc + 3) L st σ) : At E ad G nL pc L (.int x :: st) σ := fun H locs ls hP hS hl => lv_if_gt C.x C.b hd ht (fun h => kt (Int32.lt_iff_toInt_lt.mp h) H locs ls hP hS hl) (fun h => kf (by have := Int32.not_lt.mp h; exact Int32.le_iff_toInt_le.mp this) H locs ls hP hS hl)
theorem r_if_le (C : Cx E ad G own cc nL d) {x : Int32} {off : Int} (tgt : Nat) (hd : decode cc pc = .ok (.ifCond .le off, 3)) (ht : (pc : Int) + off = (tgt : Int)) (kt : x.toInt ≤ 0 → At E ad G nL tgt L st σ) (kf : 0 < x.toInt → At E ad G nL (pc + 3) L st σ) : At E ad G nL pc L (.int x :: st) σ := fun H locs ls hP hS hl => lv_if_le C.x C.b hd ht (fun h => kt (Int32.le_iff_toInt_le.mp h) H locs ls hP hS hl) (fun h => kf (by have := Int32.not_le.mp h; exact Int32.lt_iff_toInt_lt.mp this) H locs ls hP hS hl)
theorem r_icmp_eq (C : Cx E ad G own cc nL d) {x y : Int32} {off : Int} (tgt : Nat) (hd : decode cc pc = .ok (.if_icmp .eq off, 3)) (ht : (pc : Int) + off = (tgt : Int)) (kt : x.toInt = y.toInt → At E ad G nL tgt L st σ) (kf : x.toInt ≠ y.toInt → At E ad G nL (pc + 3) L st σ) : At E ad G nL pc L (.int y :: .int x :: st) σ := fun H locs ls hP hS hl => lv_icmp_eq C.x C.b hd ht (fun h => kt (by rw [h]) H locs ls hP hS hl) (fun h => kf (fun q => h (ta_inj (q))) H locs ls hP hS hl)
theorem r_icmp_ne (C : Cx E ad G own cc nL d) {x y : Int32} {off : Int} (tgt : Nat) (hd : decode cc pc = .ok (.if_icmp .ne off, 3)) (ht : (pc : Int) + off = (tgt : Int)) (kt : x.toInt ≠ y.toInt → At E ad G nL tgt L st σ) (kf : x.toInt = y.toInt → At E ad G nL (pc + 3) L st σ) : At E ad G nL pc L (.int y :: .int x :: st) σ := fun H locs ls hP hS hl => lv_icmp_ne C.x C.b hd ht (fun h => kt (fun q => h (ta_inj (q))) H locs ls hP hS hl) (fun h => kf (by rw [h]) H locs ls hP hS hl)
theorem r_icmp_lt (C : Cx E ad G own cc nL d) {x y : Int32} {off : Int} (tgt : Nat) (hd : decode cc pc = .ok (.if_icmp .lt off, 3)) (ht : (pc : Int) + off = (tgt : Int)) (kt : x.toInt < y.toInt → At E ad G nL tgt L st σ) (kf : y.toInt ≤ x.toInt → At E ad G nL (pc + 3) L st σ) : At E ad G nL pc L (.int y :: .int x :: st) σ := fun H locs ls hP hS hl => lv_icmp_lt C.x C.b hd ht (fun h => kt (Int32.lt_iff_toInt_lt.mp h) H locs ls hP hS hl) (fun h => kf (by have := Int32.not_lt.mp h; exact Int32.le_iff_toInt_le.mp this) H locs ls hP hS hl)
theorem r_icmp_ge (C : Cx E ad G own cc nL d) {x y : Int32} {off : Int} (tgt : Nat) (hd : decode cc pc = .ok (.if_icmp .ge off, 3)) (ht : (pc : Int) + off = (tgt : Int)) (kt : y.toInt ≤ x.toInt → At E ad G nL tgt L st σ) (kf : x.toInt < y.toInt → At E ad G nL (pc + 3) L st σ) : At E ad G nL pc L (.int y :: .int x :: st) σ := fun H locs ls hP hS hl => lv_icmp_ge C.x C.b hd ht (fun h => kt (Int32.le_iff_toInt_le.mp h) H locs ls hP hS hl) (fun h => kf (by have := Int32.not_le.mp h; exact Int32.lt_iff_toInt_lt.mp this) H locs ls hP hS hl)
theorem r_icmp_gt (C : Cx E ad G own cc nL d) {x y : Int32} {off : Int} (tgt : Nat) (hd : decode cc pc = .ok (.if_icmp .gt off, 3)) (ht : (pc : Int) + off = (tgt : Int)) (kt : y.toInt < x.toInt → At E ad G nL tgt L st σ) (kf : x.toInt ≤ y.toInt → At E ad G nL (pc + 3) L st σ) : At E ad G nL pc L (.int y :: .int x :: st) σ := fun H locs ls hP hS hl => lv_icmp_gt C.x C.b hd ht (fun h => kt (Int32.lt_iff_toInt_lt.mp h) H locs ls hP hS hl) (fun h => kf (by have := Int32.not_lt.mp h; exact Int32.le_iff_toInt_le.mp this) H locs ls hP hS hl)
theorem r_icmp_le (C : Cx E ad G own cc nL d) {x y : Int32} {off : Int} (tgt : Nat) (hd : decode cc pc = .ok (.if_icmp .le off, 3)) (ht : (pc : Int) + off = (tgt : Int)) (kt : x.toInt ≤ y.toInt → At E ad G nL tgt L st σ) (kf : y.toInt < x.toInt → At E ad G nL (pc + 3) L st σ) : At E ad G nL pc L (.int y :: .int x :: st) σ := fun H locs ls hP hS hl => lv_icmp_le C.x C.b hd ht (fun h => kt (Int32.le_iff_toInt_le.mp h) H locs ls hP hS hl) (fun h => kf (by have := Int32.not_le.mp h; exact Int32.lt_iff_toInt_lt.mp this) H locs ls hP hS hl)
theorem r_tblOut (C : Cx E ad G own cc nL d) {dflt lo hi : Int} {offs : Array Int} {len : Nat} {x : Int32} (tgt : Nat) (hd : decode cc pc = .ok (.tableswitch dflt lo hi offs, len)) (h : x.toInt < lo ∨ hi < x.toInt) (ht : (pc : Int) + dflt = (tgt : Int)) (K : At E ad G nL tgt L st σ) : At E ad G nL pc L (.int x :: st) σ := fun H locs ls hP hS hl => lv_tableOut C.x C.b hd h ht (K H locs ls hP hS hl)
theorem r_tblIn (C : Cx E ad G own cc nL d) {dflt lo hi : Int} {offs : Array Int} {len : Nat} {x : Int32} {off : Int} (v : Int) (tgt : Nat) (hd : decode cc pc = .ok (.tableswitch dflt lo hi offs, len)) (hx : x.toInt = v) (h1 : ¬ v < lo) (h2 : ¬ hi < v) (ho : offs[(v - lo).toNat]? = some off) (ht : (pc : Int) + off = (tgt : Int)) (K : At E ad G nL tgt L st σ) : At E ad G nL pc L (.int x :: st) σ := fun H locs ls hP hS hl => lv_tableIn C.x C.b hd (by rw [hx]; exact h1) (by rw [hx]; exact h2) (by rw [hx]; exact ho) ht (K H locs ls hP hS hl)
theorem r_get (C : Cx E ad G own cc nL d) {idx ci j k : Nat} {fs : List Value} {v : Value} (g : LkF own idx ci j) (hk : k < 70) (he : ent E.2.2.1 E.2.2.2 ad k (σ k) = .inr (ci, fs)) (hv : fs[j]? = some v) (hd : decode cc pc = .ok (.getfield idx, 3)) (K : At E ad G nL (pc + 3) L (v :: st) σ) : At E ad G nL pc L (.ref (ad k) :: st) σ := by
  intro H locs ls hP hS hl
  obtain ⟨C1, T, N, g1, g2, g3, g4⟩ := g
  exact va_get (C := C1) (T := T) (N := N) C.x C.b C.t g3 C.o C.k hP k ((wld_get hk).trans (by rw [he])) g1 j g2 (C.t _ g4) (fun _ h => h) hv hd (K H locs ls hP hS hl)
theorem r_put (C : Cx E ad G own cc nL d) {idx ci j k : Nat} {fs : List Value} {v : Int32} (g : LkP own idx ci j .int) (hk : k < 70) (he : ent E.2.2.1 E.2.2.2 ad k (σ k) = .inr (ci, fs)) (hj : j < fs.length) (hs : ent E.2.2.1 E.2.2.2 ad k (upd (σ k) j v) = .inr (ci, fs.set j (.int v))) (hd : decode cc pc = .ok (.putfield idx, 3)) (K : At E ad G nL (pc + 3) L st (sUp σ k j v)) : At E ad G nL pc L (.int v :: .ref (ad k) :: st) σ := by
  intro H locs ls hP hS hl
  obtain ⟨C1, T, N, ty0, g1, g2, g3, g4, g5, g6, g7, g8⟩ := g
  refine va_put (C := C1) (T := T) (N := N) (ty := .int) C.x C.b C.t g3 ty0 g6 g7 C.o C.k hP (wld_D C.a) hS k ((wld_get hk).trans (by rw [he])) g1 j g2 (C.t _ g4) (fun _ h => h) g5 g8 rfl rfl hj hd (fun H1 locs1 hP1 _ hS1 => K H1 locs1 ls ?_ hS1 hl)
  rw [wld_set (σ' := sUp σ k j v) hk (by rw [sUp_eq]; exact hs) (fun i hi => sUp_ne hi)] at hP1
  exact hP1
theorem r_putz (C : Cx E ad G own cc nL d) {idx ci j k : Nat} {fs : List Value} {v : Int32} (g : LkP own idx ci j .boolean) (hk : k < 70) (hv : v = 0 ∨ v = 1) (he : ent E.2.2.1 E.2.2.2 ad k (σ k) = .inr (ci, fs)) (hj : j < fs.length) (hs : ent E.2.2.1 E.2.2.2 ad k (upd (σ k) j v) = .inr (ci, fs.set j (.int v))) (hd : decode cc pc = .ok (.putfield idx, 3)) (K : At E ad G nL (pc + 3) L st (sUp σ k j v)) : At E ad G nL pc L (.int v :: .ref (ad k) :: st) σ := by
  intro H locs ls hP hS hl
  obtain ⟨C1, T, N, ty0, g1, g2, g3, g4, g5, g6, g7, g8⟩ := g
  refine va_put (C := C1) (T := T) (N := N) (ty := .boolean) C.x C.b C.t g3 ty0 g6 g7 C.o C.k hP (wld_D C.a) hS k ((wld_get hk).trans (by rw [he])) g1 j g2 (C.t _ g4) (fun _ h => h) g5 g8 (by rcases hv with rfl | rfl <;> decide) (by rcases hv with rfl | rfl <;> decide) hj hd (fun H1 locs1 hP1 _ hS1 => K H1 locs1 ls ?_ hS1 hl)
  rw [wld_set (σ' := sUp σ k j v) hk (by rw [sUp_eq]; exact hs) (fun i hi => sUp_ne hi)] at hP1
  exact hP1
theorem r_iald (C : Cx E ad G own cc nL d) {k n : Nat} {i : Int32} (hk : k < 70) (he : ent E.2.2.1 E.2.2.2 ad k (σ k) = .inl (E.2.2.1, n, .inl (σ k))) (hi : 0 ≤ i.toInt ∧ i.toInt < n) (v : Int32) (hv : σ k i.toInt.toNat = v) (hd : decode cc pc = .ok (.iaload, 1)) (K : At E ad G nL (pc + 1) L (.int v :: st) σ) : At E ad G nL pc L (.int i :: .ref (ad k) :: st) σ := by
  intro H locs ls hP hS hl
  subst hv
  exact va_iald C.x C.b C.k hP k 0 ((wld_get hk).trans (by rw [he])) rfl (ta_in hi) hd (K H locs ls hP hS hl)
theorem r_zald (C : Cx E ad G own cc nL d) {k n : Nat} {i : Int32} (hk : k < 70) (he : ent E.2.2.1 E.2.2.2 ad k (σ k) = .inl (E.2.2.2, n, .inl (σ k))) (hi : 0 ≤ i.toInt ∧ i.toInt < n) (v : Int32) (hv : σ k i.toInt.toNat = v) (hd : decode cc pc = .ok (.baload, 1)) (K : At E ad G nL (pc + 1) L (.int v :: st) σ) : At E ad G nL pc L (.int i :: .ref (ad k) :: st) σ := by
  intro H locs ls hP hS hl
  subst hv
  exact va_zald C.x C.b C.k hP k 1 ((wld_get hk).trans (by rw [he])) rfl (ta_in hi) hd (K H locs ls hP hS hl)
theorem r_iast (C : Cx E ad G own cc nL d) {k n : Nat} {i x : Int32} (hk : k < 70) (he : ∀ f, ent E.2.2.1 E.2.2.2 ad k f = .inl (E.2.2.1, n, .inl f)) (hi : 0 ≤ i.toInt ∧ i.toInt < n) (hd : decode cc pc = .ok (.iastore, 1)) (K : At E ad G nL (pc + 1) L st (sUp σ k i.toInt.toNat x)) : At E ad G nL pc L (.int x :: .int i :: .ref (ad k) :: st) σ := by
  intro H locs ls hP hS hl
  refine va_iast C.x C.b C.k hP (wld_D C.a) hS k 0 ((wld_get hk).trans (by rw [he])) rfl (ta_in hi) hd (fun H1 locs1 hP1 _ hS1 => K H1 locs1 ls ?_ hS1 hl)
  rw [wld_set (σ' := sUp σ k i.toInt.toNat x) hk (by rw [sUp_eq, he]; rfl) (fun i hi => sUp_ne hi)] at hP1
  exact hP1
theorem r_zast (C : Cx E ad G own cc nL d) {k n : Nat} {i x : Int32} (hk : k < 70) (he : ∀ f, ent E.2.2.1 E.2.2.2 ad k f = .inl (E.2.2.2, n, .inl f)) (hx : x.toInt = 0 ∨ x.toInt = 1) (hi : 0 ≤ i.toInt ∧ i.toInt < n) (hd : decode cc pc = .ok (.bastore, 1)) (K : At E ad G nL (pc + 1) L st (sUp σ k i.toInt.toNat x)) : At E ad G nL pc L (.int x :: .int i :: .ref (ad k) :: st) σ := by
  intro H locs ls hP hS hl
  have hn : vp_nar .boolean x = x := by
    rcases hx with h | h
    · rw [show x = 0 from ta_inj h]; decide
    · rw [show x = 1 from ta_inj h]; decide
  refine va_zast C.x C.b C.k hP (wld_D C.a) hS k 1 ((wld_get hk).trans (by rw [he])) rfl (ta_in hi) hd (fun H1 locs1 hP1 _ hS1 => K H1 locs1 ls ?_ hS1 hl)
  rw [wld_set (σ' := sUp σ k i.toInt.toNat x) hk (by rw [sUp_eq, he, hn]; rfl) (fun i hi => sUp_ne hi)] at hP1
  exact hP1
theorem r_alen (C : Cx E ad G own cc nL d) {k n : Nat} (v : Int32) (hk : k < 70) (he : ent E.2.2.1 E.2.2.2 ad k (σ k) = .inl (E.2.2.1, n, .inl (σ k))) (hv : Int32.ofNat n = v) (hd : decode cc pc = .ok (.arraylength, 1)) (K : At E ad G nL (pc + 1) L (.int v :: st) σ) : At E ad G nL pc L (.ref (ad k) :: st) σ := by
  intro H locs ls hP hS hl
  exact va_alen C.x C.b C.k hP k 0 ((wld_get hk).trans (by rw [he])) rfl hv hd (K H locs ls hP hS hl)
theorem r_min (C : Cx E ad G own cc nL d) {idx : Nat} {x y : Int32} (hw : ∀ w ∈ ([Cond.methodLink own idx Lib.Math.min.name, Cond.static Lib.Math.min.name, Cond.initialized "java/lang/Math", Cond.code Lib.Math.min.name Lib.Math.min.code 2 (some .int)] : List Cond), w ∈ lw_g) (hdd : 1 ≤ d) (hr : st.length ≤ 4) (hd : decode cc pc = .ok (.invokestatic idx, 3)) (K : ∀ z : Int32, (z.toInt = x.toInt ∨ z.toInt = y.toInt) ∧ z.toInt ≤ x.toInt ∧ z.toInt ≤ y.toInt → At E ad G nL (pc + 3) L (.int z :: st) σ) : At E ad G nL pc L (.int y :: .int x :: st) σ := by
  intro H locs ls hP hS hl
  have hc : ∀ v : Value, v.category ≤ 2 := fun v => by rcases lv_cat v with h | h <;> omega
  have hsum : (st.map fun v => v.category).sum ≤ 2 * st.length := by
    clear hd K
    induction st with
    | nil => simp
    | cons a t ih => simp only [List.map_cons, List.sum_cons, List.length_cons]; have := hc a; have := ih (by simp only [List.length_cons] at hr; omega); omega
  have hR := C.r
  refine va_mmin C.x C.b (by rw [C.ml]; exact hl.1.symm) C.o (C.t _ (hw _ (by simp))) (C.t _ (hw _ (by simp))) (C.t _ (hw _ (by simp))) (C.t _ (hw _ (by simp))) (by omega) (by omega) C.c.1 C.c.2 hd (K _ ?_ H locs ls hP hS hl)
  split
  · rename_i h
    have := Int32.lt_iff_toInt_lt.mp h
    omega
  · rename_i h
    have := Int32.le_iff_toInt_le.mp (Int32.not_lt.mp h)
    omega
def sSet (σ : Sg) (k : Nat) (f : Nat → Int32) : Sg := fun a => if a = k then f else σ a
theorem r_copy (C : Cx E ad G own cc nL d) {idx k0 k1 n : Nat} {m : Int32} (h0 : k0 < 70) (h1 : k1 < 70) (e0 : ∀ f, ent E.2.2.1 E.2.2.2 ad k0 f = .inl (E.2.2.1, n, .inl f)) (e1 : ∀ f, ent E.2.2.1 E.2.2.2 ad k1 f = .inl (E.2.2.1, n, .inl f)) (hm : 0 ≤ m.toInt ∧ m.toInt ≤ n) (hw : ∀ w ∈ ([Cond.methodLink own idx arraycopyName, Cond.native arraycopyName, Cond.static arraycopyName, Cond.initialized "java/lang/System"] : List Cond), w ∈ lw_g) (hdd : 2 ≤ d) (hr : st.length ≤ 2) (hd : decode cc pc = .ok (.invokestatic idx, 3)) (K : At E ad G nL (pc + 3) L st (sSet σ k1 (va_cpy (σ k0) (σ k1) 0 0 m.toInt.toNat))) : At E ad G nL pc L (.int m :: .int 0 :: .ref (ad k1) :: .int 0 :: .ref (ad k0) :: st) σ := by
  intro H locs ls hP hS hl
  have hc : ∀ v : Value, v.category ≤ 2 := fun v => by rcases lv_cat v with h | h <;> omega
  have hsum : (st.map fun v => v.category).sum ≤ 4 := by
    match st, hr with
    | [], _ => simp
    | [a], _ => simp; have := hc a; omega
    | [a, b], _ => simp; have := hc a; have := hc b; omega
  have hR := C.r
  refine va_copyi C.x C.b (by rw [C.ml]; exact hl.1.symm) C.o (C.t _ (hw _ (by simp))) (C.t _ (hw _ (by simp))) (C.t _ (hw _ (by simp))) (C.t _ (hw _ (by simp))) C.k hP (wld_D C.a) hS k0 k1 0 0 ((wld_get h0).trans (by rw [e0])) ((wld_get h1).trans (by rw [e1])) rfl rfl rfl (sp := 0) (dp := 0) (n := m) (by decide) (by decide) (by rw [Int32.lt_iff_toInt_lt]; show ¬ m.toInt < 0; omega) (by show 0 + m.toInt.toNat ≤ n; omega) (by show 0 + m.toInt.toNat ≤ n; omega) (fun _ _ => rfl) (by omega) ?_ hd (fun H1 locs1 hP1 _ hS1 => K H1 locs1 ls ?_ hS1 hl)
  · have : nativeFrameWords "java/lang/System" "arraycopy" 5 ≤ 20 := by decide
    omega
  · rw [wld_set (σ' := sSet σ k1 (va_cpy (σ k0) (σ k1) 0 0 m.toInt.toNat)) h1 (by rw [e1]; show _ = Sum.inl (_, _, Sum.inl (va_cpy (σ k0) (σ k1) 0 0 m.toInt.toNat)); rw [show sSet σ k1 (va_cpy (σ k0) (σ k1) 0 0 m.toInt.toNat) k1 = va_cpy (σ k0) (σ k1) 0 0 m.toInt.toNat from if_pos rfl]) (fun i hi => if_neg hi)] at hP1
    exact hP1
theorem fb {E : Ev} {ad : Nat → Nat} {As : List Value} {σ : Sg} : FrameBlind (va_Pc As (Wd E ad σ)) := fun a U g mk q => by
  obtain ⟨h0, h1, h2, h3, h4⟩ := q
  exact ⟨h0, h1, va_K.moved (u := U) (U := U.calling g mk a) (Vm.Alike.refl U.vm) h2, h3, h4.same rfl rfl⟩
theorem pre_at (C : Cx E ad G own cc nL d) {As : List Value} {H : Heap} {locs : List Loc} (hP : va_P E.2.1 classes (wl E ad σ) H) (hS : va_S (Aw ad) (gS G).heap H locs) : ∀ U : State, U.heap = H → (gS G).WarmedH U.vm → va_Pc As (Wd E ad σ) As.toArray U := fun U hU hW => ⟨rfl, by rw [hU]; exact hP, va_K.moved hW.alike C.k, C.a, C.f.to hW (fun a h1 h2 => by rw [hU]; exact hS.2.1 a h1 h2)⟩
theorem room_at (C : Cx E ad G own cc nL d) {mL dy : Nat} (hd : dy + 1 ≤ d) (hm : mL ≤ 21) : (rmD dy).frames + 1 ≤ (gR G).frames ∧ 8 + (mL + 11) + (rmD dy).locals ≤ (gR G).locals := by
  obtain ⟨h1, h2⟩ := C.r
  refine ⟨?_, ?_⟩
  · show dy + 1 ≤ _
    omega
  · show 8 + (mL + 11) + 40 * dy ≤ _
    omega
theorem run_V (C : Cx E ad G own cc nL d) {y : MethodName} {yc : ByteArray} {mL dy idx n k ci N : Nat} {rt : Option FieldType} {T : u_T} {fs : List Value} {Qc : Array Value → State → Outcome → State → Prop} {As rest : List Value} {H : Heap} {locs : List Loc} {ls : Array Slot} (hM : Met E.1 y (.code y yc mL rt :: lw_g) (rmD dy) (va_Pc (.ref (ad k) :: As) (Wd E ad σ)) Qc 0 0 (Aw ad)) (lk : LkV own idx y yc mL rt n) (hk : k < 70) (he : ent E.2.2.1 E.2.2.2 ad k (σ k) = .inr (ci, fs)) (hc : classes[ci]? = some (y.cls, T, N)) (hdd : dy + 1 ≤ d) (hm : mL ≤ 21) (hn : As.length = n) (hr : (rest.map fun v => v.category).sum ≤ 8) (hd : decode cc pc = .ok (.invokevirtual idx, 3)) (hP : va_P E.2.1 classes (wl E ad σ) H) (hS : va_S (Aw ad) (gS G).heap H locs) (hl : lv_has ls nL L) :
    va_Run (gP G) E.1 (gE G) (gR G) (gS G) (gM G) (gA G) (gB G) (gN G) (gC G) H locs (gK G) (gZ G) 0 0 (F0 (gM G) pc ls (As.reverse ++ .ref (ad k) :: rest)) rest (Qc (Value.ref (ad k) :: As).toArray) (Aw ad) := by
  obtain ⟨l1, l2⟩ := lk
  have hT : GoodIn lw_g (wsV own idx y.cls y (.code y yc mL rt :: lw_g)) := gI (fun w hw => by
    unfold wsV at hw
    rcases List.mem_append.mp hw with h | h
    · simp only [List.mem_cons, List.not_mem_nil, or_false] at h
      rcases h with rfl | rfl | rfl | rfl <;> exact l1 _ (by simp)
    · rcases List.mem_cons.mp h with rfl | h
      · exact l1 _ (by simp)
      · exact h)
  exact va_runV (C := y.cls) (As := As) (rest := rest) ⟨C.x, C.b, C.ml, C.o, C.t⟩ hM (cwV n C.t hT rfl rfl rfl ⟨rfl, l2⟩ (room_at C hdd hm)) ⟨fb, va_recv C.k hP hc ((wld_get hk).trans (by rw [he])), pre_at C hP hS⟩ rfl hn hl.1 rfl (lv_room hr) hd C.c
theorem run_S (C : Cx E ad G own cc nL d) {y : MethodName} {yc : ByteArray} {mL dy idx n : Nat} {rt : Option FieldType} {Qc : Array Value → State → Outcome → State → Prop} {As rest : List Value} {H : Heap} {locs : List Loc} {ls : Array Slot} (hM : Met E.1 y (.code y yc mL rt :: lw_g) (rmD dy) (va_Pc As (Wd E ad σ)) Qc 0 0 (Aw ad)) (lk : LkS own idx y yc mL rt n) (hdd : dy + 1 ≤ d) (hm : mL ≤ 21) (hn : As.length = n) (hr : (rest.map fun v => v.category).sum ≤ 8) (hd : decode cc pc = .ok (.invokestatic idx, 3)) (hP : va_P E.2.1 classes (wl E ad σ) H) (hS : va_S (Aw ad) (gS G).heap H locs) (hl : lv_has ls nL L) :
    va_Run (gP G) E.1 (gE G) (gR G) (gS G) (gM G) (gA G) (gB G) (gN G) (gC G) H locs (gK G) (gZ G) 0 0 (F0 (gM G) pc ls (As.reverse ++ rest)) rest (Qc As.toArray) (Aw ad) := by
  obtain ⟨l1, l2⟩ := lk
  have hT : GoodIn lw_g (va_wsS own idx y (.code y yc mL rt :: lw_g)) := gI (fun w hw => by
    unfold va_wsS at hw
    rcases List.mem_append.mp hw with h | h
    · simp only [List.mem_cons, List.not_mem_nil, or_false] at h
      rcases h with rfl | rfl | rfl <;> exact l1 _ (by simp)
    · rcases List.mem_cons.mp h with rfl | h
      · exact l1 _ (by simp)
      · exact h)
  exact va_runS (As := As) (rest := rest) ⟨C.x, C.b, C.ml, C.o, C.t⟩ hM (va_cwS n C.t hT rfl rfl rfl l2 (room_at C hdd hm)) ⟨fb, pre_at C hP hS⟩ rfl hn hl.1 rfl (lv_room hr) hd C.c
theorem r_callV (C : Cx E ad G own cc nL d) {y : MethodName} {yc : ByteArray} {mL dy idx n k ci N : Nat} {rt : Option FieldType} {T : u_T} {fs : List Value} {post : Int32 → Sg → Prop} (As rest : List Value) (hM : Ct E ad y yc mL rt dy (.ref (ad k) :: As) σ post) (lk : LkV own idx y yc mL rt n) (hk : k < 70) (he : ent E.2.2.1 E.2.2.2 ad k (σ k) = .inr (ci, fs)) (hc : classes[ci]? = some (y.cls, T, N)) (hdd : dy + 1 ≤ d) (hm : mL ≤ 21) (hn : As.length = n) (hst : st = As.reverse ++ .ref (ad k) :: rest) (hr : (rest.map fun v => v.category).sum ≤ 8) (hd : decode cc pc = .ok (.invokevirtual idx, 3))
    (K : ∀ (r : Int32) (τ : Sg), post r τ → At E ad G nL (pc + 3) L (.int r :: rest) τ) : At E ad G nL pc L st σ := by
  intro H locs ls hP hS hl
  subst hst
  exact va_calli (run_V C hM lk hk he hc hdd hm hn hr hd hP hS hl) hS (fun _ _ h => h) (fun _ h => h) (fun r τ t H1 locs1 ht hvm hp hB _ _ hS1 => K r τ hp H1 locs1 ls (by have h1 := hB.1; rw [ht] at h1; exact h1) hS1 hl)
theorem r_callVv (C : Cx E ad G own cc nL d) {y : MethodName} {yc : ByteArray} {mL dy idx n k ci N : Nat} {T : u_T} {fs : List Value} {post : Sg → Prop} (As rest : List Value) (hM : CtV E ad y yc mL dy (.ref (ad k) :: As) σ post) (lk : LkV own idx y yc mL none n) (hk : k < 70) (he : ent E.2.2.1 E.2.2.2 ad k (σ k) = .inr (ci, fs)) (hc : classes[ci]? = some (y.cls, T, N)) (hdd : dy + 1 ≤ d) (hm : mL ≤ 21) (hn : As.length = n) (hst : st = As.reverse ++ .ref (ad k) :: rest) (hr : (rest.map fun v => v.category).sum ≤ 8) (hd : decode cc pc = .ok (.invokevirtual idx, 3))
    (K : ∀ (τ : Sg), post τ → At E ad G nL (pc + 3) L rest τ) : At E ad G nL pc L st σ := by
  intro H locs ls hP hS hl
  subst hst
  exact va_callv (run_V C hM lk hk he hc hdd hm hn hr hd hP hS hl) hS (fun _ _ h => h) (fun _ h => h) (fun τ t H1 locs1 ht hvm hp hB _ _ hS1 => K τ hp H1 locs1 ls (by have h1 := hB.1; rw [ht] at h1; exact h1) hS1 hl)
theorem r_callS (C : Cx E ad G own cc nL d) {y : MethodName} {yc : ByteArray} {mL dy idx n : Nat} {rt : Option FieldType} {post : Int32 → Sg → Prop} (As rest : List Value) (hM : Ct E ad y yc mL rt dy As σ post) (lk : LkS own idx y yc mL rt n) (hdd : dy + 1 ≤ d) (hm : mL ≤ 21) (hn : As.length = n) (hst : st = As.reverse ++ rest) (hr : (rest.map fun v => v.category).sum ≤ 8) (hd : decode cc pc = .ok (.invokestatic idx, 3))
    (K : ∀ (r : Int32) (τ : Sg), post r τ → At E ad G nL (pc + 3) L (.int r :: rest) τ) : At E ad G nL pc L st σ := by
  intro H locs ls hP hS hl
  subst hst
  exact va_calli (run_S C hM lk hdd hm hn hr hd hP hS hl) hS (fun _ _ h => h) (fun _ h => h) (fun r τ t H1 locs1 ht hvm hp hB _ _ hS1 => K r τ hp H1 locs1 ls (by have h1 := hB.1; rw [ht] at h1; exact h1) hS1 hl)
theorem r_callT (C : Cx E ad G own cc nL d) {y : MethodName} {yc : ByteArray} {mL dy idx n i : Nat} {rt : Option FieldType} {post : Int32 → Sg → Prop} (As rest : List Value) (hi : i < 6) (hM : Ct E ad y yc mL rt dy (.ref (ad (100 + i)) :: As) σ post) (lk : LkV own idx y yc mL rt n) (hy : y.cls = "java/lang/String") (hdd : dy + 1 ≤ d) (hm : mL ≤ 21) (hn : As.length = n) (hst : st = As.reverse ++ .ref (ad (100 + i)) :: rest) (hr : (rest.map fun v => v.category).sum ≤ 8) (hd : decode cc pc = .ok (.invokevirtual idx, 3))
    (K : ∀ (r : Int32) (τ : Sg), post r τ → At E ad G nL (pc + 3) L (.int r :: rest) τ) : At E ad G nL pc L st σ := by
  intro H locs ls hP hS hl
  subst hst
  obtain ⟨l1, l2⟩ := lk
  have hT : GoodIn lw_g (wsV own idx y.cls y (.code y yc mL rt :: lw_g)) := gI (fun w hw => by
    unfold wsV at hw
    rcases List.mem_append.mp hw with h | h
    · simp only [List.mem_cons, List.not_mem_nil, or_false] at h
      rcases h with rfl | rfl | rfl | rfl <;> exact l1 _ (by simp)
    · rcases List.mem_cons.mp h with rfl | h
      · exact l1 _ (by simp)
      · exact h)
  exact va_calli (va_runV (C := y.cls) (As := As) (rest := rest) ⟨C.x, C.b, C.ml, C.o, C.t⟩ hM (cwV n C.t hT rfl rfl rfl ⟨rfl, l2⟩ (room_at C hdd hm)) ⟨fb, by rw [hy]; exact vk_recv (i := i) C.f.1 hi hS, pre_at C hP hS⟩ rfl hn hl.1 rfl (lv_room hr) hd C.c) hS (fun _ _ h => h) (fun _ h => h) (fun r τ t H1 locs1 ht hvm hp hB _ _ hS1 => K r τ hp H1 locs1 ls (by have h1 := hB.1; rw [ht] at h1; exact h1) hS1 hl)
theorem r_callSN (C : Cx E ad G own cc nL d) {y : MethodName} {yc : ByteArray} {mL dy idx n : Nat} {rt : Option FieldType} {host : String} {post : Int32 → Sg → Prop} (As rest : List Value) (hM : Ct E ad y yc mL rt dy As σ post) (hN : va_Nw (.methodLinkNest own idx y host) (gS G)) (l1 : ∀ w ∈ ([.static y, .initialized y.cls, .code y yc mL rt] : List Cond), w ∈ lw_g) (l2 : y.cls ≠ "java/lang/invoke/MethodHandle" ∧ y.cls ≠ "java/lang/invoke/VarHandle" ∧ (parseMethodDescriptor y.desc).map (fun d => d.parameters.length) = some n) (hdd : dy + 1 ≤ d) (hm : mL ≤ 21) (hn : As.length = n) (hst : st = As.reverse ++ rest) (hr : (rest.map fun v => v.category).sum ≤ 8) (hd : decode cc pc = .ok (.invokestatic idx, 3))
    (K : ∀ (r : Int32) (τ : Sg), post r τ → At E ad G nL (pc + 3) L (.int r :: rest) τ) : At E ad G nL pc L st σ := by
  intro H locs ls hP hS hl
  subst hst
  have hT : GoodIn lw_g (.code y yc mL rt :: lw_g) := gI (fun w hw => by
    rcases List.mem_cons.mp hw with rfl | h
    · exact l1 _ (by simp)
    · exact h)
  exact va_calli (va_runSN (As := As) (rest := rest) ⟨C.x, C.b, C.ml, C.o, C.t⟩ hM ⟨va_cnB n C.t hT rfl rfl rfl hN (C.t _ (l1 _ (by simp))) l2 (room_at C hdd hm), C.t _ (l1 _ (by simp)), trivial⟩ ⟨fb, pre_at C hP hS⟩ rfl hn hl.1 rfl (lv_room hr) hd C.c) hS (fun _ _ h => h) (fun _ h => h) (fun r τ t H1 locs1 ht hvm hp hB _ _ hS1 => K r τ hp H1 locs1 ls (by have h1 := hB.1; rw [ht] at h1; exact h1) hS1 hl)
theorem r_callSv (C : Cx E ad G own cc nL d) {y : MethodName} {yc : ByteArray} {mL dy idx n : Nat} {post : Sg → Prop} (As rest : List Value) (hM : CtV E ad y yc mL dy As σ post) (lk : LkS own idx y yc mL none n) (hdd : dy + 1 ≤ d) (hm : mL ≤ 21) (hn : As.length = n) (hst : st = As.reverse ++ rest) (hr : (rest.map fun v => v.category).sum ≤ 8) (hd : decode cc pc = .ok (.invokestatic idx, 3))
    (K : ∀ (τ : Sg), post τ → At E ad G nL (pc + 3) L rest τ) : At E ad G nL pc L st σ := by
  intro H locs ls hP hS hl
  subst hst
  exact va_callv (run_S C hM lk hdd hm hn hr hd hP hS hl) hS (fun _ _ h => h) (fun _ h => h) (fun τ t H1 locs1 ht hvm hp hB _ _ hS1 => K τ hp H1 locs1 ls (by have h1 := hB.1; rw [ht] at h1; exact h1) hS1 hl)
theorem r_gets (C : Cx E ad G own cc nL d) {Cn n dd : String} {v : Value} {idx : Nat} (hZ : va_Z Cn n dd v (Aw ad) (gS G) (gS G).heap) (hw : Cond.fieldLink own idx Cn n dd ∈ lw_g) (hd : decode cc pc = .ok (.getstatic idx, 3)) (K : At E ad G nL (pc + 3) L (v :: st) σ) : At E ad G nL pc L st σ := fun H locs ls hP hS hl => va_gets C.x C.b hZ hS C.o (C.t _ hw) (fun _ h => h) hd (K H locs ls hP hS hl)
theorem r_sval (C : Cx E ad G own cc nL d) {i idx : Nat} (hi : i < 6) (hw : Cond.fieldLink own idx "java/lang/String" "value" "[B" ∈ lw_g) (hd : decode cc pc = .ok (.getfield idx, 3)) (K : At E ad G nL (pc + 3) L (.ref (ad (200 + i)) :: st) σ) : At E ad G nL pc L (.ref (ad (100 + i)) :: st) σ := fun H locs ls hP hS hl => vk_getf C.x C.b (C.f.1.1 i hi).2.2.1 hS C.o (C.t _ hw) (fun _ h => h) hd (K H locs ls hP hS hl)
theorem r_scod (C : Cx E ad G own cc nL d) {i idx : Nat} (hi : i < 6) (hw : Cond.fieldLink own idx "java/lang/String" "coder" "B" ∈ lw_g) (hd : decode cc pc = .ok (.getfield idx, 3)) (K : At E ad G nL (pc + 3) L (.int 0 :: st) σ) : At E ad G nL pc L (.ref (ad (100 + i)) :: st) σ := fun H locs ls hP hS hl => vk_getf C.x C.b (C.f.1.1 i hi).2.1 hS C.o (C.t _ hw) (fun _ h => h) hd (K H locs ls hP hS hl)
theorem r_tlen (C : Cx E ad G own cc nL d) {i : Nat} (hi : i < 6) (hd : decode cc pc = .ok (.arraylength, 1)) (K : At E ad G nL (pc + 1) L (.int (Int32.ofNat (slen.getD i 0)) :: st) σ) : At E ad G nL pc L (.ref (ad (200 + i)) :: st) σ := fun H locs ls hP hS hl => va_tlen C.x C.b (C.f.1.1 i hi).2.2.2 hS rfl hd (K H locs ls hP hS hl)
theorem r_tb (C : Cx E ad G own cc nL d) {i : Nat} {x : Int32} (hi : i < 6) (hx : 0 ≤ x.toInt ∧ x.toInt < (slen.getD i 0 : Nat)) (hd : decode cc pc = .ok (.baload, 1)) (K : At E ad G nL (pc + 1) L (.int ((sbyt.getD i []).getD x.toInt.toNat 0) :: st) σ) : At E ad G nL pc L (.int x :: .ref (ad (200 + i)) :: st) σ := fun H locs ls hP hS hl => va_tb C.x C.b (C.f.1.1 i hi).2.2.2 hS (ta_in hx) rfl hd (K H locs ls hP hS hl)
theorem r_ti (C : Cx E ad G own cc nL d) {x : Int32} (hx : 0 ≤ x.toInt ∧ x.toInt < (6 : Nat)) (hd : decode cc pc = .ok (.iaload, 1)) (K : At E ad G nL (pc + 1) L (.int (gof x.toInt.toNat) :: st) σ) : At E ad G nL pc L (.int x :: .ref (ad 300) :: st) σ := fun H locs ls hP hS hl => va_ti C.x C.b C.f.2.2.2.2.2.1 hS (ta_in hx) rfl hd (K H locs ls hP hS hl)
theorem r_ldcS (C : Cx E ad G RX7 cc nL d) (i : Nat) (hi : i < 6) (hd : decode cc pc = .ok (.ldc (sidx i), 2)) (K : At E ad G nL (pc + 2) L (.ref (ad (100 + i)) :: st) σ) : At E ad G nL pc L st σ := fun H locs ls hP hS hl => va_ldcS C.x C.b C.o (C.f.2.1 i hi) hd (K H locs ls hP hS hl)
theorem wd_end (C : Cx E ad G own cc nL d) {H : Heap} {locs : List Loc} (hP : va_P E.2.1 classes (wl E ad σ) H) (hS : va_S (Aw ad) (gS G).heap H locs) {t : State} (ht : t.heap = H) (hW : (gS G).WarmedH t.vm) : Wd E ad σ t := ⟨by rw [ht]; exact hP, va_K.moved hW.alike C.k, C.a, C.f.to hW (fun a h1 h2 => by rw [ht]; exact hS.2.1 a h1 h2)⟩
theorem r_iret (C : Cx E ad G own cc nL d) {post : Int32 → Sg → Prop} (T : Rt ad G (some .int) (va_Qi post (Wd E ad) (Aw ad))) {r : Int32} (hd : decode cc pc = .ok (.ireturn, 1)) (hp : post r σ) : At E ad G nL pc L [.int r] σ := by
  intro H locs ls hP hS hl
  obtain ⟨h1, h2, h3, h4, h5⟩ := T
  rw [h3, h4, h5]
  exact W.iret C.x C.b h1 (fun t ht hW => ⟨⟨r, σ, rfl, hp, wd_end C hP hS ht hW⟩, hS.F ht⟩) hS.2.2 hd h2
theorem r_zret (C : Cx E ad G own cc nL d) {post : Int32 → Sg → Prop} (T : Rt ad G (some .boolean) (va_Qi post (Wd E ad) (Aw ad))) {r : Int32} (hd : decode cc pc = .ok (.ireturn, 1)) (hb : r.toInt = 0 ∨ r.toInt = 1) (hp : post r σ) : At E ad G nL pc L [.int r] σ := by
  intro H locs ls hP hS hl
  obtain ⟨h1, h2, h3, h4, h5⟩ := T
  rw [h3, h4, h5]
  have hn : narrow .boolean (.int r) = .int r := by
    rcases hb with h | h
    · rw [show r = 0 from ta_inj h]; decide
    · rw [show r = 1 from ta_inj h]; decide
  exact W.zret C.x C.b h1 hn (fun t ht hW => ⟨⟨r, σ, rfl, hp, wd_end C hP hS ht hW⟩, hS.F ht⟩) hS.2.2 hd h2
theorem r_xret (C : Cx E ad G own cc nL d) {post : Int32 → Sg → Prop} {ty : FieldType} (T : Rt ad G (some ty) (va_Qi post (Wd E ad) (Aw ad))) {r : Int32} (hd : decode cc pc = .ok (.ireturn, 1)) (hn : narrow ty (.int r) = .int r) (hp : post r σ) : At E ad G nL pc L [.int r] σ := by
  intro H locs ls hP hS hl
  obtain ⟨h1, h2, h3, h4, h5⟩ := T
  rw [h3, h4, h5]
  exact W.zret C.x C.b h1 hn (fun t ht hW => ⟨⟨r, σ, rfl, hp, wd_end C hP hS ht hW⟩, hS.F ht⟩) hS.2.2 hd h2
theorem r_vret (C : Cx E ad G own cc nL d) {post : Sg → Prop} (T : Rt ad G none (va_Qv post (Wd E ad) (Aw ad))) (hd : decode cc pc = .ok (.return_, 1)) (hp : post σ) : At E ad G nL pc L [] σ := by
  intro H locs ls hP hS hl
  obtain ⟨h1, h2, h3, h4, h5⟩ := T
  rw [h3, h4, h5]
  exact W.vret C.x C.b h1 (fun t ht hW => ⟨⟨σ, rfl, hp, wd_end C hP hS ht hW⟩, hS.F ht⟩) hS.2.2 hd h2
end RULES
end
section
theorem gX0 : ∀ w ∈ u_ws RX0 TX0 2, w ∈ lw_g := by decide +kernel
theorem gX1 : ∀ w ∈ u_ws RX1 TX1 2, w ∈ lw_g := by decide +kernel
theorem gX2 : ∀ w ∈ u_ws RX2 TX2 10, w ∈ lw_g := by decide +kernel
theorem gX3 : ∀ w ∈ u_ws RX3 TX3 9, w ∈ lw_g := by decide +kernel
theorem gX4 : ∀ w ∈ u_ws RX4 TX4 10, w ∈ lw_g := by decide +kernel
theorem gX5 : ∀ w ∈ u_ws RX5 TX5 4, w ∈ lw_g := by decide +kernel
theorem gX6 : ∀ w ∈ u_ws RX6 TX6 7, w ∈ lw_g := by decide +kernel
theorem gX7 : ∀ w ∈ u_ws RX7 TX7 9, w ∈ lw_g := by decide +kernel
theorem gX8 : ∀ w ∈ u_ws RX8 TX8 9, w ∈ lw_g := by decide +kernel
theorem gX9 : ∀ w ∈ u_ws RX9 TX9 47, w ∈ lw_g := by decide +kernel
theorem f_X0_9 : LkF RX0 9 0 0 := ⟨RX0, TX0, 2, rfl, by decide, gX0, by decide +kernel⟩
theorem f_X0_15 : LkF RX0 15 0 1 := ⟨RX0, TX0, 2, rfl, by decide, gX0, by decide +kernel⟩
theorem f_X1_9 : LkF RX1 9 1 0 := ⟨RX1, TX1, 2, rfl, by decide, gX1, by decide +kernel⟩
theorem f_X1_15 : LkF RX1 15 1 1 := ⟨RX1, TX1, 2, rfl, by decide, gX1, by decide +kernel⟩
theorem f_X2_9 : LkF RX2 9 2 0 := ⟨RX2, TX2, 10, rfl, by decide, gX2, by decide +kernel⟩
theorem f_X2_15 : LkF RX2 15 2 1 := ⟨RX2, TX2, 10, rfl, by decide, gX2, by decide +kernel⟩
theorem f_X2_18 : LkF RX2 18 2 2 := ⟨RX2, TX2, 10, rfl, by decide, gX2, by decide +kernel⟩
theorem f_X2_21 : LkF RX2 21 2 3 := ⟨RX2, TX2, 10, rfl, by decide, gX2, by decide +kernel⟩
theorem f_X2_24 : LkF RX2 24 2 4 := ⟨RX2, TX2, 10, rfl, by decide, gX2, by decide +kernel⟩
theorem f_X2_27 : LkF RX2 27 2 5 := ⟨RX2, TX2, 10, rfl, by decide, gX2, by decide +kernel⟩
theorem f_X2_30 : LkF RX2 30 2 6 := ⟨RX2, TX2, 10, rfl, by decide, gX2, by decide +kernel⟩
theorem f_X2_34 : LkF RX2 34 2 7 := ⟨RX2, TX2, 10, rfl, by decide, gX2, by decide +kernel⟩
theorem f_X2_37 : LkF RX2 37 2 8 := ⟨RX2, TX2, 10, rfl, by decide, gX2, by decide +kernel⟩
theorem f_X2_40 : LkF RX2 40 2 9 := ⟨RX2, TX2, 10, rfl, by decide, gX2, by decide +kernel⟩
theorem f_X3_9 : LkF RX3 9 3 0 := ⟨RX3, TX3, 9, rfl, by decide, gX3, by decide +kernel⟩
theorem f_X3_15 : LkF RX3 15 3 1 := ⟨RX3, TX3, 9, rfl, by decide, gX3, by decide +kernel⟩
theorem f_X3_18 : LkF RX3 18 3 2 := ⟨RX3, TX3, 9, rfl, by decide, gX3, by decide +kernel⟩
theorem f_X3_21 : LkF RX3 21 3 3 := ⟨RX3, TX3, 9, rfl, by decide, gX3, by decide +kernel⟩
theorem f_X3_24 : LkF RX3 24 3 4 := ⟨RX3, TX3, 9, rfl, by decide, gX3, by decide +kernel⟩
theorem f_X3_27 : LkF RX3 27 3 5 := ⟨RX3, TX3, 9, rfl, by decide, gX3, by decide +kernel⟩
theorem f_X3_30 : LkF RX3 30 3 6 := ⟨RX3, TX3, 9, rfl, by decide, gX3, by decide +kernel⟩
theorem f_X3_33 : LkF RX3 33 3 7 := ⟨RX3, TX3, 9, rfl, by decide, gX3, by decide +kernel⟩
theorem f_X3_36 : LkF RX3 36 3 8 := ⟨RX3, TX3, 9, rfl, by decide, gX3, by decide +kernel⟩
theorem f_X6_9 : LkF RX6 9 6 0 := ⟨RX6, TX6, 7, rfl, by decide, gX6, by decide +kernel⟩
theorem f_X6_15 : LkF RX6 15 6 1 := ⟨RX6, TX6, 7, rfl, by decide, gX6, by decide +kernel⟩
theorem f_X6_18 : LkF RX6 18 6 2 := ⟨RX6, TX6, 7, rfl, by decide, gX6, by decide +kernel⟩
theorem f_X6_21 : LkF RX6 21 6 3 := ⟨RX6, TX6, 7, rfl, by decide, gX6, by decide +kernel⟩
theorem f_X6_24 : LkF RX6 24 6 4 := ⟨RX6, TX6, 7, rfl, by decide, gX6, by decide +kernel⟩
theorem f_X6_27 : LkF RX6 27 6 5 := ⟨RX6, TX6, 7, rfl, by decide, gX6, by decide +kernel⟩
theorem f_X6_30 : LkF RX6 30 6 6 := ⟨RX6, TX6, 7, rfl, by decide, gX6, by decide +kernel⟩
theorem f_X6_34 : LkF RX6 34 7 2 := ⟨RX7, TX7, 9, rfl, by decide, gX7, by decide +kernel⟩
theorem f_X6_38 : LkF RX6 38 7 3 := ⟨RX7, TX7, 9, rfl, by decide, gX7, by decide +kernel⟩
theorem f_X6_40 : LkF RX6 40 7 4 := ⟨RX7, TX7, 9, rfl, by decide, gX7, by decide +kernel⟩
theorem f_X6_42 : LkF RX6 42 7 5 := ⟨RX7, TX7, 9, rfl, by decide, gX7, by decide +kernel⟩
theorem pf_X0_9 : LkP RX0 9 0 0 .int := ⟨RX0, TX0, 2, tyX0, rfl, by decide, gX0, by decide +kernel, rfl, tyX0_ok, nmX0, by decide +kernel⟩
theorem pf_X2_30 : LkP RX2 30 2 6 .int := ⟨RX2, TX2, 10, tyX2, rfl, by decide, gX2, by decide +kernel, rfl, tyX2_ok, nmX2, by decide +kernel⟩
theorem pf_X2_34 : LkP RX2 34 2 7 .int := ⟨RX2, TX2, 10, tyX2, rfl, by decide, gX2, by decide +kernel, rfl, tyX2_ok, nmX2, by decide +kernel⟩
theorem pf_X2_37 : LkP RX2 37 2 8 .int := ⟨RX2, TX2, 10, tyX2, rfl, by decide, gX2, by decide +kernel, rfl, tyX2_ok, nmX2, by decide +kernel⟩
theorem pf_X2_40 : LkP RX2 40 2 9 .int := ⟨RX2, TX2, 10, tyX2, rfl, by decide, gX2, by decide +kernel, rfl, tyX2_ok, nmX2, by decide +kernel⟩
theorem pf_X3_36 : LkP RX3 36 3 8 .int := ⟨RX3, TX3, 9, tyX3, rfl, by decide, gX3, by decide +kernel, rfl, tyX3_ok, nmX3, by decide +kernel⟩
theorem pf_X6_30 : LkP RX6 30 6 6 .int := ⟨RX6, TX6, 7, tyX6, rfl, by decide, gX6, by decide +kernel, rfl, tyX6_ok, nmX6, by decide +kernel⟩
theorem lm_min : ∀ w ∈ ([Cond.methodLink RX4 83 Lib.Math.min.name, Cond.static Lib.Math.min.name, Cond.initialized "java/lang/Math", Cond.code Lib.Math.min.name Lib.Math.min.code 2 (some .int)] : List Cond), w ∈ lw_g := by decide +kernel
theorem lm_cpy : ∀ w ∈ ([Cond.methodLink RX4 56 arraycopyName, Cond.native arraycopyName, Cond.static arraycopyName, Cond.initialized "java/lang/System"] : List Cond), w ∈ lw_g := by decide +kernel
theorem lv_X0_23 : LkV RX0 23 yX0_insideFor cX0_insideFor 4 (some .int) 1 := ⟨by decide +kernel, by decide +kernel⟩
theorem lv_X0_27 : LkV RX0 27 yX0_allInside cX0_allInside 1 (some .int) 0 := ⟨by decide +kernel, by decide +kernel⟩
theorem lv_X2_43 : LkV RX2 43 yX2_has cX2_has 2 (some .boolean) 1 := ⟨by decide +kernel, by decide +kernel⟩
theorem lv_X2_47 : LkV RX2 47 yX2_spread cX2_spread 7 (some .int) 2 := ⟨by decide +kernel, by decide +kernel⟩
theorem lv_X2_51 : LkV RX2 51 yX2_sourcesOf cX2_sourcesOf 4 (some .int) 1 := ⟨by decide +kernel, by decide +kernel⟩
theorem lv_X2_55 : LkV RX2 55 yX2_stepOver cX2_stepOver 5 (some .int) 2 := ⟨by decide +kernel, by decide +kernel⟩
theorem lv_X2_58 : LkV RX2 58 yX2_allPipes cX2_allPipes 1 (some .int) 0 := ⟨by decide +kernel, by decide +kernel⟩
theorem lv_X2_67 : LkV RX2 67 yX2_isSafe cX2_isSafe 8 (some .boolean) 4 := ⟨by decide +kernel, by decide +kernel⟩
theorem lv_X2_71 : LkV RX2 71 yX2_allFittings cX2_allFittings 1 (some .int) 0 := ⟨by decide +kernel, by decide +kernel⟩
theorem lv_X2_74 : LkV RX2 74 yX2_thinned cX2_thinned 6 (some .int) 2 := ⟨by decide +kernel, by decide +kernel⟩
theorem lv_X2_81 : LkV RX2 81 yX2_hoursOf cX2_hoursOf 2 (some .int) 1 := ⟨by decide +kernel, by decide +kernel⟩
theorem lv_X2_84 : LkV RX2 84 yX2_isBetter cX2_isBetter 5 (some .boolean) 2 := ⟨by decide +kernel, by decide +kernel⟩
theorem lv_X3_40 : LkV RX3 40 yX3_locksOf cX3_locksOf 2 (some .int) 1 := ⟨by decide +kernel, by decide +kernel⟩
theorem lv_X3_49 : LkV RX3 49 yX3_endLive cX3_endLive 3 none 2 := ⟨by decide +kernel, by decide +kernel⟩
theorem lv_X6_44 : LkV RX6 44 yX6_inForce cX6_inForce 3 (some .boolean) 2 := ⟨by decide +kernel, by decide +kernel⟩
theorem ls_X2_62 : LkS RX2 62 yJ6_bitCount_0f7a4 cJ6_bitCount_0f7a4 1 (some .int) 1 := ⟨by decide +kernel, by decide +kernel⟩
theorem ls_X2_77 : LkS RX2 77 yX2_leastSetFrom cX2_leastSetFrom 11 (some .int) 6 := ⟨by decide +kernel, by decide +kernel⟩
theorem ls_X3_44 : LkS RX3 44 yJ6_bitCount_0f7a4 cJ6_bitCount_0f7a4 1 (some .int) 1 := ⟨by decide +kernel, by decide +kernel⟩
theorem kc_J6_265 : Cond.constant RJ6 265 (1431655765) ∈ lw_g := by decide +kernel
theorem kc_J6_266 : Cond.constant RJ6 266 (858993459) ∈ lw_g := by decide +kernel
theorem kc_J6_267 : Cond.constant RJ6 267 (252645135) ∈ lw_g := by decide +kernel
end
section
/-! plain facts -/
theorem and63 (x : Int32) : 0 ≤ (x &&& 63).toInt ∧ (x &&& 63).toInt ≤ 63 := by
  have h := vp_in_iff.mp (pk_andIn x (m := 63) 6 (by decide) (by decide))
  omega
theorem ta_nn {x : Int32} (h : 0 ≤ x.toInt) : x.toInt = (x.toBitVec.toNat : Int) := by
  have h1 : x.toInt = x.toBitVec.toInt := rfl
  have h2 := BitVec.toInt_eq_toNat_cond x.toBitVec
  have h3 := x.toBitVec.isLt
  rw [h1, h2] at h ⊢
  split at h <;> split <;> omega
theorem ta_nat {x : Int32} (h : x.toBitVec.toNat < 2147483648) : x.toInt = (x.toBitVec.toNat : Int) := by
  have h1 : x.toInt = x.toBitVec.toInt := rfl
  rw [h1, BitVec.toInt_eq_toNat_of_lt (by omega)]
theorem ta_and {x y : Int32} (h : 0 ≤ x.toInt) : 0 ≤ (x &&& y).toInt ∧ (x &&& y).toInt ≤ x.toInt := by
  have hx := ta_nn h
  have e : (x &&& y).toBitVec.toNat ≤ x.toBitVec.toNat := by
    rw [Int32.toBitVec_and, BitVec.toNat_and]
    exact Nat.and_le_left
  have hl := ta_hi x
  rw [ta_nat (by omega)]
  omega
theorem ta_shl1 {s : Int32} (h : 0 ≤ s.toInt) (h2 : s.toInt ≤ 12) : ((1 : Int32) <<< (s &&& 31)).toInt = 2 ^ s.toInt.toNat := by
  have key : ∀ n, n < 13 → ((1 : Int32) <<< (nI n &&& 31)).toInt = 2 ^ n := by decide
  obtain ⟨n, hn, rfl⟩ : ∃ n : Nat, n < 13 ∧ s = nI n := ⟨s.toInt.toNat, by omega, ta_inj (by rw [nI_toInt (by omega)]; omega)⟩
  rw [key n hn, nI_toInt (by omega)]
  simp
theorem ta_shl7 {s : Int32} (h : 0 ≤ s.toInt) (h2 : s.toInt ≤ 7) : 1 ≤ ((1 : Int32) <<< (s &&& 31)).toInt ∧ ((1 : Int32) <<< (s &&& 31)).toInt ≤ 128 := by
  have key : ∀ n, n < 8 → 1 ≤ ((1 : Int32) <<< (nI n &&& 31)).toInt ∧ ((1 : Int32) <<< (nI n &&& 31)).toInt ≤ 128 := by decide
  obtain ⟨n, hn, rfl⟩ : ∃ n : Nat, n < 8 ∧ s = nI n := ⟨s.toInt.toNat, by omega, ta_inj (by rw [nI_toInt (by omega)]; omega)⟩
  exact key n hn
/-- a bit at its own place, and at another -/
theorem ta_bit {p q : Int32} (hp : 0 ≤ p.toInt ∧ p.toInt < 12) (hq : 0 ≤ q.toInt ∧ q.toInt < 12) : ((((1 : Int32) <<< (p &&& 31)) >>> (q &&& 31)) &&& 1).toInt = if p.toInt = q.toInt then 1 else 0 := by
  have key : ∀ a, a < 12 → ∀ b, b < 12 → ((((1 : Int32) <<< (nI a &&& 31)) >>> (nI b &&& 31)) &&& 1).toInt = if (nI a).toInt = (nI b).toInt then 1 else 0 := by decide +kernel
  obtain ⟨n, hn, rfl⟩ : ∃ n : Nat, n < 12 ∧ p = nI n := ⟨p.toInt.toNat, by omega, ta_inj (by rw [nI_toInt (by omega)]; omega)⟩
  obtain ⟨m, hm, rfl⟩ : ∃ n : Nat, n < 12 ∧ q = nI n := ⟨q.toInt.toNat, by omega, ta_inj (by rw [nI_toInt (by omega)]; omega)⟩
  exact key n hn m hm
theorem ta_on {p : Int32} (hp : 0 ≤ p.toInt ∧ p.toInt < 8) : (((255 : Int32) >>> (p &&& 31)) &&& 1).toInt = 1 := by
  have key : ∀ a, a < 8 → (((255 : Int32) >>> (nI a &&& 31)) &&& 1).toInt = 1 := by decide +kernel
  obtain ⟨n, hn, rfl⟩ : ∃ n : Nat, n < 8 ∧ p = nI n := ⟨p.toInt.toNat, by omega, ta_inj (by rw [nI_toInt (by omega)]; omega)⟩
  exact key n hn
def bcF (p : Int32) : Int32 :=
  let a := p - (((p.toUInt32 >>> ((1 : Int32).toUInt32 &&& Int32.toUInt32 31)).toInt32) &&& 1431655765)
  let b := (a &&& 858993459) + (((a.toUInt32 >>> ((2 : Int32).toUInt32 &&& Int32.toUInt32 31)).toInt32) &&& 858993459)
  let c := (b + ((b.toUInt32 >>> ((4 : Int32).toUInt32 &&& Int32.toUInt32 31)).toInt32)) &&& 252645135
  let d := c + ((c.toUInt32 >>> ((8 : Int32).toUInt32 &&& Int32.toUInt32 31)).toInt32)
  let e := d + ((d.toUInt32 >>> ((16 : Int32).toUInt32 &&& Int32.toUInt32 31)).toInt32)
  e &&& 63
def Off (S : List Nat) (σ τ : Sg) : Prop := ∀ k, k ∉ S → τ k = σ k
theorem Off.rf {S : List Nat} {σ : Sg} : Off S σ σ := fun _ _ => rfl
theorem Off.tr {S T : List Nat} {σ τ υ : Sg} (h : Off S σ τ) (g : Off T τ υ) (hs : ∀ k ∈ S, k ∈ T) : Off T σ υ := fun k hk => (g k hk).trans (h k (fun q => hk (hs k q)))
theorem Off.up {S : List Nat} {σ τ : Sg} {k j : Nat} {v : Int32} (h : Off S σ τ) (hk : k ∈ S) : Off S σ (sUp τ k j v) := fun i hi => (sUp_ne (fun e => hi (by rw [e]; exact hk))).trans (h i hi)
theorem Off.to {S T : List Nat} {σ τ : Sg} (h : Off S σ τ) (hs : ∀ k ∈ S, k ∈ T) : Off T σ τ := fun k hk => h k (fun q => hk (hs k q))
/-! WHAT HOLDS BETWEEN CALLS, of the class's cells -/
def IC (σ : Sg) : Prop := (0 ≤ (σ 2 6).toInt ∧ (σ 2 6).toInt ≤ 12) ∧ (0 ≤ (σ 9 6).toInt ∧ (σ 9 6).toInt ≤ 12) ∧ (0 ≤ (σ 16 8).toInt ∧ (σ 16 8).toInt ≤ 7) ∧ (0 ≤ (σ 0 8).toInt ∧ (σ 0 8).toInt ≤ 300) ∧ (0 ≤ (σ 27 1).toInt ∧ (σ 27 1).toInt ≤ 60) ∧ (0 ≤ (σ 32 3).toInt ∧ (σ 32 3).toInt ≤ 7) ∧ (0 ≤ (σ 32 5).toInt ∧ (σ 32 5).toInt ≤ 28)
end
section
set_option maxHeartbeats 4000000 in
set_option maxRecDepth 100000 in
theorem c_J6_bitCount_0f7a4 (E : Ev) (ad : Nat → Nat) (σ : Sg) (p : Int32)  : Ct E ad yJ6_bitCount_0f7a4 cJ6_bitCount_0f7a4 1 (some .int) 0 [.int p] σ (fun r τ => τ = σ ∧ r = bcF p ∧ 0 ≤ r.toInt ∧ r.toInt ≤ 63) := by
  have k_1 : (1 : Int32).toInt = 1 := by decide
  have k_2 : (2 : Int32).toInt = 2 := by decide
  have k_4 : (4 : Int32).toInt = 4 := by decide
  have k_8 : (8 : Int32).toInt = 8 := by decide
  have k_16 : (16 : Int32).toInt = 16 := by decide
  have k_63 : (63 : Int32).toInt = 63 := by decide
  refine ct_of RJ6 rfl (by decide +kernel) [(0, .int (p))] rfl (Nat.le_of_ble_eq_true rfl) (fun G C T => ?_)
  refine r_iload_n C 0 dJ6_bitCount_0f7a4_0 rfl rfl ?_
  refine r_iload_n C 0 dJ6_bitCount_0f7a4_1 rfl rfl ?_
  refine r_iconst C (1) dJ6_bitCount_0f7a4_2 (by decide) ?_
  refine r_iushr C dJ6_bitCount_0f7a4_3 ?_
  refine r_nm (P := fun z => z = ((p : Int32).toUInt32 >>> ((1 : Int32).toUInt32 &&& Int32.toUInt32 31)).toInt32) rfl (fun z_1 hz_2 => ?_)
  refine r_ldcw C (1431655765) kc_J6_265 dJ6_bitCount_0f7a4_4 ?_
  refine r_iand C dJ6_bitCount_0f7a4_7 ?_
  refine r_nm (P := fun z => z = (z_1 : Int32) &&& (1431655765)) rfl (fun z_3 hz_4 => ?_)
  refine r_isub C dJ6_bitCount_0f7a4_8 ?_
  refine r_nm (P := fun z => z = (p) - (z_3)) rfl (fun z_5 hz_6 => ?_)
  refine r_istore_n C [(0, .int (z_5))] dJ6_bitCount_0f7a4_9 rfl (by decide) rfl ?_
  refine r_iload_n C 0 dJ6_bitCount_0f7a4_10 rfl rfl ?_
  refine r_ldcw C (858993459) kc_J6_266 dJ6_bitCount_0f7a4_11 ?_
  refine r_iand C dJ6_bitCount_0f7a4_14 ?_
  refine r_nm (P := fun z => z = (z_5 : Int32) &&& (858993459)) rfl (fun z_7 hz_8 => ?_)
  refine r_iload_n C 0 dJ6_bitCount_0f7a4_15 rfl rfl ?_
  refine r_iconst C (2) dJ6_bitCount_0f7a4_16 (by decide) ?_
  refine r_iushr C dJ6_bitCount_0f7a4_17 ?_
  refine r_nm (P := fun z => z = ((z_5 : Int32).toUInt32 >>> ((2 : Int32).toUInt32 &&& Int32.toUInt32 31)).toInt32) rfl (fun z_9 hz_10 => ?_)
  refine r_ldcw C (858993459) kc_J6_266 dJ6_bitCount_0f7a4_18 ?_
  refine r_iand C dJ6_bitCount_0f7a4_21 ?_
  refine r_nm (P := fun z => z = (z_9 : Int32) &&& (858993459)) rfl (fun z_11 hz_12 => ?_)
  refine r_iadd C dJ6_bitCount_0f7a4_22 ?_
  refine r_nm (P := fun z => z = (z_7) + (z_11)) rfl (fun z_13 hz_14 => ?_)
  refine r_istore_n C [(0, .int (z_13))] dJ6_bitCount_0f7a4_23 rfl (by decide) rfl ?_
  refine r_iload_n C 0 dJ6_bitCount_0f7a4_24 rfl rfl ?_
  refine r_iload_n C 0 dJ6_bitCount_0f7a4_25 rfl rfl ?_
  refine r_iconst C (4) dJ6_bitCount_0f7a4_26 (by decide) ?_
  refine r_iushr C dJ6_bitCount_0f7a4_27 ?_
  refine r_nm (P := fun z => z = ((z_13 : Int32).toUInt32 >>> ((4 : Int32).toUInt32 &&& Int32.toUInt32 31)).toInt32) rfl (fun z_15 hz_16 => ?_)
  refine r_iadd C dJ6_bitCount_0f7a4_28 ?_
  refine r_nm (P := fun z => z = (z_13) + (z_15)) rfl (fun z_17 hz_18 => ?_)
  refine r_ldcw C (252645135) kc_J6_267 dJ6_bitCount_0f7a4_29 ?_
  refine r_iand C dJ6_bitCount_0f7a4_32 ?_
  refine r_nm (P := fun z => z = (z_17 : Int32) &&& (252645135)) rfl (fun z_19 hz_20 => ?_)
  refine r_istore_n C [(0, .int (z_19))] dJ6_bitCount_0f7a4_33 rfl (by decide) rfl ?_
  refine r_iload_n C 0 dJ6_bitCount_0f7a4_34 rfl rfl ?_
  refine r_iload_n C 0 dJ6_bitCount_0f7a4_35 rfl rfl ?_
  refine r_bipush C (8) dJ6_bitCount_0f7a4_36 (by decide) ?_
  refine r_iushr C dJ6_bitCount_0f7a4_38 ?_
  refine r_nm (P := fun z => z = ((z_19 : Int32).toUInt32 >>> ((8 : Int32).toUInt32 &&& Int32.toUInt32 31)).toInt32) rfl (fun z_21 hz_22 => ?_)
  refine r_iadd C dJ6_bitCount_0f7a4_39 ?_
  refine r_nm (P := fun z => z = (z_19) + (z_21)) rfl (fun z_23 hz_24 => ?_)
  refine r_istore_n C [(0, .int (z_23))] dJ6_bitCount_0f7a4_40 rfl (by decide) rfl ?_
  refine r_iload_n C 0 dJ6_bitCount_0f7a4_41 rfl rfl ?_
  refine r_iload_n C 0 dJ6_bitCount_0f7a4_42 rfl rfl ?_
  refine r_bipush C (16) dJ6_bitCount_0f7a4_43 (by decide) ?_
  refine r_iushr C dJ6_bitCount_0f7a4_45 ?_
  refine r_nm (P := fun z => z = ((z_23 : Int32).toUInt32 >>> ((16 : Int32).toUInt32 &&& Int32.toUInt32 31)).toInt32) rfl (fun z_25 hz_26 => ?_)
  refine r_iadd C dJ6_bitCount_0f7a4_46 ?_
  refine r_nm (P := fun z => z = (z_23) + (z_25)) rfl (fun z_27 hz_28 => ?_)
  refine r_istore_n C [(0, .int (z_27))] dJ6_bitCount_0f7a4_47 rfl (by decide) rfl ?_
  refine r_iload_n C 0 dJ6_bitCount_0f7a4_48 rfl rfl ?_
  refine r_bipush C (63) dJ6_bitCount_0f7a4_49 (by decide) ?_
  refine r_iand C dJ6_bitCount_0f7a4_51 ?_
  refine r_nm (P := fun z => z = (z_27 : Int32) &&& (63)) rfl (fun z_29 hz_30 => ?_)
  exact r_iret C T dJ6_bitCount_0f7a4_52 ⟨rfl, by subst_vars; rfl, by rw [hz_30]; exact and63 _⟩
set_option maxHeartbeats 4000000 in
set_option maxRecDepth 100000 in
theorem c_X8_isPlace (E : Ev) (ad : Nat → Nat) (σ : Sg) (p : Int32)  : Ct E ad yX8_isPlace cX8_isPlace 1 (some .boolean) 0 [.int p] σ (fun r τ => τ = σ ∧ ((r.toInt = 1 ∧ 0 ≤ p.toInt ∧ p.toInt < 10) ∨ (r.toInt = 0 ∧ ¬ (0 ≤ p.toInt ∧ p.toInt < 10)))) := by
  have k_0 : (0 : Int32).toInt = 0 := by decide
  have k_1 : (1 : Int32).toInt = 1 := by decide
  have k_10 : (10 : Int32).toInt = 10 := by decide
  refine ct_of RX8 rfl (by decide +kernel) [(0, .int (p))] rfl (Nat.le_of_ble_eq_true rfl) (fun G C T => ?_)
  refine r_iload_n C 0 dX8_isPlace_0 rfl rfl ?_
  refine r_if_lt C 14 dX8_isPlace_1 (by decide) (fun c_1 => ?_) (fun c_1 => ?_)
  · -- to 14
    refine r_iconst C (0) dX8_isPlace_14 (by decide) ?_
    exact r_zret C T dX8_isPlace_15 (by omega) ⟨rfl, by omega⟩
  · -- to 4
    refine r_iload_n C 0 dX8_isPlace_4 rfl rfl ?_
    refine r_bipush C (10) dX8_isPlace_5 (by decide) ?_
    refine r_icmp_ge C 14 dX8_isPlace_7 (by decide) (fun c_2 => ?_) (fun c_2 => ?_)
    · -- to 14
      refine r_iconst C (0) dX8_isPlace_14 (by decide) ?_
      exact r_zret C T dX8_isPlace_15 (by omega) ⟨rfl, by omega⟩
    · -- to 10
      refine r_iconst C (1) dX8_isPlace_10 (by decide) ?_
      refine r_goto C 15 dX8_isPlace_11 (by decide) ?_
      exact r_zret C T dX8_isPlace_15 (by omega) ⟨rfl, by omega⟩
set_option maxHeartbeats 4000000 in
set_option maxRecDepth 100000 in
theorem c_X8_isMan (E : Ev) (ad : Nat → Nat) (σ : Sg) (p : Int32)  : Ct E ad yX8_isMan cX8_isMan 1 (some .boolean) 0 [.int p] σ (fun r τ => τ = σ ∧ ((r.toInt = 1 ∧ 0 ≤ p.toInt ∧ p.toInt < 8) ∨ (r.toInt = 0 ∧ ¬ (0 ≤ p.toInt ∧ p.toInt < 8)))) := by
  have k_0 : (0 : Int32).toInt = 0 := by decide
  have k_1 : (1 : Int32).toInt = 1 := by decide
  have k_8 : (8 : Int32).toInt = 8 := by decide
  refine ct_of RX8 rfl (by decide +kernel) [(0, .int (p))] rfl (Nat.le_of_ble_eq_true rfl) (fun G C T => ?_)
  refine r_iload_n C 0 dX8_isMan_0 rfl rfl ?_
  refine r_if_lt C 14 dX8_isMan_1 (by decide) (fun c_1 => ?_) (fun c_1 => ?_)
  · -- to 14
    refine r_iconst C (0) dX8_isMan_14 (by decide) ?_
    exact r_zret C T dX8_isMan_15 (by omega) ⟨rfl, by omega⟩
  · -- to 4
    refine r_iload_n C 0 dX8_isMan_4 rfl rfl ?_
    refine r_bipush C (8) dX8_isMan_5 (by decide) ?_
    refine r_icmp_ge C 14 dX8_isMan_7 (by decide) (fun c_2 => ?_) (fun c_2 => ?_)
    · -- to 14
      refine r_iconst C (0) dX8_isMan_14 (by decide) ?_
      exact r_zret C T dX8_isMan_15 (by omega) ⟨rfl, by omega⟩
    · -- to 10
      refine r_iconst C (1) dX8_isMan_10 (by decide) ?_
      refine r_goto C 15 dX8_isMan_11 (by decide) ?_
      exact r_zret C T dX8_isMan_15 (by omega) ⟨rfl, by omega⟩
set_option maxHeartbeats 4000000 in
set_option maxRecDepth 100000 in
theorem c_X2_has (E : Ev) (ad : Nat → Nat) (σ : Sg) (p : Int32)  : Ct E ad yX2_has cX2_has 2 (some .boolean) 0 [.ref (ad 2), .int p] σ (fun r τ => τ = σ ∧ ((r.toInt = 1 ∧ 0 ≤ p.toInt ∧ p.toInt < (σ 2 6).toInt) ∨ (r.toInt = 0 ∧ ¬ (0 ≤ p.toInt ∧ p.toInt < (σ 2 6).toInt)))) := by
  have k_0 : (0 : Int32).toInt = 0 := by decide
  have k_1 : (1 : Int32).toInt = 1 := by decide
  refine ct_of RX2 rfl (by decide +kernel) [(0, .ref (ad 2)), (1, .int (p))] rfl (Nat.le_of_ble_eq_true rfl) (fun G C T => ?_)
  refine r_iload_n C 1 dX2_has_0 rfl rfl ?_
  refine r_if_lt C 16 dX2_has_1 (by decide) (fun c_1 => ?_) (fun c_1 => ?_)
  · -- to 16
    refine r_iconst C (0) dX2_has_16 (by decide) ?_
    exact r_zret C T dX2_has_17 (by omega) ⟨rfl, by omega⟩
  · -- to 4
    refine r_iload_n C 1 dX2_has_4 rfl rfl ?_
    refine r_aload_n C 0 dX2_has_5 rfl rfl ?_
    refine r_get C (k := 2) (v := .int (σ 2 6)) f_X2_30 (by decide) rfl rfl dX2_has_6 ?_
    refine r_icmp_ge C 16 dX2_has_9 (by decide) (fun c_2 => ?_) (fun c_2 => ?_)
    · -- to 16
      refine r_iconst C (0) dX2_has_16 (by decide) ?_
      exact r_zret C T dX2_has_17 (by omega) ⟨rfl, by omega⟩
    · -- to 12
      refine r_iconst C (1) dX2_has_12 (by decide) ?_
      refine r_goto C 17 dX2_has_13 (by decide) ?_
      exact r_zret C T dX2_has_17 (by omega) ⟨rfl, by omega⟩
set_option maxHeartbeats 4000000 in
set_option maxRecDepth 100000 in
theorem c_X2_hasFitting (E : Ev) (ad : Nat → Nat) (σ : Sg) (p : Int32) (hI : IC σ) : Ct E ad yX2_hasFitting cX2_hasFitting 2 (some .boolean) 1 [.ref (ad 2), .int p] σ (fun r τ => τ = σ ∧ ((r.toInt = 1 ∧ 0 ≤ p.toInt ∧ p.toInt < (σ 2 6).toInt ∧ (σ 6 p.toInt.toNat).toInt ≠ 2) ∨ (r.toInt = 0 ∧ ¬ (0 ≤ p.toInt ∧ p.toInt < (σ 2 6).toInt ∧ (σ 6 p.toInt.toNat).toInt ≠ 2)))) := by
  have k_0 : (0 : Int32).toInt = 0 := by decide
  have k_1 : (1 : Int32).toInt = 1 := by decide
  have k_2 : (2 : Int32).toInt = 2 := by decide
  have hJ := hI
  unfold IC at hJ
  refine ct_of RX2 rfl (by decide +kernel) [(0, .ref (ad 2)), (1, .int (p))] rfl (Nat.le_of_ble_eq_true rfl) (fun G C T => ?_)
  refine r_aload_n C 0 dX2_hasFitting_0 rfl rfl ?_
  refine r_iload_n C 1 dX2_hasFitting_1 rfl rfl ?_
  refine r_callV C (k := 2) [.int (p)] [] (c_X2_has E ad σ  (p) ) lv_X2_43 (by decide) rfl rfl (by decide) (by decide) rfl rfl (Nat.le_of_ble_eq_true rfl) dX2_hasFitting_2 (fun r_1 τ_2 h_3 => ?_)
  obtain ⟨eh_3, h_3⟩ := h_3
  obtain rfl := eh_3.symm
  refine r_if_eq C 22 dX2_hasFitting_5 (by decide) (fun c_4 => ?_) (fun c_4 => ?_)
  · -- to 22
    refine r_iconst C (0) dX2_hasFitting_22 (by decide) ?_
    exact r_zret C T dX2_hasFitting_23 (by omega) ⟨rfl, by omega⟩
  · -- to 8
    refine r_aload_n C 0 dX2_hasFitting_8 rfl rfl ?_
    refine r_get C (k := 2) (v := .ref (ad 6)) f_X2_21 (by decide) rfl rfl dX2_hasFitting_9 ?_
    refine r_iload_n C 1 dX2_hasFitting_12 rfl rfl ?_
    refine r_iald C (k := 6) (by decide) rfl (by omega) (σ 6 ((p : Int32).toInt.toNat)) rfl dX2_hasFitting_13 ?_
    refine r_iconst C (2) dX2_hasFitting_14 (by decide) ?_
    refine r_icmp_eq C 22 dX2_hasFitting_15 (by decide) (fun c_5 => ?_) (fun c_5 => ?_)
    · -- to 22
      refine r_iconst C (0) dX2_hasFitting_22 (by decide) ?_
      exact r_zret C T dX2_hasFitting_23 (by omega) ⟨rfl, by omega⟩
    · -- to 18
      refine r_iconst C (1) dX2_hasFitting_18 (by decide) ?_
      refine r_goto C 23 dX2_hasFitting_19 (by decide) ?_
      exact r_zret C T dX2_hasFitting_23 (by omega) ⟨rfl, by omega⟩
set_option maxHeartbeats 4000000 in
set_option maxRecDepth 100000 in
theorem c_X2_allPipes (E : Ev) (ad : Nat → Nat) (σ : Sg)   : Ct E ad yX2_allPipes cX2_allPipes 1 (some .int) 0 [.ref (ad 2)] σ (fun r τ => τ = σ ∧ r = ((1 : Int32) <<< ((σ 2 6) &&& 31)) - 1) := by
  have k_1 : (1 : Int32).toInt = 1 := by decide
  refine ct_of RX2 rfl (by decide +kernel) [(0, .ref (ad 2))] rfl (Nat.le_of_ble_eq_true rfl) (fun G C T => ?_)
  refine r_iconst C (1) dX2_allPipes_0 (by decide) ?_
  refine r_aload_n C 0 dX2_allPipes_1 rfl rfl ?_
  refine r_get C (k := 2) (v := .int (σ 2 6)) f_X2_30 (by decide) rfl rfl dX2_allPipes_2 ?_
  refine r_ishl C dX2_allPipes_5 ?_
  refine r_nm (P := fun z => z = (1 : Int32) <<< ((σ 2 6 : Int32) &&& 31)) rfl (fun z_1 hz_2 => ?_)
  refine r_iconst C (1) dX2_allPipes_6 (by decide) ?_
  refine r_isub C dX2_allPipes_7 ?_
  refine r_nm (P := fun z => z = (z_1) - (1)) rfl (fun z_3 hz_4 => ?_)
  exact r_iret C T dX2_allPipes_8 ⟨rfl, by subst hz_2; exact hz_4⟩
set_option maxHeartbeats 4000000 in
set_option maxRecDepth 100000 in
theorem c_X2_allFittings (E : Ev) (ad : Nat → Nat) (σ : Sg)   : Ct E ad yX2_allFittings cX2_allFittings 1 (some .int) 0 [.ref (ad 2)] σ (fun r τ => τ = σ ∧ r = (σ 2 7) ||| (σ 2 8)) := by
  refine ct_of RX2 rfl (by decide +kernel) [(0, .ref (ad 2))] rfl (Nat.le_of_ble_eq_true rfl) (fun G C T => ?_)
  refine r_aload_n C 0 dX2_allFittings_0 rfl rfl ?_
  refine r_get C (k := 2) (v := .int (σ 2 7)) f_X2_34 (by decide) rfl rfl dX2_allFittings_1 ?_
  refine r_aload_n C 0 dX2_allFittings_4 rfl rfl ?_
  refine r_get C (k := 2) (v := .int (σ 2 8)) f_X2_37 (by decide) rfl rfl dX2_allFittings_5 ?_
  refine r_ior C dX2_allFittings_8 ?_
  refine r_nm (P := fun z => z = (σ 2 7 : Int32) ||| (σ 2 8)) rfl (fun z_1 hz_2 => ?_)
  exact r_iret C T dX2_allFittings_9 ⟨rfl, by assumption⟩
set_option maxHeartbeats 4000000 in
set_option maxRecDepth 100000 in
theorem c_X2_knownAt (E : Ev) (ad : Nat → Nat) (σ : Sg) (p : Int32) (hI : IC σ) : Ct E ad yX2_knownAt cX2_knownAt 4 (some .int) 0 [.ref (ad 2), .int p] σ (fun r τ => τ = σ ∧ True) := by
  have k_0 : (0 : Int32).toInt = 0 := by decide
  have k_1 : (1 : Int32).toInt = 1 := by decide
  have hJ := hI
  unfold IC at hJ
  refine ct_of RX2 rfl (by decide +kernel) [(0, .ref (ad 2)), (1, .int (p))] rfl (Nat.le_of_ble_eq_true rfl) (fun G C T => ?_)
  refine r_iconst C (0) dX2_knownAt_0 (by decide) ?_
  refine r_istore_n C [(2, .int (0)), (0, .ref (ad 2)), (1, .int (p))] dX2_knownAt_1 rfl (by decide) rfl ?_
  refine r_iconst C (0) dX2_knownAt_2 (by decide) ?_
  refine r_istore_n C [(3, .int (0)), (2, .int (0)), (0, .ref (ad 2)), (1, .int (p))] dX2_knownAt_3 rfl (by decide) rfl ?_
  have L_4 : ∀ (n : Nat), ∀ (a : Int32) (i : Int32), (0 ≤ i.toInt ∧ i.toInt ≤ 12) → 12 - i.toInt < (n : Int) → At E ad G 4 4 [(3, .int (i)), (2, .int (a)), (0, .ref (ad 2)), (1, .int (p))] [] σ := by
    intro n
    induction n with
    | zero =>
      intro a i hi hm
      exact absurd hm (by omega)
    | succ n ih =>
      intro a i hi hm
      have ih_4 := ih
      clear ih
      refine r_iload_n C 0 dX2_knownAt_4 rfl rfl ?_
      refine r_aload_n C 2 dX2_knownAt_5 rfl rfl ?_
      refine r_get C (k := 2) (v := .int (σ 2 6)) f_X2_30 (by decide) rfl rfl dX2_knownAt_6 ?_
      refine r_icmp_ge C 38 dX2_knownAt_9 (by decide) (fun c_1 => ?_) (fun c_1 => ?_)
      · -- to 38
        refine r_iload_n C 1 dX2_knownAt_38 rfl rfl ?_
        exact r_iret C T dX2_knownAt_39 ⟨rfl, trivial⟩
      · -- to 12
        refine r_iload_n C 1 dX2_knownAt_12 rfl rfl ?_
        refine r_aload_n C 2 dX2_knownAt_13 rfl rfl ?_
        refine r_get C (k := 2) (v := .ref (ad 7)) f_X2_24 (by decide) rfl rfl dX2_knownAt_14 ?_
        refine r_iload_n C 0 dX2_knownAt_17 rfl rfl ?_
        refine r_iald C (k := 7) (by decide) rfl (by omega) (σ 7 ((i : Int32).toInt.toNat)) rfl dX2_knownAt_18 ?_
        refine r_iload_n C 3 dX2_knownAt_19 rfl rfl ?_
        refine r_icmp_gt C 29 dX2_knownAt_20 (by decide) (fun c_2 => ?_) (fun c_2 => ?_)
        · -- to 29
          refine r_iconst C (0) dX2_knownAt_29 (by decide) ?_
          refine r_ior C dX2_knownAt_30 ?_
          refine r_nm (P := fun z => z = (a : Int32) ||| (0)) rfl (fun z_3 hz_4 => ?_)
          refine r_istore_n C [(2, .int (z_3)), (3, .int (i)), (0, .ref (ad 2)), (1, .int (p))] dX2_knownAt_31 rfl (by decide) rfl ?_
          refine r_iinc C 1 (fun z => [(3, .int (z)), (2, .int (z_3)), (0, .ref (ad 2)), (1, .int (p))]) dX2_knownAt_32 rfl (by decide) (by decide) (by omega) (fun _ => rfl) (fun z_5 hz_6 => ?_)
          refine r_goto C 4 dX2_knownAt_35 (by decide) ?_
          exact At.sub [0, 1, 2, 3] rfl (ih_4 (z_3 : Int32) (z_5 : Int32) (by omega) (by omega))
        · -- to 23
          refine r_iconst C (1) dX2_knownAt_23 (by decide) ?_
          refine r_iload_n C 0 dX2_knownAt_24 rfl rfl ?_
          refine r_ishl C dX2_knownAt_25 ?_
          refine r_nm (P := fun z => z = (1 : Int32) <<< ((i : Int32) &&& 31)) rfl (fun z_7 hz_8 => ?_)
          refine r_goto C 30 dX2_knownAt_26 (by decide) ?_
          refine r_ior C dX2_knownAt_30 ?_
          refine r_nm (P := fun z => z = (a : Int32) ||| (z_7)) rfl (fun z_9 hz_10 => ?_)
          refine r_istore_n C [(2, .int (z_9)), (3, .int (i)), (0, .ref (ad 2)), (1, .int (p))] dX2_knownAt_31 rfl (by decide) rfl ?_
          refine r_iinc C 1 (fun z => [(3, .int (z)), (2, .int (z_9)), (0, .ref (ad 2)), (1, .int (p))]) dX2_knownAt_32 rfl (by decide) (by decide) (by omega) (fun _ => rfl) (fun z_11 hz_12 => ?_)
          refine r_goto C 4 dX2_knownAt_35 (by decide) ?_
          exact At.sub [0, 1, 2, 3] rfl (ih_4 (z_9 : Int32) (z_11 : Int32) (by omega) (by omega))
  exact At.sub [0, 1, 2, 3] rfl (L_4 ((12 - (0 : Int32).toInt).toNat + 1) (0 : Int32) (0 : Int32) (by omega) (by omega))
set_option maxHeartbeats 4000000 in
set_option maxRecDepth 100000 in
theorem c_X2_stepOver (E : Ev) (ad : Nat → Nat) (σ : Sg) (p : Int32) (q : Int32) (hI : IC σ) : Ct E ad yX2_stepOver cX2_stepOver 5 (some .int) 0 [.ref (ad 2), .int p, .int q] σ (fun r τ => τ = σ ∧ ((σ 2 6).toInt = 0 → r = p)) := by
  have k_0 : (0 : Int32).toInt = 0 := by decide
  have k_1 : (1 : Int32).toInt = 1 := by decide
  have hJ := hI
  unfold IC at hJ
  refine ct_of RX2 rfl (by decide +kernel) [(0, .ref (ad 2)), (1, .int (p)), (2, .int (q))] rfl (Nat.le_of_ble_eq_true rfl) (fun G C T => ?_)
  refine r_iload_n C 1 dX2_stepOver_0 rfl rfl ?_
  refine r_istore_n C [(3, .int (p)), (0, .ref (ad 2)), (1, .int (p)), (2, .int (q))] dX2_stepOver_1 rfl (by decide) rfl ?_
  refine r_iconst C (0) dX2_stepOver_2 (by decide) ?_
  refine r_istore C [(4, .int (0)), (3, .int (p)), (0, .ref (ad 2)), (1, .int (p)), (2, .int (q))] dX2_stepOver_3 (by decide) rfl ?_
  have L_5 : ∀ (n : Nat), ∀ (a : Int32) (i : Int32), (0 ≤ i.toInt ∧ i.toInt ≤ 12) → ((σ 2 6).toInt = 0 → a = p) → 12 - i.toInt < (n : Int) → At E ad G 5 5 [(4, .int (i)), (3, .int (a)), (0, .ref (ad 2)), (1, .int (p)), (2, .int (q))] [] σ := by
    intro n
    induction n with
    | zero =>
      intro a i hi hf hm
      exact absurd hm (by omega)
    | succ n ih =>
      intro a i hi hf hm
      have ih_5 := ih
      clear ih
      refine r_iload C 0 dX2_stepOver_5 rfl ?_
      refine r_aload_n C 2 dX2_stepOver_7 rfl rfl ?_
      refine r_get C (k := 2) (v := .int (σ 2 6)) f_X2_30 (by decide) rfl rfl dX2_stepOver_8 ?_
      refine r_icmp_ge C 51 dX2_stepOver_11 (by decide) (fun c_1 => ?_) (fun c_1 => ?_)
      · -- to 51
        refine r_iload_n C 1 dX2_stepOver_51 rfl rfl ?_
        exact r_iret C T dX2_stepOver_52 ⟨rfl, hf⟩
      · -- to 14
        refine r_iload_n C 4 dX2_stepOver_14 rfl rfl ?_
        refine r_iload C 0 dX2_stepOver_15 rfl ?_
        refine r_ishr C dX2_stepOver_17 ?_
        refine r_nm (P := fun z => z = (q : Int32) >>> ((i : Int32) &&& 31)) rfl (fun z_2 hz_3 => ?_)
        refine r_iconst C (1) dX2_stepOver_18 (by decide) ?_
        refine r_iand C dX2_stepOver_19 ?_
        refine r_nm (P := fun z => z = (z_2 : Int32) &&& (1)) rfl (fun z_4 hz_5 => ?_)
        refine r_if_eq C 45 dX2_stepOver_20 (by decide) (fun c_6 => ?_) (fun c_6 => ?_)
        · -- to 45
          refine r_iinc C 0 (fun z => [(4, .int (z)), (3, .int (a)), (0, .ref (ad 2)), (1, .int (p)), (2, .int (q))]) dX2_stepOver_45 rfl (by decide) (by decide) (by omega) (fun _ => rfl) (fun z_7 hz_8 => ?_)
          refine r_goto C 5 dX2_stepOver_48 (by decide) ?_
          exact At.sub [0, 1, 2, 3, 4] rfl (ih_5 (a : Int32) (z_7 : Int32) (by omega) (fun h => absurd h (by omega)) (by omega))
        · -- to 23
          refine r_aload_n C 2 dX2_stepOver_23 rfl rfl ?_
          refine r_get C (k := 2) (v := .ref (ad 5)) f_X2_18 (by decide) rfl rfl dX2_stepOver_24 ?_
          refine r_iload C 0 dX2_stepOver_27 rfl ?_
          refine r_iald C (k := 5) (by decide) rfl (by omega) (σ 5 ((i : Int32).toInt.toNat)) rfl dX2_stepOver_29 ?_
          refine r_iload_n C 3 dX2_stepOver_30 rfl rfl ?_
          refine r_iand C dX2_stepOver_31 ?_
          refine r_nm (P := fun z => z = (σ 5 ((i : Int32).toInt.toNat) : Int32) &&& (p)) rfl (fun z_9 hz_10 => ?_)
          refine r_if_eq C 45 dX2_stepOver_32 (by decide) (fun c_11 => ?_) (fun c_11 => ?_)
          · -- to 45
            refine r_iinc C 0 (fun z => [(4, .int (z)), (3, .int (a)), (0, .ref (ad 2)), (1, .int (p)), (2, .int (q))]) dX2_stepOver_45 rfl (by decide) (by decide) (by omega) (fun _ => rfl) (fun z_12 hz_13 => ?_)
            refine r_goto C 5 dX2_stepOver_48 (by decide) ?_
            exact At.sub [0, 1, 2, 3, 4] rfl (ih_5 (a : Int32) (z_12 : Int32) (by omega) (fun h => absurd h (by omega)) (by omega))
          · -- to 35
            refine r_iload_n C 1 dX2_stepOver_35 rfl rfl ?_
            refine r_aload_n C 2 dX2_stepOver_36 rfl rfl ?_
            refine r_get C (k := 2) (v := .ref (ad 5)) f_X2_18 (by decide) rfl rfl dX2_stepOver_37 ?_
            refine r_iload C 0 dX2_stepOver_40 rfl ?_
            refine r_iald C (k := 5) (by decide) rfl (by omega) (σ 5 ((i : Int32).toInt.toNat)) rfl dX2_stepOver_42 ?_
            refine r_ior C dX2_stepOver_43 ?_
            refine r_nm (P := fun z => z = (a : Int32) ||| (σ 5 ((i : Int32).toInt.toNat))) rfl (fun z_14 hz_15 => ?_)
            refine r_istore_n C [(3, .int (z_14)), (4, .int (i)), (0, .ref (ad 2)), (1, .int (p)), (2, .int (q))] dX2_stepOver_44 rfl (by decide) rfl ?_
            refine r_iinc C 1 (fun z => [(4, .int (z)), (3, .int (z_14)), (0, .ref (ad 2)), (1, .int (p)), (2, .int (q))]) dX2_stepOver_45 rfl (by decide) (by decide) (by omega) (fun _ => rfl) (fun z_16 hz_17 => ?_)
            refine r_goto C 5 dX2_stepOver_48 (by decide) ?_
            exact At.sub [0, 1, 2, 3, 4] rfl (ih_5 (z_14 : Int32) (z_16 : Int32) (by omega) (fun h => absurd h (by omega)) (by omega))
  exact At.sub [0, 1, 2, 3, 4] rfl (L_5 ((12 - (0 : Int32).toInt).toNat + 1) (p : Int32) (0 : Int32) (by omega) (fun _ => rfl) (by omega))
set_option maxHeartbeats 4000000 in
set_option maxRecDepth 100000 in
theorem c_X2_spread (E : Ev) (ad : Nat → Nat) (σ : Sg) (p : Int32) (q : Int32) (hI : IC σ) : Ct E ad yX2_spread cX2_spread 7 (some .int) 0 [.ref (ad 2), .int p, .int q] σ (fun r τ => τ = σ ∧ ((σ 2 6).toInt = 0 → r = p)) := by
  have k_0 : (0 : Int32).toInt = 0 := by decide
  have k_1 : (1 : Int32).toInt = 1 := by decide
  have k_10 : (10 : Int32).toInt = 10 := by decide
  have hJ := hI
  unfold IC at hJ
  refine ct_of RX2 rfl (by decide +kernel) [(0, .ref (ad 2)), (1, .int (p)), (2, .int (q))] rfl (Nat.le_of_ble_eq_true rfl) (fun G C T => ?_)
  refine r_iload_n C 1 dX2_spread_0 rfl rfl ?_
  refine r_istore_n C [(3, .int (p)), (0, .ref (ad 2)), (1, .int (p)), (2, .int (q))] dX2_spread_1 rfl (by decide) rfl ?_
  refine r_iconst C (0) dX2_spread_2 (by decide) ?_
  refine r_istore C [(4, .int (0)), (3, .int (p)), (0, .ref (ad 2)), (1, .int (p)), (2, .int (q))] dX2_spread_3 (by decide) rfl ?_
  have L_5 : ∀ (n : Nat), ∀ (a : Int32) (i : Int32), (0 ≤ i.toInt ∧ i.toInt ≤ 10) → ((σ 2 6).toInt = 0 → a = p) → 10 - i.toInt < (n : Int) → At E ad G 7 5 [(4, .int (i)), (3, .int (a)), (0, .ref (ad 2)), (1, .int (p)), (2, .int (q))] [] σ := by
    intro n
    induction n with
    | zero =>
      intro a i hi hf hm
      exact absurd hm (by omega)
    | succ n ih =>
      intro a i hi hf hm
      have ih_5 := ih
      clear ih
      refine r_iload C 0 dX2_spread_5 rfl ?_
      refine r_bipush C (10) dX2_spread_7 (by decide) ?_
      refine r_icmp_ge C 79 dX2_spread_9 (by decide) (fun c_1 => ?_) (fun c_1 => ?_)
      · -- to 79
        refine r_iload_n C 1 dX2_spread_79 rfl rfl ?_
        exact r_iret C T dX2_spread_80 ⟨rfl, by first | exact hg | exact hf⟩
      · -- to 12
        refine r_iload_n C 1 dX2_spread_12 rfl rfl ?_
        refine r_istore C [(5, .int (a)), (4, .int (i)), (3, .int (a)), (0, .ref (ad 2)), (1, .int (p)), (2, .int (q))] dX2_spread_13 (by decide) rfl ?_
        refine r_iconst C (0) dX2_spread_15 (by decide) ?_
        refine r_istore C [(6, .int (0)), (5, .int (a)), (4, .int (i)), (3, .int (a)), (0, .ref (ad 2)), (1, .int (p)), (2, .int (q))] dX2_spread_16 (by decide) rfl ?_
        have L_18 : ∀ (n : Nat), ∀ (b : Int32) (j : Int32), (0 ≤ j.toInt ∧ j.toInt ≤ 12) → ((σ 2 6).toInt = 0 → b = p) → 12 - j.toInt < (n : Int) → At E ad G 7 18 [(6, .int (j)), (5, .int (a)), (4, .int (i)), (3, .int (b)), (0, .ref (ad 2)), (1, .int (p)), (2, .int (q))] [] σ := by
          intro n
          induction n with
          | zero =>
            intro b j hj hg hm
            exact absurd hm (by omega)
          | succ n ih =>
            intro b j hj hg hm
            have ih_18 := ih
            clear ih
            refine r_iload C 0 dX2_spread_18 rfl ?_
            refine r_aload_n C 4 dX2_spread_20 rfl rfl ?_
            refine r_get C (k := 2) (v := .int (σ 2 6)) f_X2_30 (by decide) rfl rfl dX2_spread_21 ?_
            refine r_icmp_ge C 64 dX2_spread_24 (by decide) (fun c_2 => ?_) (fun c_2 => ?_)
            · -- to 64
              refine r_iload_n C 3 dX2_spread_64 rfl rfl ?_
              refine r_iload C 1 dX2_spread_65 rfl ?_
              refine r_icmp_ne C 73 dX2_spread_67 (by decide) (fun c_3 => ?_) (fun c_3 => ?_)
              · -- to 73
                refine r_iinc C 2 (fun z => [(4, .int (z)), (6, .int (j)), (5, .int (a)), (3, .int (b)), (0, .ref (ad 2)), (1, .int (p)), (2, .int (q))]) dX2_spread_73 rfl (by decide) (by decide) (by omega) (fun _ => rfl) (fun z_4 hz_5 => ?_)
                refine r_goto C 5 dX2_spread_76 (by decide) ?_
                exact At.sub [0, 3, 4, 5, 6] rfl (ih_5 (b : Int32) (z_4 : Int32) (by omega) hg (by omega))
              · -- to 70
                refine r_goto C 79 dX2_spread_70 (by decide) ?_
                refine r_iload_n C 3 dX2_spread_79 rfl rfl ?_
                exact r_iret C T dX2_spread_80 ⟨rfl, by first | exact hg | exact hf⟩
            · -- to 27
              refine r_iload_n C 6 dX2_spread_27 rfl rfl ?_
              refine r_iload C 0 dX2_spread_28 rfl ?_
              refine r_ishr C dX2_spread_30 ?_
              refine r_nm (P := fun z => z = (q : Int32) >>> ((j : Int32) &&& 31)) rfl (fun z_6 hz_7 => ?_)
              refine r_iconst C (1) dX2_spread_31 (by decide) ?_
              refine r_iand C dX2_spread_32 ?_
              refine r_nm (P := fun z => z = (z_6 : Int32) &&& (1)) rfl (fun z_8 hz_9 => ?_)
              refine r_if_eq C 58 dX2_spread_33 (by decide) (fun c_10 => ?_) (fun c_10 => ?_)
              · -- to 58
                refine r_iinc C 0 (fun z => [(6, .int (z)), (5, .int (a)), (4, .int (i)), (3, .int (b)), (0, .ref (ad 2)), (1, .int (p)), (2, .int (q))]) dX2_spread_58 rfl (by decide) (by decide) (by omega) (fun _ => rfl) (fun z_11 hz_12 => ?_)
                refine r_goto C 18 dX2_spread_61 (by decide) ?_
                exact At.sub [0, 1, 2, 3, 4, 5, 6] rfl (ih_18 (b : Int32) (z_11 : Int32) (by omega) (fun h => absurd h (by omega)) (by omega))
              · -- to 36
                refine r_aload_n C 4 dX2_spread_36 rfl rfl ?_
                refine r_get C (k := 2) (v := .ref (ad 5)) f_X2_18 (by decide) rfl rfl dX2_spread_37 ?_
                refine r_iload C 0 dX2_spread_40 rfl ?_
                refine r_iald C (k := 5) (by decide) rfl (by omega) (σ 5 ((j : Int32).toInt.toNat)) rfl dX2_spread_42 ?_
                refine r_iload_n C 3 dX2_spread_43 rfl rfl ?_
                refine r_iand C dX2_spread_44 ?_
                refine r_nm (P := fun z => z = (σ 5 ((j : Int32).toInt.toNat) : Int32) &&& (b)) rfl (fun z_13 hz_14 => ?_)
                refine r_if_eq C 58 dX2_spread_45 (by decide) (fun c_15 => ?_) (fun c_15 => ?_)
                · -- to 58
                  refine r_iinc C 0 (fun z => [(6, .int (z)), (5, .int (a)), (4, .int (i)), (3, .int (b)), (0, .ref (ad 2)), (1, .int (p)), (2, .int (q))]) dX2_spread_58 rfl (by decide) (by decide) (by omega) (fun _ => rfl) (fun z_16 hz_17 => ?_)
                  refine r_goto C 18 dX2_spread_61 (by decide) ?_
                  exact At.sub [0, 1, 2, 3, 4, 5, 6] rfl (ih_18 (b : Int32) (z_16 : Int32) (by omega) (fun h => absurd h (by omega)) (by omega))
                · -- to 48
                  refine r_iload_n C 3 dX2_spread_48 rfl rfl ?_
                  refine r_aload_n C 4 dX2_spread_49 rfl rfl ?_
                  refine r_get C (k := 2) (v := .ref (ad 5)) f_X2_18 (by decide) rfl rfl dX2_spread_50 ?_
                  refine r_iload C 0 dX2_spread_53 rfl ?_
                  refine r_iald C (k := 5) (by decide) rfl (by omega) (σ 5 ((j : Int32).toInt.toNat)) rfl dX2_spread_55 ?_
                  refine r_ior C dX2_spread_56 ?_
                  refine r_nm (P := fun z => z = (b : Int32) ||| (σ 5 ((j : Int32).toInt.toNat))) rfl (fun z_18 hz_19 => ?_)
                  refine r_istore_n C [(3, .int (z_18)), (6, .int (j)), (5, .int (a)), (4, .int (i)), (0, .ref (ad 2)), (1, .int (p)), (2, .int (q))] dX2_spread_57 rfl (by decide) rfl ?_
                  refine r_iinc C 1 (fun z => [(6, .int (z)), (3, .int (z_18)), (5, .int (a)), (4, .int (i)), (0, .ref (ad 2)), (1, .int (p)), (2, .int (q))]) dX2_spread_58 rfl (by decide) (by decide) (by omega) (fun _ => rfl) (fun z_20 hz_21 => ?_)
                  refine r_goto C 18 dX2_spread_61 (by decide) ?_
                  exact At.sub [0, 2, 3, 1, 4, 5, 6] rfl (ih_18 (z_18 : Int32) (z_20 : Int32) (by omega) (fun h => absurd h (by omega)) (by omega))
        exact At.sub [0, 1, 2, 3, 4, 5, 6] rfl (L_18 ((12 - (0 : Int32).toInt).toNat + 1) (a : Int32) (0 : Int32) (by omega) hf (by omega))
  exact At.sub [0, 1, 2, 3, 4] rfl (L_5 ((10 - (0 : Int32).toInt).toNat + 1) (p : Int32) (0 : Int32) (by omega) (fun _ => rfl) (by omega))
set_option maxHeartbeats 4000000 in
set_option maxRecDepth 100000 in
theorem c_X2_sourcesOf (E : Ev) (ad : Nat → Nat) (σ : Sg) (p : Int32)  : Ct E ad yX2_sourcesOf cX2_sourcesOf 4 (some .int) 0 [.ref (ad 2), .int p] σ (fun r τ => τ = σ ∧ ((∀ j, σ 8 j = 0) → r = 0)) := by
  have k_0 : (0 : Int32).toInt = 0 := by decide
  have k_1 : (1 : Int32).toInt = 1 := by decide
  have k_3 : (3 : Int32).toInt = 3 := by decide
  refine ct_of RX2 rfl (by decide +kernel) [(0, .ref (ad 2)), (1, .int (p))] rfl (Nat.le_of_ble_eq_true rfl) (fun G C T => ?_)
  refine r_iconst C (0) dX2_sourcesOf_0 (by decide) ?_
  refine r_istore_n C [(2, .int (0)), (0, .ref (ad 2)), (1, .int (p))] dX2_sourcesOf_1 rfl (by decide) rfl ?_
  refine r_iconst C (0) dX2_sourcesOf_2 (by decide) ?_
  refine r_istore_n C [(3, .int (0)), (2, .int (0)), (0, .ref (ad 2)), (1, .int (p))] dX2_sourcesOf_3 rfl (by decide) rfl ?_
  have L_4 : ∀ (n : Nat), ∀ (a : Int32) (i : Int32), (0 ≤ i.toInt ∧ i.toInt ≤ 3) → ((∀ j, σ 8 j = 0) → a = 0) → 3 - i.toInt < (n : Int) → At E ad G 4 4 [(3, .int (i)), (2, .int (a)), (0, .ref (ad 2)), (1, .int (p))] [] σ := by
    intro n
    induction n with
    | zero =>
      intro a i hi hf hm
      exact absurd hm (by omega)
    | succ n ih =>
      intro a i hi hf hm
      have ih_4 := ih
      clear ih
      refine r_iload_n C 0 dX2_sourcesOf_4 rfl rfl ?_
      refine r_iconst C (3) dX2_sourcesOf_5 (by decide) ?_
      refine r_icmp_ge C 36 dX2_sourcesOf_6 (by decide) (fun c_1 => ?_) (fun c_1 => ?_)
      · -- to 36
        refine r_iload_n C 1 dX2_sourcesOf_36 rfl rfl ?_
        exact r_iret C T dX2_sourcesOf_37 ⟨rfl, hf⟩
      · -- to 9
        refine r_iload_n C 1 dX2_sourcesOf_9 rfl rfl ?_
        refine r_iload_n C 3 dX2_sourcesOf_10 rfl rfl ?_
        refine r_iload_n C 0 dX2_sourcesOf_11 rfl rfl ?_
        refine r_ishr C dX2_sourcesOf_12 ?_
        refine r_nm (P := fun z => z = (p : Int32) >>> ((i : Int32) &&& 31)) rfl (fun z_2 hz_3 => ?_)
        refine r_iconst C (1) dX2_sourcesOf_13 (by decide) ?_
        refine r_iand C dX2_sourcesOf_14 ?_
        refine r_nm (P := fun z => z = (z_2 : Int32) &&& (1)) rfl (fun z_4 hz_5 => ?_)
        refine r_if_eq C 27 dX2_sourcesOf_15 (by decide) (fun c_6 => ?_) (fun c_6 => ?_)
        · -- to 27
          refine r_iconst C (0) dX2_sourcesOf_27 (by decide) ?_
          refine r_ior C dX2_sourcesOf_28 ?_
          refine r_nm (P := fun z => z = (a : Int32) ||| (0)) rfl (fun z_7 hz_8 => ?_)
          refine r_istore_n C [(2, .int (z_7)), (3, .int (i)), (0, .ref (ad 2)), (1, .int (p))] dX2_sourcesOf_29 rfl (by decide) rfl ?_
          refine r_iinc C 1 (fun z => [(3, .int (z)), (2, .int (z_7)), (0, .ref (ad 2)), (1, .int (p))]) dX2_sourcesOf_30 rfl (by decide) (by decide) (by omega) (fun _ => rfl) (fun z_9 hz_10 => ?_)
          refine r_goto C 4 dX2_sourcesOf_33 (by decide) ?_
          exact At.sub [0, 1, 2, 3] rfl (ih_4 (z_7 : Int32) (z_9 : Int32) (by omega) (fun h => by rw [hz_8, hf h]; first | rw [h]; rfl | rfl) (by omega))
        · -- to 18
          refine r_aload_n C 2 dX2_sourcesOf_18 rfl rfl ?_
          refine r_get C (k := 2) (v := .ref (ad 8)) f_X2_27 (by decide) rfl rfl dX2_sourcesOf_19 ?_
          refine r_iload_n C 0 dX2_sourcesOf_22 rfl rfl ?_
          refine r_iald C (k := 8) (by decide) rfl (by omega) (σ 8 ((i : Int32).toInt.toNat)) rfl dX2_sourcesOf_23 ?_
          refine r_goto C 28 dX2_sourcesOf_24 (by decide) ?_
          refine r_ior C dX2_sourcesOf_28 ?_
          refine r_nm (P := fun z => z = (a : Int32) ||| (σ 8 ((i : Int32).toInt.toNat))) rfl (fun z_11 hz_12 => ?_)
          refine r_istore_n C [(2, .int (z_11)), (3, .int (i)), (0, .ref (ad 2)), (1, .int (p))] dX2_sourcesOf_29 rfl (by decide) rfl ?_
          refine r_iinc C 1 (fun z => [(3, .int (z)), (2, .int (z_11)), (0, .ref (ad 2)), (1, .int (p))]) dX2_sourcesOf_30 rfl (by decide) (by decide) (by omega) (fun _ => rfl) (fun z_13 hz_14 => ?_)
          refine r_goto C 4 dX2_sourcesOf_33 (by decide) ?_
          exact At.sub [0, 1, 2, 3] rfl (ih_4 (z_11 : Int32) (z_13 : Int32) (by omega) (fun h => by rw [hz_12, hf h]; first | rw [h]; rfl | rfl) (by omega))
  exact At.sub [0, 1, 2, 3] rfl (L_4 ((3 - (0 : Int32).toInt).toNat + 1) (0 : Int32) (0 : Int32) (by omega) (fun _ => rfl) (by omega))
set_option maxHeartbeats 4000000 in
set_option maxRecDepth 100000 in
theorem c_X2_isSafe (E : Ev) (ad : Nat → Nat) (σ : Sg) (p : Int32) (q : Int32) (u : Int32) (v : Int32) (hI : IC σ) : Ct E ad yX2_isSafe cX2_isSafe 8 (some .boolean) 1 [.ref (ad 2), .int p, .int q, .int u, .int v] σ (fun r τ => τ = σ ∧ (r.toInt = 0 ∨ r.toInt = 1) ∧ ((∀ j, σ 8 j = 0) → r.toInt = 1)) := by
  have k_m1 : (-1 : Int32).toInt = -1 := by decide
  have k_0 : (0 : Int32).toInt = 0 := by decide
  have k_1 : (1 : Int32).toInt = 1 := by decide
  have k_7 : (7 : Int32).toInt = 7 := by decide
  have hJ := hI
  unfold IC at hJ
  refine ct_of RX2 rfl (by decide +kernel) [(0, .ref (ad 2)), (1, .int (p)), (2, .int (q)), (3, .int (u)), (4, .int (v))] rfl (Nat.le_of_ble_eq_true rfl) (fun G C T => ?_)
  refine r_iload_n C 3 dX2_isSafe_0 rfl rfl ?_
  refine r_iload_n C 2 dX2_isSafe_1 rfl rfl ?_
  refine r_iconst C (-1) dX2_isSafe_2 (by decide) ?_
  refine r_ixor C dX2_isSafe_3 ?_
  refine r_nm (P := fun z => z = (q : Int32) ^^^ ((-1))) rfl (fun z_1 hz_2 => ?_)
  refine r_iand C dX2_isSafe_4 ?_
  refine r_nm (P := fun z => z = (u : Int32) &&& (z_1)) rfl (fun z_3 hz_4 => ?_)
  refine r_istore C [(5, .int (z_3)), (0, .ref (ad 2)), (1, .int (p)), (2, .int (q)), (3, .int (u)), (4, .int (v))] dX2_isSafe_5 (by decide) rfl ?_
  refine r_aload_n C 1 dX2_isSafe_7 rfl rfl ?_
  refine r_iconst C (1) dX2_isSafe_8 (by decide) ?_
  refine r_iload_n C 2 dX2_isSafe_9 rfl rfl ?_
  refine r_ishl C dX2_isSafe_10 ?_
  refine r_nm (P := fun z => z = (1 : Int32) <<< ((p : Int32) &&& 31)) rfl (fun z_5 hz_6 => ?_)
  refine r_iload C 0 dX2_isSafe_11 rfl ?_
  refine r_callV C (k := 2) [.int (z_5), .int (z_3)] [] (c_X2_spread E ad σ  (z_5) (z_3) hI) lv_X2_47 (by decide) rfl rfl (by decide) (by decide) rfl rfl (Nat.le_of_ble_eq_true rfl) dX2_isSafe_13 (fun r_7 τ_8 h_9 => ?_)
  obtain ⟨eh_9, h_9⟩ := h_9
  obtain rfl := eh_9.symm
  refine r_istore C [(6, .int (r_7)), (5, .int (z_3)), (0, .ref (ad 2)), (1, .int (p)), (2, .int (q)), (3, .int (u)), (4, .int (v))] dX2_isSafe_16 (by decide) rfl ?_
  refine r_iload C 0 dX2_isSafe_18 rfl ?_
  refine r_aload_n C 2 dX2_isSafe_20 rfl rfl ?_
  refine r_bipush C (7) dX2_isSafe_21 (by decide) ?_
  refine r_callV C (k := 2) [.int (7)] [.int (r_7)] (c_X2_sourcesOf E ad σ  (7) ) lv_X2_51 (by decide) rfl rfl (by decide) (by decide) rfl rfl (Nat.le_of_ble_eq_true rfl) dX2_isSafe_23 (fun r_10 τ_11 h_12 => ?_)
  obtain ⟨eh_12, h_12⟩ := h_12
  obtain rfl := eh_12.symm
  refine r_iand C dX2_isSafe_26 ?_
  refine r_nm (P := fun z => z = (r_7 : Int32) &&& (r_10)) rfl (fun z_13 hz_14 => ?_)
  refine r_if_eq C 32 dX2_isSafe_27 (by decide) (fun c_15 => ?_) (fun c_15 => ?_)
  · -- to 32
    refine r_iload C 6 dX2_isSafe_32 rfl ?_
    refine r_if_ne C 39 dX2_isSafe_34 (by decide) (fun c_16 => ?_) (fun c_16 => ?_)
    · -- to 39
      refine r_aload_n C 2 dX2_isSafe_39 rfl rfl ?_
      refine r_iload C 0 dX2_isSafe_40 rfl ?_
      refine r_iload_n C 5 dX2_isSafe_42 rfl rfl ?_
      refine r_iload_n C 4 dX2_isSafe_43 rfl rfl ?_
      refine r_iand C dX2_isSafe_44 ?_
      refine r_nm (P := fun z => z = (u : Int32) &&& (q)) rfl (fun z_17 hz_18 => ?_)
      refine r_aload_n C 2 dX2_isSafe_45 rfl rfl ?_
      refine r_get C (k := 2) (v := .int (σ 2 7)) f_X2_34 (by decide) rfl rfl dX2_isSafe_46 ?_
      refine r_iand C dX2_isSafe_49 ?_
      refine r_nm (P := fun z => z = (z_17 : Int32) &&& (σ 2 7)) rfl (fun z_19 hz_20 => ?_)
      refine r_callV C (k := 2) [.int (r_7), .int (z_19)] [] (c_X2_stepOver E ad σ  (r_7) (z_19) hI) lv_X2_55 (by decide) rfl rfl (by decide) (by decide) rfl rfl (Nat.le_of_ble_eq_true rfl) dX2_isSafe_50 (fun r_21 τ_22 h_23 => ?_)
      obtain ⟨eh_23, h_23⟩ := h_23
      obtain rfl := eh_23.symm
      refine r_istore C [(7, .int (r_21)), (6, .int (r_7)), (5, .int (z_3)), (0, .ref (ad 2)), (1, .int (p)), (2, .int (q)), (3, .int (u)), (4, .int (v))] dX2_isSafe_53 (by decide) rfl ?_
      refine r_aload_n C 3 dX2_isSafe_55 rfl rfl ?_
      refine r_iload C 0 dX2_isSafe_56 rfl ?_
      refine r_iload C 2 dX2_isSafe_58 rfl ?_
      refine r_callV C (k := 2) [.int (r_21), .int (z_3)] [] (c_X2_spread E ad σ  (r_21) (z_3) hI) lv_X2_47 (by decide) rfl rfl (by decide) (by decide) rfl rfl (Nat.le_of_ble_eq_true rfl) dX2_isSafe_60 (fun r_24 τ_25 h_26 => ?_)
      obtain ⟨eh_26, h_26⟩ := h_26
      obtain rfl := eh_26.symm
      refine r_aload_n C 3 dX2_isSafe_63 rfl rfl ?_
      refine r_iload C 7 dX2_isSafe_64 rfl ?_
      refine r_callV C (k := 2) [.int (v)] [.int (r_24)] (c_X2_sourcesOf E ad σ  (v) ) lv_X2_51 (by decide) rfl rfl (by decide) (by decide) rfl rfl (Nat.le_of_ble_eq_true rfl) dX2_isSafe_66 (fun r_27 τ_28 h_29 => ?_)
      obtain ⟨eh_29, h_29⟩ := h_29
      obtain rfl := eh_29.symm
      refine r_iand C dX2_isSafe_69 ?_
      refine r_nm (P := fun z => z = (r_24 : Int32) &&& (r_27)) rfl (fun z_30 hz_31 => ?_)
      refine r_if_ne C 77 dX2_isSafe_70 (by decide) (fun c_32 => ?_) (fun c_32 => ?_)
      · -- to 77
        refine r_iconst C (0) dX2_isSafe_77 (by decide) ?_
        exact r_zret C T dX2_isSafe_78 (by omega) ⟨rfl, by omega, fun h => by first | exact k_1 | exact absurd (by rw [hz_31, h_29 h]; simp) c_32⟩
      · -- to 73
        refine r_iconst C (1) dX2_isSafe_73 (by decide) ?_
        refine r_goto C 78 dX2_isSafe_74 (by decide) ?_
        exact r_zret C T dX2_isSafe_78 (by omega) ⟨rfl, by omega, fun h => by first | exact k_1 | exact absurd (by rw [hz_31, h_29 h]; simp) c_32⟩
    · -- to 37
      refine r_iconst C (1) dX2_isSafe_37 (by decide) ?_
      exact r_zret C T dX2_isSafe_38 (by omega) ⟨rfl, Or.inr k_1, fun _ => k_1⟩
  · -- to 30
    refine r_iconst C (0) dX2_isSafe_30 (by decide) ?_
    exact r_zret C T dX2_isSafe_31 (by omega) ⟨rfl, Or.inl k_0, fun h => absurd (by rw [hz_14, h_12 h]; simp) c_15⟩
set_option maxHeartbeats 4000000 in
set_option maxRecDepth 100000 in
theorem c_X2_fewestBarriers (E : Ev) (ad : Nat → Nat) (σ : Sg) (p : Int32) (q : Int32) (u : Int32) (hI : IC σ) : Ct E ad yX2_fewestBarriers cX2_fewestBarriers 9 (some .int) 1 [.ref (ad 2), .int p, .int q, .int u] σ (fun r τ => τ = σ ∧ ((σ 2 6).toInt = 0 → (0 ≤ p.toInt ∧ p.toInt < 10 ∧ 0 ≤ q.toInt ∧ q.toInt < 10) → ((p.toInt = q.toInt → r.toInt = 0) ∧ (p.toInt ≠ q.toInt → r.toInt = -3)))) := by
  have k_m3 : (-3 : Int32).toInt = -3 := by decide
  have k_m1 : (-1 : Int32).toInt = -1 := by decide
  have k_0 : (0 : Int32).toInt = 0 := by decide
  have k_1 : (1 : Int32).toInt = 1 := by decide
  have k_18 : (18 : Int32).toInt = 18 := by decide
  have hJ := hI
  unfold IC at hJ
  refine ct_of RX2 rfl (by decide +kernel) [(0, .ref (ad 2)), (1, .int (p)), (2, .int (q)), (3, .int (u))] rfl (Nat.le_of_ble_eq_true rfl) (fun G C T => ?_)
  refine r_aload_n C 0 dX2_fewestBarriers_0 rfl rfl ?_
  refine r_callV C (k := 2) [] [] (c_X2_allPipes E ad σ   ) lv_X2_58 (by decide) rfl rfl (by decide) (by decide) rfl rfl (Nat.le_of_ble_eq_true rfl) dX2_fewestBarriers_1 (fun r_1 τ_2 h_3 => ?_)
  obtain ⟨eh_3, h_3⟩ := h_3
  obtain rfl := eh_3.symm
  refine r_iload_n C 3 dX2_fewestBarriers_4 rfl rfl ?_
  refine r_iconst C (-1) dX2_fewestBarriers_5 (by decide) ?_
  refine r_ixor C dX2_fewestBarriers_6 ?_
  refine r_nm (P := fun z => z = (u : Int32) ^^^ ((-1))) rfl (fun z_4 hz_5 => ?_)
  refine r_iand C dX2_fewestBarriers_7 ?_
  refine r_nm (P := fun z => z = (r_1 : Int32) &&& (z_4)) rfl (fun z_6 hz_7 => ?_)
  refine r_istore C [(4, .int (z_6)), (0, .ref (ad 2)), (1, .int (p)), (2, .int (q)), (3, .int (u))] dX2_fewestBarriers_8 (by decide) rfl ?_
  refine r_iconst C (0) dX2_fewestBarriers_10 (by decide) ?_
  refine r_istore C [(5, .int (0)), (4, .int (z_6)), (0, .ref (ad 2)), (1, .int (p)), (2, .int (q)), (3, .int (u))] dX2_fewestBarriers_11 (by decide) rfl ?_
  refine r_aload_n C 2 dX2_fewestBarriers_13 rfl rfl ?_
  refine r_iconst C (1) dX2_fewestBarriers_14 (by decide) ?_
  refine r_iload_n C 3 dX2_fewestBarriers_15 rfl rfl ?_
  refine r_ishl C dX2_fewestBarriers_16 ?_
  refine r_nm (P := fun z => z = (1 : Int32) <<< ((p : Int32) &&& 31)) rfl (fun z_8 hz_9 => ?_)
  refine r_iload C 1 dX2_fewestBarriers_17 rfl ?_
  refine r_callV C (k := 2) [.int (z_8), .int (z_6)] [] (c_X2_spread E ad σ  (z_8) (z_6) hI) lv_X2_47 (by decide) rfl rfl (by decide) (by decide) rfl rfl (Nat.le_of_ble_eq_true rfl) dX2_fewestBarriers_19 (fun r_10 τ_11 h_12 => ?_)
  obtain ⟨eh_12, h_12⟩ := h_12
  obtain rfl := eh_12.symm
  refine r_istore C [(6, .int (r_10)), (5, .int (0)), (4, .int (z_6)), (0, .ref (ad 2)), (1, .int (p)), (2, .int (q)), (3, .int (u))] dX2_fewestBarriers_22 (by decide) rfl ?_
  refine r_iconst C (0) dX2_fewestBarriers_24 (by decide) ?_
  refine r_istore C [(7, .int (0)), (6, .int (r_10)), (5, .int (0)), (4, .int (z_6)), (0, .ref (ad 2)), (1, .int (p)), (2, .int (q)), (3, .int (u))] dX2_fewestBarriers_25 (by decide) rfl ?_
  have L_27 : ∀ (n : Nat), ∀ (a : Int32) (b : Int32) (i : Int32), (0 ≤ i.toInt ∧ i.toInt ≤ 19) → ((σ 2 6).toInt = 0 → (0 ≤ p.toInt ∧ p.toInt < 10 ∧ 0 ≤ q.toInt ∧ q.toInt < 10) → (b = (1 : Int32) <<< (p &&& 31) ∧ (a = 0 ∨ a = (1 : Int32) <<< (p &&& 31)) ∧ (0 < i.toInt → p.toInt ≠ q.toInt))) → 19 - i.toInt < (n : Int) → At E ad G 9 27 [(7, .int (i)), (6, .int (b)), (5, .int (a)), (4, .int (z_6)), (0, .ref (ad 2)), (1, .int (p)), (2, .int (q)), (3, .int (u))] [] σ := by
    intro n
    induction n with
    | zero =>
      intro a b i hi hf hm
      exact absurd hm (by omega)
    | succ n ih =>
      intro a b i hi hf hm
      have ih_27 := ih
      clear ih
      refine r_iload C 0 dX2_fewestBarriers_27 rfl ?_
      refine r_bipush C (18) dX2_fewestBarriers_29 (by decide) ?_
      refine r_icmp_gt C 93 dX2_fewestBarriers_31 (by decide) (fun c_13 => ?_) (fun c_13 => ?_)
      · -- to 93
        refine r_bipush C (-3) dX2_fewestBarriers_93 (by decide) ?_
        exact r_iret C T dX2_fewestBarriers_95 ⟨rfl, fun h hh => by have t3 := (hf h hh).2.2; omega⟩
      · -- to 34
        refine r_iload C 1 dX2_fewestBarriers_34 rfl ?_
        refine r_iload_n C 6 dX2_fewestBarriers_36 rfl rfl ?_
        refine r_ishr C dX2_fewestBarriers_37 ?_
        refine r_nm (P := fun z => z = (b : Int32) >>> ((q : Int32) &&& 31)) rfl (fun z_14 hz_15 => ?_)
        refine r_iconst C (1) dX2_fewestBarriers_38 (by decide) ?_
        refine r_iand C dX2_fewestBarriers_39 ?_
        refine r_nm (P := fun z => z = (z_14 : Int32) &&& (1)) rfl (fun z_16 hz_17 => ?_)
        refine r_if_eq C 46 dX2_fewestBarriers_40 (by decide) (fun c_18 => ?_) (fun c_18 => ?_)
        · -- to 46
          refine r_aload_n C 4 dX2_fewestBarriers_46 rfl rfl ?_
          refine r_iload C 1 dX2_fewestBarriers_47 rfl ?_
          refine r_iload_n C 7 dX2_fewestBarriers_49 rfl rfl ?_
          refine r_aload_n C 4 dX2_fewestBarriers_50 rfl rfl ?_
          refine r_get C (k := 2) (v := .int (σ 2 7)) f_X2_34 (by decide) rfl rfl dX2_fewestBarriers_51 ?_
          refine r_iand C dX2_fewestBarriers_54 ?_
          refine r_nm (P := fun z => z = (u : Int32) &&& (σ 2 7)) rfl (fun z_19 hz_20 => ?_)
          refine r_callV C (k := 2) [.int (b), .int (z_19)] [] (c_X2_stepOver E ad σ  (b) (z_19) hI) lv_X2_55 (by decide) rfl rfl (by decide) (by decide) rfl rfl (Nat.le_of_ble_eq_true rfl) dX2_fewestBarriers_55 (fun r_21 τ_22 h_23 => ?_)
          obtain ⟨eh_23, h_23⟩ := h_23
          obtain rfl := eh_23.symm
          refine r_aload_n C 4 dX2_fewestBarriers_58 rfl rfl ?_
          refine r_iload C 2 dX2_fewestBarriers_59 rfl ?_
          refine r_iload_n C 7 dX2_fewestBarriers_61 rfl rfl ?_
          refine r_aload_n C 4 dX2_fewestBarriers_62 rfl rfl ?_
          refine r_get C (k := 2) (v := .int (σ 2 8)) f_X2_37 (by decide) rfl rfl dX2_fewestBarriers_63 ?_
          refine r_iand C dX2_fewestBarriers_66 ?_
          refine r_nm (P := fun z => z = (u : Int32) &&& (σ 2 8)) rfl (fun z_24 hz_25 => ?_)
          refine r_callV C (k := 2) [.int (a), .int (z_24)] [.int (r_21)] (c_X2_stepOver E ad σ  (a) (z_24) hI) lv_X2_55 (by decide) rfl rfl (by decide) (by decide) rfl rfl (Nat.le_of_ble_eq_true rfl) dX2_fewestBarriers_67 (fun r_26 τ_27 h_28 => ?_)
          obtain ⟨eh_28, h_28⟩ := h_28
          obtain rfl := eh_28.symm
          refine r_ior C dX2_fewestBarriers_70 ?_
          refine r_nm (P := fun z => z = (r_21 : Int32) ||| (r_26)) rfl (fun z_29 hz_30 => ?_)
          refine r_istore C [(8, .int (z_29)), (7, .int (i)), (6, .int (b)), (5, .int (a)), (4, .int (z_6)), (0, .ref (ad 2)), (1, .int (p)), (2, .int (q)), (3, .int (u))] dX2_fewestBarriers_71 (by decide) rfl ?_
          refine r_iload C 2 dX2_fewestBarriers_73 rfl ?_
          refine r_istore C [(5, .int (b)), (8, .int (z_29)), (7, .int (i)), (6, .int (b)), (4, .int (z_6)), (0, .ref (ad 2)), (1, .int (p)), (2, .int (q)), (3, .int (u))] dX2_fewestBarriers_75 (by decide) rfl ?_
          refine r_aload_n C 5 dX2_fewestBarriers_77 rfl rfl ?_
          refine r_iload C 1 dX2_fewestBarriers_78 rfl ?_
          refine r_iload C 4 dX2_fewestBarriers_80 rfl ?_
          refine r_callV C (k := 2) [.int (z_29), .int (z_6)] [] (c_X2_spread E ad σ  (z_29) (z_6) hI) lv_X2_47 (by decide) rfl rfl (by decide) (by decide) rfl rfl (Nat.le_of_ble_eq_true rfl) dX2_fewestBarriers_82 (fun r_31 τ_32 h_33 => ?_)
          obtain ⟨eh_33, h_33⟩ := h_33
          obtain rfl := eh_33.symm
          refine r_istore C [(6, .int (r_31)), (5, .int (b)), (8, .int (z_29)), (7, .int (i)), (4, .int (z_6)), (0, .ref (ad 2)), (1, .int (p)), (2, .int (q)), (3, .int (u))] dX2_fewestBarriers_85 (by decide) rfl ?_
          refine r_iinc C 3 (fun z => [(7, .int (z)), (6, .int (r_31)), (5, .int (b)), (8, .int (z_29)), (4, .int (z_6)), (0, .ref (ad 2)), (1, .int (p)), (2, .int (q)), (3, .int (u))]) dX2_fewestBarriers_87 rfl (by decide) (by decide) (by omega) (fun _ => rfl) (fun z_34 hz_35 => ?_)
          refine r_goto C 27 dX2_fewestBarriers_90 (by decide) ?_
          exact At.sub [0, 1, 2, 4, 5, 6, 7, 8] rfl (ih_27 (b : Int32) (r_31 : Int32) (z_34 : Int32) (by omega) (fun h hh => by have t := hf h hh; have t2 := ta_bit (p := p) (q := q) (by omega) (by omega); exact ⟨by rw [h_33 h, hz_30, h_23 h, h_28 h, t.1]; rcases t.2.1 with e | e <;> rw [e] <;> simp, Or.inr t.1, fun _ => by rw [hz_17, hz_15, t.1, t2] at c_18; split at c_18 <;> omega⟩) (by omega))
        · -- to 43
          refine r_iload C 0 dX2_fewestBarriers_43 rfl ?_
          exact r_iret C T dX2_fewestBarriers_45 ⟨rfl, fun h hh => by have t := (hf h hh).1; have t2 := ta_bit (p := p) (q := q) (by omega) (by omega); rw [hz_17, hz_15, t, t2] at c_18; have t3 := (hf h hh).2.2; split at c_18 <;> omega⟩
  exact At.sub [0, 1, 2, 3, 4, 5, 6, 7] rfl (L_27 ((19 - (0 : Int32).toInt).toNat + 1) (0 : Int32) (r_10 : Int32) (0 : Int32) (by omega) (fun h hh => ⟨by rw [h_12 h, hz_9], Or.inl rfl, fun z => absurd z (by omega)⟩) (by omega))
set_option maxHeartbeats 4000000 in
set_option maxRecDepth 100000 in
theorem c_X2_pipesApart (E : Ev) (ad : Nat → Nat) (σ : Sg) (p : Int32) (q : Int32) (hI : IC σ) : Ct E ad yX2_pipesApart cX2_pipesApart 5 (some .int) 1 [.ref (ad 2), .int p, .int q] σ (fun r τ => τ = σ ∧ ((σ 2 6).toInt = 0 → (0 ≤ p.toInt ∧ p.toInt < 10 ∧ 0 ≤ q.toInt ∧ q.toInt < 10) → ((p.toInt = q.toInt → r.toInt = 0) ∧ (p.toInt ≠ q.toInt → r.toInt = -3)))) := by
  have k_m3 : (-3 : Int32).toInt = -3 := by decide
  have k_0 : (0 : Int32).toInt = 0 := by decide
  have k_1 : (1 : Int32).toInt = 1 := by decide
  have k_10 : (10 : Int32).toInt = 10 := by decide
  have hJ := hI
  unfold IC at hJ
  refine ct_of RX2 rfl (by decide +kernel) [(0, .ref (ad 2)), (1, .int (p)), (2, .int (q))] rfl (Nat.le_of_ble_eq_true rfl) (fun G C T => ?_)
  refine r_iconst C (1) dX2_pipesApart_0 (by decide) ?_
  refine r_iload_n C 1 dX2_pipesApart_1 rfl rfl ?_
  refine r_ishl C dX2_pipesApart_2 ?_
  refine r_nm (P := fun z => z = (1 : Int32) <<< ((p : Int32) &&& 31)) rfl (fun z_1 hz_2 => ?_)
  refine r_istore_n C [(3, .int (z_1)), (0, .ref (ad 2)), (1, .int (p)), (2, .int (q))] dX2_pipesApart_3 rfl (by decide) rfl ?_
  refine r_iconst C (0) dX2_pipesApart_4 (by decide) ?_
  refine r_istore C [(4, .int (0)), (3, .int (z_1)), (0, .ref (ad 2)), (1, .int (p)), (2, .int (q))] dX2_pipesApart_5 (by decide) rfl ?_
  have L_7 : ∀ (n : Nat), ∀ (b : Int32) (i : Int32), (0 ≤ i.toInt ∧ i.toInt ≤ 10) → ((σ 2 6).toInt = 0 → (0 ≤ p.toInt ∧ p.toInt < 10 ∧ 0 ≤ q.toInt ∧ q.toInt < 10) → (b = (1 : Int32) <<< (p &&& 31) ∧ (0 < i.toInt → p.toInt ≠ q.toInt))) → 10 - i.toInt < (n : Int) → At E ad G 5 7 [(4, .int (i)), (3, .int (b)), (0, .ref (ad 2)), (1, .int (p)), (2, .int (q))] [] σ := by
    intro n
    induction n with
    | zero =>
      intro b i hi hf hm
      exact absurd hm (by omega)
    | succ n ih =>
      intro b i hi hf hm
      have ih_7 := ih
      clear ih
      refine r_iload C 0 dX2_pipesApart_7 rfl ?_
      refine r_bipush C (10) dX2_pipesApart_9 (by decide) ?_
      refine r_icmp_ge C 41 dX2_pipesApart_11 (by decide) (fun c_3 => ?_) (fun c_3 => ?_)
      · -- to 41
        refine r_bipush C (-3) dX2_pipesApart_41 (by decide) ?_
        exact r_iret C T dX2_pipesApart_43 ⟨rfl, fun h hh => by have t3 := (hf h hh).2; omega⟩
      · -- to 14
        refine r_iload_n C 1 dX2_pipesApart_14 rfl rfl ?_
        refine r_iload_n C 4 dX2_pipesApart_15 rfl rfl ?_
        refine r_ishr C dX2_pipesApart_16 ?_
        refine r_nm (P := fun z => z = (b : Int32) >>> ((q : Int32) &&& 31)) rfl (fun z_4 hz_5 => ?_)
        refine r_iconst C (1) dX2_pipesApart_17 (by decide) ?_
        refine r_iand C dX2_pipesApart_18 ?_
        refine r_nm (P := fun z => z = (z_4 : Int32) &&& (1)) rfl (fun z_6 hz_7 => ?_)
        refine r_if_eq C 25 dX2_pipesApart_19 (by decide) (fun c_8 => ?_) (fun c_8 => ?_)
        · -- to 25
          refine r_aload_n C 2 dX2_pipesApart_25 rfl rfl ?_
          refine r_iload_n C 1 dX2_pipesApart_26 rfl rfl ?_
          refine r_aload_n C 2 dX2_pipesApart_27 rfl rfl ?_
          refine r_callV C (k := 2) [] [.int (b), .ref (ad 2)] (c_X2_allPipes E ad σ   ) lv_X2_58 (by decide) rfl rfl (by decide) (by decide) rfl rfl (Nat.le_of_ble_eq_true rfl) dX2_pipesApart_28 (fun r_9 τ_10 h_11 => ?_)
          obtain ⟨eh_11, h_11⟩ := h_11
          obtain rfl := eh_11.symm
          refine r_callV C (k := 2) [.int (b), .int (r_9)] [] (c_X2_stepOver E ad σ  (b) (r_9) hI) lv_X2_55 (by decide) rfl rfl (by decide) (by decide) rfl rfl (Nat.le_of_ble_eq_true rfl) dX2_pipesApart_31 (fun r_12 τ_13 h_14 => ?_)
          obtain ⟨eh_14, h_14⟩ := h_14
          obtain rfl := eh_14.symm
          refine r_istore_n C [(3, .int (r_12)), (4, .int (i)), (0, .ref (ad 2)), (1, .int (p)), (2, .int (q))] dX2_pipesApart_34 rfl (by decide) rfl ?_
          refine r_iinc C 1 (fun z => [(4, .int (z)), (3, .int (r_12)), (0, .ref (ad 2)), (1, .int (p)), (2, .int (q))]) dX2_pipesApart_35 rfl (by decide) (by decide) (by omega) (fun _ => rfl) (fun z_15 hz_16 => ?_)
          refine r_goto C 7 dX2_pipesApart_38 (by decide) ?_
          exact At.sub [0, 1, 2, 3, 4] rfl (ih_7 (r_12 : Int32) (z_15 : Int32) (by omega) (fun h hh => by have t := hf h hh; have t2 := ta_bit (p := p) (q := q) (by omega) (by omega); exact ⟨by rw [h_14 h, t.1], fun _ => by rw [hz_7, hz_5, t.1, t2] at c_8; split at c_8 <;> omega⟩) (by omega))
        · -- to 22
          refine r_iload C 0 dX2_pipesApart_22 rfl ?_
          exact r_iret C T dX2_pipesApart_24 ⟨rfl, fun h hh => by have t := (hf h hh).1; have t2 := ta_bit (p := p) (q := q) (by omega) (by omega); rw [hz_7, hz_5, t, t2] at c_8; have t3 := (hf h hh).2; split at c_8 <;> omega⟩
  exact At.sub [0, 1, 2, 3, 4] rfl (L_7 ((10 - (0 : Int32).toInt).toNat + 1) (z_1 : Int32) (0 : Int32) (by omega) (fun h hh => ⟨by rw [hz_2], fun z => absurd z (by omega)⟩) (by omega))
set_option maxHeartbeats 4000000 in
set_option maxRecDepth 100000 in
theorem c_X2_hoursOf (E : Ev) (ad : Nat → Nat) (σ : Sg) (p : Int32)  : Ct E ad yX2_hoursOf cX2_hoursOf 2 (some .int) 1 [.ref (ad 2), .int p] σ (fun r τ => τ = σ ∧ 0 ≤ r.toInt ∧ r.toInt ≤ 252 ∧ (σ 2 7 = 0 → σ 2 8 = 0 → r.toInt = 0)) := by
  have k_1 : (1 : Int32).toInt = 1 := by decide
  have k_3 : (3 : Int32).toInt = 3 := by decide
  refine ct_of RX2 rfl (by decide +kernel) [(0, .ref (ad 2)), (1, .int (p))] rfl (Nat.le_of_ble_eq_true rfl) (fun G C T => ?_)
  refine r_iconst C (1) dX2_hoursOf_0 (by decide) ?_
  refine r_iload_n C 1 dX2_hoursOf_1 rfl rfl ?_
  refine r_aload_n C 0 dX2_hoursOf_2 rfl rfl ?_
  refine r_get C (k := 2) (v := .int (σ 2 7)) f_X2_34 (by decide) rfl rfl dX2_hoursOf_3 ?_
  refine r_iand C dX2_hoursOf_6 ?_
  refine r_nm (P := fun z => z = (p : Int32) &&& (σ 2 7)) rfl (fun z_1 hz_2 => ?_)
  refine r_callS C [.int (z_1)] [.int (1)] (c_J6_bitCount_0f7a4 E ad σ  (z_1) ) ls_X2_62 (by decide) (by decide) rfl rfl (Nat.le_of_ble_eq_true rfl) dX2_hoursOf_7 (fun r_3 τ_4 h_5 => ?_)
  obtain ⟨eh_5, h_5⟩ := h_5
  obtain rfl := eh_5.symm
  refine r_imul C dX2_hoursOf_10 ?_
  refine r_nm (P := fun z => z.toInt = 1 * (r_3 : Int32).toInt ∧ z = (1) * (r_3)) ⟨ta_mulL k_1 (by omega), rfl⟩ (fun z_6 hz_7 => ?_)
  refine r_iconst C (3) dX2_hoursOf_11 (by decide) ?_
  refine r_iload_n C 1 dX2_hoursOf_12 rfl rfl ?_
  refine r_aload_n C 0 dX2_hoursOf_13 rfl rfl ?_
  refine r_get C (k := 2) (v := .int (σ 2 8)) f_X2_37 (by decide) rfl rfl dX2_hoursOf_14 ?_
  refine r_iand C dX2_hoursOf_17 ?_
  refine r_nm (P := fun z => z = (p : Int32) &&& (σ 2 8)) rfl (fun z_8 hz_9 => ?_)
  refine r_callS C [.int (z_8)] [.int (3), .int (z_6)] (c_J6_bitCount_0f7a4 E ad σ  (z_8) ) ls_X2_62 (by decide) (by decide) rfl rfl (Nat.le_of_ble_eq_true rfl) dX2_hoursOf_18 (fun r_10 τ_11 h_12 => ?_)
  obtain ⟨eh_12, h_12⟩ := h_12
  obtain rfl := eh_12.symm
  refine r_imul C dX2_hoursOf_21 ?_
  refine r_nm (P := fun z => z.toInt = 3 * (r_10 : Int32).toInt ∧ z = (3) * (r_10)) ⟨ta_mulL k_3 (by omega), rfl⟩ (fun z_13 hz_14 => ?_)
  refine r_iadd C dX2_hoursOf_22 ?_
  refine r_nm (P := fun z => z.toInt = (z_6 : Int32).toInt + (z_13 : Int32).toInt ∧ z = (z_6) + (z_13)) ⟨ta_add (by omega), rfl⟩ (fun z_15 hz_16 => ?_)
  exact r_iret C T dX2_hoursOf_23 ⟨rfl, by omega, by omega, fun h1 h2 => by have e1 := h_5.1; have e2 := h_12.1; rw [hz_2, h1] at e1; rw [hz_9, h2] at e2; have e3 : bcF (p &&& 0) = 0 := (by rw [Int32.and_zero]; decide); rw [e3] at e1 e2; rw [e1] at hz_7; rw [e2] at hz_14; have k0 : (0 : Int32).toInt = 0 := rfl; omega⟩
set_option maxHeartbeats 4000000 in
set_option maxRecDepth 100000 in
theorem c_X2_isBetter (E : Ev) (ad : Nat → Nat) (σ : Sg) (p : Int32) (q : Int32)  : Ct E ad yX2_isBetter cX2_isBetter 5 (some .boolean) 2 [.ref (ad 2), .int p, .int q] σ (fun r τ => τ = σ ∧ (r.toInt = 0 ∨ r.toInt = 1)) := by
  have k_0 : (0 : Int32).toInt = 0 := by decide
  have k_1 : (1 : Int32).toInt = 1 := by decide
  refine ct_of RX2 rfl (by decide +kernel) [(0, .ref (ad 2)), (1, .int (p)), (2, .int (q))] rfl (Nat.le_of_ble_eq_true rfl) (fun G C T => ?_)
  refine r_aload_n C 0 dX2_isBetter_0 rfl rfl ?_
  refine r_iload_n C 1 dX2_isBetter_1 rfl rfl ?_
  refine r_callV C (k := 2) [.int (p)] [] (c_X2_hoursOf E ad σ  (p) ) lv_X2_81 (by decide) rfl rfl (by decide) (by decide) rfl rfl (Nat.le_of_ble_eq_true rfl) dX2_isBetter_2 (fun r_1 τ_2 h_3 => ?_)
  obtain ⟨eh_3, h_3⟩ := h_3
  obtain rfl := eh_3.symm
  refine r_aload_n C 0 dX2_isBetter_5 rfl rfl ?_
  refine r_iload_n C 2 dX2_isBetter_6 rfl rfl ?_
  refine r_callV C (k := 2) [.int (q)] [.int (r_1)] (c_X2_hoursOf E ad σ  (q) ) lv_X2_81 (by decide) rfl rfl (by decide) (by decide) rfl rfl (Nat.le_of_ble_eq_true rfl) dX2_isBetter_7 (fun r_4 τ_5 h_6 => ?_)
  obtain ⟨eh_6, h_6⟩ := h_6
  obtain rfl := eh_6.symm
  refine r_icmp_eq C 32 dX2_isBetter_10 (by decide) (fun c_7 => ?_) (fun c_7 => ?_)
  · -- to 32
    refine r_iload_n C 1 dX2_isBetter_32 rfl rfl ?_
    refine r_callS C [.int (p)] [] (c_J6_bitCount_0f7a4 E ad σ  (p) ) ls_X2_62 (by decide) (by decide) rfl rfl (Nat.le_of_ble_eq_true rfl) dX2_isBetter_33 (fun r_8 τ_9 h_10 => ?_)
    obtain ⟨eh_10, h_10⟩ := h_10
    obtain rfl := eh_10.symm
    refine r_iload_n C 2 dX2_isBetter_36 rfl rfl ?_
    refine r_callS C [.int (q)] [.int (r_8)] (c_J6_bitCount_0f7a4 E ad σ  (q) ) ls_X2_62 (by decide) (by decide) rfl rfl (Nat.le_of_ble_eq_true rfl) dX2_isBetter_37 (fun r_11 τ_12 h_13 => ?_)
    obtain ⟨eh_13, h_13⟩ := h_13
    obtain rfl := eh_13.symm
    refine r_icmp_eq C 60 dX2_isBetter_40 (by decide) (fun c_14 => ?_) (fun c_14 => ?_)
    · -- to 60
      refine r_iload_n C 1 dX2_isBetter_60 rfl rfl ?_
      refine r_iload_n C 2 dX2_isBetter_61 rfl rfl ?_
      refine r_ixor C dX2_isBetter_62 ?_
      refine r_nm (P := fun z => z = (p : Int32) ^^^ (q)) rfl (fun z_15 hz_16 => ?_)
      refine r_istore_n C [(3, .int (z_15)), (0, .ref (ad 2)), (1, .int (p)), (2, .int (q))] dX2_isBetter_63 rfl (by decide) rfl ?_
      refine r_iload_n C 0 dX2_isBetter_64 rfl rfl ?_
      refine r_iload_n C 0 dX2_isBetter_65 rfl rfl ?_
      refine r_ineg C dX2_isBetter_66 ?_
      refine r_nm (P := fun z => z = -(z_15 : Int32)) rfl (fun z_17 hz_18 => ?_)
      refine r_iand C dX2_isBetter_67 ?_
      refine r_nm (P := fun z => z = (z_15 : Int32) &&& (z_17)) rfl (fun z_19 hz_20 => ?_)
      refine r_istore C [(4, .int (z_19)), (3, .int (z_15)), (0, .ref (ad 2)), (1, .int (p)), (2, .int (q))] dX2_isBetter_68 (by decide) rfl ?_
      refine r_iload_n C 3 dX2_isBetter_70 rfl rfl ?_
      refine r_iload C 0 dX2_isBetter_71 rfl ?_
      refine r_iand C dX2_isBetter_73 ?_
      refine r_nm (P := fun z => z = (p : Int32) &&& (z_19)) rfl (fun z_21 hz_22 => ?_)
      refine r_if_eq C 81 dX2_isBetter_74 (by decide) (fun c_23 => ?_) (fun c_23 => ?_)
      · -- to 81
        refine r_iconst C (0) dX2_isBetter_81 (by decide) ?_
        exact r_zret C T dX2_isBetter_82 (by omega) ⟨rfl, by omega⟩
      · -- to 77
        refine r_iconst C (1) dX2_isBetter_77 (by decide) ?_
        refine r_goto C 82 dX2_isBetter_78 (by decide) ?_
        exact r_zret C T dX2_isBetter_82 (by omega) ⟨rfl, by omega⟩
    · -- to 43
      refine r_iload_n C 1 dX2_isBetter_43 rfl rfl ?_
      refine r_callS C [.int (p)] [] (c_J6_bitCount_0f7a4 E ad σ  (p) ) ls_X2_62 (by decide) (by decide) rfl rfl (Nat.le_of_ble_eq_true rfl) dX2_isBetter_44 (fun r_24 τ_25 h_26 => ?_)
      obtain ⟨eh_26, h_26⟩ := h_26
      obtain rfl := eh_26.symm
      refine r_iload_n C 2 dX2_isBetter_47 rfl rfl ?_
      refine r_callS C [.int (q)] [.int (r_24)] (c_J6_bitCount_0f7a4 E ad σ  (q) ) ls_X2_62 (by decide) (by decide) rfl rfl (Nat.le_of_ble_eq_true rfl) dX2_isBetter_48 (fun r_27 τ_28 h_29 => ?_)
      obtain ⟨eh_29, h_29⟩ := h_29
      obtain rfl := eh_29.symm
      refine r_icmp_ge C 58 dX2_isBetter_51 (by decide) (fun c_30 => ?_) (fun c_30 => ?_)
      · -- to 58
        refine r_iconst C (0) dX2_isBetter_58 (by decide) ?_
        exact r_zret C T dX2_isBetter_59 (by omega) ⟨rfl, by omega⟩
      · -- to 54
        refine r_iconst C (1) dX2_isBetter_54 (by decide) ?_
        refine r_goto C 59 dX2_isBetter_55 (by decide) ?_
        exact r_zret C T dX2_isBetter_59 (by omega) ⟨rfl, by omega⟩
  · -- to 13
    refine r_aload_n C 0 dX2_isBetter_13 rfl rfl ?_
    refine r_iload_n C 1 dX2_isBetter_14 rfl rfl ?_
    refine r_callV C (k := 2) [.int (p)] [] (c_X2_hoursOf E ad σ  (p) ) lv_X2_81 (by decide) rfl rfl (by decide) (by decide) rfl rfl (Nat.le_of_ble_eq_true rfl) dX2_isBetter_15 (fun r_31 τ_32 h_33 => ?_)
    obtain ⟨eh_33, h_33⟩ := h_33
    obtain rfl := eh_33.symm
    refine r_aload_n C 0 dX2_isBetter_18 rfl rfl ?_
    refine r_iload_n C 2 dX2_isBetter_19 rfl rfl ?_
    refine r_callV C (k := 2) [.int (q)] [.int (r_31)] (c_X2_hoursOf E ad σ  (q) ) lv_X2_81 (by decide) rfl rfl (by decide) (by decide) rfl rfl (Nat.le_of_ble_eq_true rfl) dX2_isBetter_20 (fun r_34 τ_35 h_36 => ?_)
    obtain ⟨eh_36, h_36⟩ := h_36
    obtain rfl := eh_36.symm
    refine r_icmp_ge C 30 dX2_isBetter_23 (by decide) (fun c_37 => ?_) (fun c_37 => ?_)
    · -- to 30
      refine r_iconst C (0) dX2_isBetter_30 (by decide) ?_
      exact r_zret C T dX2_isBetter_31 (by omega) ⟨rfl, by omega⟩
    · -- to 26
      refine r_iconst C (1) dX2_isBetter_26 (by decide) ?_
      refine r_goto C 31 dX2_isBetter_27 (by decide) ?_
      exact r_zret C T dX2_isBetter_31 (by omega) ⟨rfl, by omega⟩
set_option maxHeartbeats 4000000 in
set_option maxRecDepth 100000 in
theorem c_X2_thinned (E : Ev) (ad : Nat → Nat) (σ : Sg) (p : Int32) (q : Int32) (hI : IC σ) : Ct E ad yX2_thinned cX2_thinned 6 (some .int) 2 [.ref (ad 2), .int p, .int q] σ (fun r τ => τ = σ ∧ True) := by
  have k_m1 : (-1 : Int32).toInt = -1 := by decide
  have k_1 : (1 : Int32).toInt = 1 := by decide
  have hJ := hI
  unfold IC at hJ
  refine ct_of RX2 rfl (by decide +kernel) [(0, .ref (ad 2)), (1, .int (p)), (2, .int (q))] rfl (Nat.le_of_ble_eq_true rfl) (fun G C T => ?_)
  refine r_aload_n C 0 dX2_thinned_0 rfl rfl ?_
  refine r_callV C (k := 2) [] [] (c_X2_allFittings E ad σ   ) lv_X2_71 (by decide) rfl rfl (by decide) (by decide) rfl rfl (Nat.le_of_ble_eq_true rfl) dX2_thinned_1 (fun r_1 τ_2 h_3 => ?_)
  obtain ⟨eh_3, h_3⟩ := h_3
  obtain rfl := eh_3.symm
  refine r_istore_n C [(3, .int (r_1)), (0, .ref (ad 2)), (1, .int (p)), (2, .int (q))] dX2_thinned_4 rfl (by decide) rfl ?_
  refine r_aload_n C 1 dX2_thinned_5 rfl rfl ?_
  refine r_get C (k := 2) (v := .int (σ 2 6)) f_X2_30 (by decide) rfl rfl dX2_thinned_6 ?_
  refine r_iconst C (1) dX2_thinned_9 (by decide) ?_
  refine r_isub C dX2_thinned_10 ?_
  refine r_nm (P := fun z => z.toInt = (σ 2 6 : Int32).toInt - (1 : Int32).toInt ∧ z = (σ 2 6) - (1)) ⟨ta_sub (by omega), rfl⟩ (fun z_4 hz_5 => ?_)
  refine r_istore C [(4, .int (z_4)), (3, .int (r_1)), (0, .ref (ad 2)), (1, .int (p)), (2, .int (q))] dX2_thinned_11 (by decide) rfl ?_
  have L_13 : ∀ (n : Nat), ∀ (a : Int32) (i : Int32), (-1 ≤ i.toInt ∧ i.toInt ≤ 11) → i.toInt + 1 < (n : Int) → At E ad G 6 13 [(4, .int (i)), (3, .int (a)), (0, .ref (ad 2)), (1, .int (p)), (2, .int (q))] [] σ := by
    intro n
    induction n with
    | zero =>
      intro a i hi hm
      exact absurd hm (by omega)
    | succ n ih =>
      intro a i hi hm
      have ih_13 := ih
      clear ih
      refine r_iload C 0 dX2_thinned_13 rfl ?_
      refine r_if_lt C 58 dX2_thinned_15 (by decide) (fun c_6 => ?_) (fun c_6 => ?_)
      · -- to 58
        refine r_iload_n C 1 dX2_thinned_58 rfl rfl ?_
        exact r_iret C T dX2_thinned_59 ⟨rfl, trivial⟩
      · -- to 18
        refine r_iload_n C 1 dX2_thinned_18 rfl rfl ?_
        refine r_iconst C (1) dX2_thinned_19 (by decide) ?_
        refine r_iload C 0 dX2_thinned_20 rfl ?_
        refine r_ishl C dX2_thinned_22 ?_
        refine r_nm (P := fun z => z = (1 : Int32) <<< ((i : Int32) &&& 31)) rfl (fun z_7 hz_8 => ?_)
        refine r_iconst C (-1) dX2_thinned_23 (by decide) ?_
        refine r_ixor C dX2_thinned_24 ?_
        refine r_nm (P := fun z => z = (z_7 : Int32) ^^^ ((-1))) rfl (fun z_9 hz_10 => ?_)
        refine r_iand C dX2_thinned_25 ?_
        refine r_nm (P := fun z => z = (a : Int32) &&& (z_9)) rfl (fun z_11 hz_12 => ?_)
        refine r_istore C [(5, .int (z_11)), (4, .int (i)), (3, .int (a)), (0, .ref (ad 2)), (1, .int (p)), (2, .int (q))] dX2_thinned_26 (by decide) rfl ?_
        refine r_iload C 0 dX2_thinned_28 rfl ?_
        refine r_iload_n C 2 dX2_thinned_30 rfl rfl ?_
        refine r_icmp_eq C 52 dX2_thinned_31 (by decide) (fun c_13 => ?_) (fun c_13 => ?_)
        · -- to 52
          refine r_iinc C 1 (fun z => [(4, .int (z)), (5, .int (z_11)), (3, .int (a)), (0, .ref (ad 2)), (1, .int (p)), (2, .int (q))]) dX2_thinned_52 rfl (by decide) (by decide) (by omega) (fun _ => rfl) (fun z_14 hz_15 => ?_)
          refine r_goto C 13 dX2_thinned_55 (by decide) ?_
          exact At.sub [0, 2, 3, 4, 5] rfl (ih_13 (a : Int32) (z_14 : Int32) (by omega) (by omega))
        · -- to 34
          refine r_aload_n C 3 dX2_thinned_34 rfl rfl ?_
          refine r_iload_n C 4 dX2_thinned_35 rfl rfl ?_
          refine r_iload C 0 dX2_thinned_36 rfl ?_
          refine r_aload_n C 3 dX2_thinned_38 rfl rfl ?_
          refine r_callV C (k := 2) [] [.int (z_11), .int (p), .ref (ad 2)] (c_X2_allPipes E ad σ   ) lv_X2_58 (by decide) rfl rfl (by decide) (by decide) rfl rfl (Nat.le_of_ble_eq_true rfl) dX2_thinned_39 (fun r_16 τ_17 h_18 => ?_)
          obtain ⟨eh_18, h_18⟩ := h_18
          obtain rfl := eh_18.symm
          refine r_iload_n C 5 dX2_thinned_42 rfl rfl ?_
          refine r_callV C (k := 2) [.int (p), .int (z_11), .int (r_16), .int (q)] [] (c_X2_isSafe E ad σ  (p) (z_11) (r_16) (q) hI) lv_X2_67 (by decide) rfl rfl (by decide) (by decide) rfl rfl (Nat.le_of_ble_eq_true rfl) dX2_thinned_43 (fun r_19 τ_20 h_21 => ?_)
          obtain ⟨eh_21, h_21⟩ := h_21
          obtain rfl := eh_21.symm
          refine r_if_eq C 52 dX2_thinned_46 (by decide) (fun c_22 => ?_) (fun c_22 => ?_)
          · -- to 52
            refine r_iinc C 1 (fun z => [(4, .int (z)), (5, .int (z_11)), (3, .int (a)), (0, .ref (ad 2)), (1, .int (p)), (2, .int (q))]) dX2_thinned_52 rfl (by decide) (by decide) (by omega) (fun _ => rfl) (fun z_23 hz_24 => ?_)
            refine r_goto C 13 dX2_thinned_55 (by decide) ?_
            exact At.sub [0, 2, 3, 4, 5] rfl (ih_13 (a : Int32) (z_23 : Int32) (by omega) (by omega))
          · -- to 49
            refine r_iload C 0 dX2_thinned_49 rfl ?_
            refine r_istore_n C [(3, .int (z_11)), (5, .int (z_11)), (4, .int (i)), (0, .ref (ad 2)), (1, .int (p)), (2, .int (q))] dX2_thinned_51 rfl (by decide) rfl ?_
            refine r_iinc C 2 (fun z => [(4, .int (z)), (3, .int (z_11)), (5, .int (z_11)), (0, .ref (ad 2)), (1, .int (p)), (2, .int (q))]) dX2_thinned_52 rfl (by decide) (by decide) (by omega) (fun _ => rfl) (fun z_25 hz_26 => ?_)
            refine r_goto C 13 dX2_thinned_55 (by decide) ?_
            exact At.sub [0, 1, 3, 4, 5] rfl (ih_13 (z_11 : Int32) (z_25 : Int32) (by omega) (by omega))
  exact At.sub [0, 1, 2, 3, 4] rfl (L_13 (((z_4 : Int32).toInt + 1).toNat + 1) (r_1 : Int32) (z_4 : Int32) (by omega) (by omega))
end
section
theorem ln_isMan : ∀ w ∈ ([.static yX8_isMan, .initialized yX8_isMan.cls, .code yX8_isMan cX8_isMan 1 (some .boolean)] : List Cond), w ∈ lw_g := by decide +kernel
theorem or3 (a b x : Int32) : (a ||| x) ||| (b ||| 0) = (a ||| b) ||| x := by
  rw [Int32.or_zero, Int32.or_assoc, Int32.or_comm x b, ← Int32.or_assoc]
theorem or4 (a b x : Int32) : (a ||| 0) ||| (b ||| x) = (a ||| b) ||| x := by
  rw [Int32.or_zero, ← Int32.or_assoc]
set_option maxHeartbeats 4000000 in
set_option maxRecDepth 100000 in
theorem c_X2_leastSetFrom (E : Ev) (ad : Nat → Nat) (σ : Sg) (hI : IC σ) : ∀ (m : Nat) (p : Int32) (q : Int32) (u : Int32) (v : Int32) (w : Int32), (0 ≤ v.toInt ∧ v.toInt ≤ 13) → (13 - v.toInt < (m : Int)) → Ct E ad yX2_leastSetFrom cX2_leastSetFrom 11 (some .int) (2 + m) [.ref (ad 2), .int p, .int q, .int u, .int v, .int w] σ (fun r τ => τ = σ ∧ True) := by
  intro m
  induction m with
  | zero => intro p q u v w hv hm; exact absurd hm (by omega)
  | succ m ih =>
    intro p q u v w hv hm
    have k_m2 : (-2 : Int32).toInt = -2 := by decide
    have k_1 : (1 : Int32).toInt = 1 := by decide
    have hJ := hI
    unfold IC at hJ
    refine ct_of RX2 rfl (by decide +kernel) [(0, .ref (ad 2)), (1, .int (p)), (2, .int (q)), (3, .int (u)), (4, .int (v)), (5, .int (w))] rfl (Nat.le_of_ble_eq_true rfl) (fun G C T => ?_)
    refine r_iload C 5 dX2_leastSetFrom_0 rfl ?_
    refine r_istore C [(6, .int (w)), (0, .ref (ad 2)), (1, .int (p)), (2, .int (q)), (3, .int (u)), (4, .int (v)), (5, .int (w))] dX2_leastSetFrom_2 (by decide) rfl ?_
    refine r_iload C 5 dX2_leastSetFrom_4 rfl ?_
    refine r_istore C [(7, .int (v)), (6, .int (w)), (0, .ref (ad 2)), (1, .int (p)), (2, .int (q)), (3, .int (u)), (4, .int (v)), (5, .int (w))] dX2_leastSetFrom_6 (by decide) rfl ?_
    have L_8 : ∀ (n : Nat), ∀ (a : Int32) (i : Int32), (v.toInt ≤ i.toInt ∧ i.toInt ≤ 13) → 13 - i.toInt < (n : Int) → At E ad G 11 8 [(7, .int (i)), (6, .int (a)), (0, .ref (ad 2)), (1, .int (p)), (2, .int (q)), (3, .int (u))] [] σ := by
      intro n
      induction n with
      | zero =>
        intro a i hi hm
        exact absurd hm (by omega)
      | succ n ih =>
        intro a i hi hm
        have ih_8 := ih
        clear ih
        refine r_iload C 0 dX2_leastSetFrom_8 rfl ?_
        refine r_aload_n C 2 dX2_leastSetFrom_10 rfl rfl ?_
        refine r_get C (k := 2) (v := .int (σ 2 6)) f_X2_30 (by decide) rfl rfl dX2_leastSetFrom_11 ?_
        refine r_icmp_ge C 167 dX2_leastSetFrom_14 (by decide) (fun c_1 => ?_) (fun c_1 => ?_)
        · -- to 167
          refine r_iload C 1 dX2_leastSetFrom_167 rfl ?_
          exact r_iret C T dX2_leastSetFrom_169 ⟨rfl, trivial⟩
        · -- to 17
          refine r_aload_n C 2 dX2_leastSetFrom_17 rfl rfl ?_
          refine r_iload_n C 5 dX2_leastSetFrom_18 rfl rfl ?_
          refine r_callV C (k := 2) [.int (u)] [] (c_X2_hoursOf E ad σ  (u) ) lv_X2_81 (by decide) rfl rfl (by omega) (by decide) rfl rfl (Nat.le_of_ble_eq_true rfl) dX2_leastSetFrom_19 (fun r_2 τ_3 h_4 => ?_)
          obtain ⟨eh_4, h_4⟩ := h_4
          obtain rfl := eh_4.symm
          refine r_aload_n C 2 dX2_leastSetFrom_22 rfl rfl ?_
          refine r_iload C 1 dX2_leastSetFrom_23 rfl ?_
          refine r_callV C (k := 2) [.int (a)] [.int (r_2)] (c_X2_hoursOf E ad σ  (a) ) lv_X2_81 (by decide) rfl rfl (by omega) (by decide) rfl rfl (Nat.le_of_ble_eq_true rfl) dX2_leastSetFrom_25 (fun r_5 τ_6 h_7 => ?_)
          obtain ⟨eh_7, h_7⟩ := h_7
          obtain rfl := eh_7.symm
          refine r_icmp_ge C 167 dX2_leastSetFrom_28 (by decide) (fun c_8 => ?_) (fun c_8 => ?_)
          · -- to 167
            refine r_iload C 1 dX2_leastSetFrom_167 rfl ?_
            exact r_iret C T dX2_leastSetFrom_169 ⟨rfl, trivial⟩
          · -- to 31
            refine r_iload_n C 5 dX2_leastSetFrom_31 rfl rfl ?_
            refine r_iconst C (1) dX2_leastSetFrom_32 (by decide) ?_
            refine r_iload C 0 dX2_leastSetFrom_33 rfl ?_
            refine r_ishl C dX2_leastSetFrom_35 ?_
            refine r_nm (P := fun z => z = (1 : Int32) <<< ((i : Int32) &&& 31)) rfl (fun z_9 hz_10 => ?_)
            refine r_aload_n C 2 dX2_leastSetFrom_36 rfl rfl ?_
            refine r_callV C (k := 2) [] [.int (z_9), .int (u)] (c_X2_allFittings E ad σ   ) lv_X2_71 (by decide) rfl rfl (by omega) (by decide) rfl rfl (Nat.le_of_ble_eq_true rfl) dX2_leastSetFrom_37 (fun r_11 τ_12 h_13 => ?_)
            obtain ⟨eh_13, h_13⟩ := h_13
            obtain rfl := eh_13.symm
            refine r_iand C dX2_leastSetFrom_40 ?_
            refine r_nm (P := fun z => z = (z_9 : Int32) &&& (r_11)) rfl (fun z_14 hz_15 => ?_)
            refine r_ior C dX2_leastSetFrom_41 ?_
            refine r_nm (P := fun z => z = (u : Int32) ||| (z_14)) rfl (fun z_16 hz_17 => ?_)
            refine r_istore C [(8, .int (z_16)), (7, .int (i)), (6, .int (a)), (0, .ref (ad 2)), (1, .int (p)), (2, .int (q)), (3, .int (u))] dX2_leastSetFrom_42 (by decide) rfl ?_
            refine r_aload_n C 3 dX2_leastSetFrom_44 rfl rfl ?_
            refine r_iload C 2 dX2_leastSetFrom_45 rfl ?_
            refine r_callV C (k := 2) [.int (a)] [] (c_X2_hoursOf E ad σ  (a) ) lv_X2_81 (by decide) rfl rfl (by omega) (by decide) rfl rfl (Nat.le_of_ble_eq_true rfl) dX2_leastSetFrom_47 (fun r_18 τ_19 h_20 => ?_)
            obtain ⟨eh_20, h_20⟩ := h_20
            obtain rfl := eh_20.symm
            refine r_aload_n C 3 dX2_leastSetFrom_50 rfl rfl ?_
            refine r_iload C 0 dX2_leastSetFrom_51 rfl ?_
            refine r_callV C (k := 2) [.int (z_16)] [.int (r_18)] (c_X2_hoursOf E ad σ  (z_16) ) lv_X2_81 (by decide) rfl rfl (by omega) (by decide) rfl rfl (Nat.le_of_ble_eq_true rfl) dX2_leastSetFrom_53 (fun r_21 τ_22 h_23 => ?_)
            obtain ⟨eh_23, h_23⟩ := h_23
            obtain rfl := eh_23.symm
            refine r_isub C dX2_leastSetFrom_56 ?_
            refine r_nm (P := fun z => z = (r_18) - (r_21)) rfl (fun z_24 hz_25 => ?_)
            refine r_istore C [(9, .int (z_24)), (8, .int (z_16)), (7, .int (i)), (6, .int (a)), (0, .ref (ad 2)), (1, .int (p)), (2, .int (q)), (3, .int (u))] dX2_leastSetFrom_57 (by decide) rfl ?_
            have L_129 : ∀ (b : Int32), At E ad G 11 129 [(7, .int (i)), (6, .int (b)), (0, .ref (ad 2)), (1, .int (p)), (2, .int (q)), (3, .int (u))] [] σ := by
              intro b
              refine r_aload_n C 2 dX2_leastSetFrom_129 rfl rfl ?_
              refine r_callV C (k := 2) [] [] (c_X2_allFittings E ad σ   ) lv_X2_71 (by decide) rfl rfl (by omega) (by decide) rfl rfl (Nat.le_of_ble_eq_true rfl) dX2_leastSetFrom_130 (fun r_26 τ_27 h_28 => ?_)
              obtain ⟨eh_28, h_28⟩ := h_28
              obtain rfl := eh_28.symm
              refine r_bipush C (-2) dX2_leastSetFrom_133 (by decide) ?_
              refine r_iload C 0 dX2_leastSetFrom_135 rfl ?_
              refine r_ishl C dX2_leastSetFrom_137 ?_
              refine r_nm (P := fun z => z = ((-2) : Int32) <<< ((i : Int32) &&& 31)) rfl (fun z_29 hz_30 => ?_)
              refine r_iand C dX2_leastSetFrom_138 ?_
              refine r_nm (P := fun z => z = (r_26 : Int32) &&& (z_29)) rfl (fun z_31 hz_32 => ?_)
              refine r_istore C [(10, .int (z_31)), (7, .int (i)), (6, .int (b)), (0, .ref (ad 2)), (1, .int (p)), (2, .int (q)), (3, .int (u))] dX2_leastSetFrom_139 (by decide) rfl ?_
              refine r_aload_n C 3 dX2_leastSetFrom_141 rfl rfl ?_
              refine r_iload_n C 4 dX2_leastSetFrom_142 rfl rfl ?_
              refine r_iload_n C 6 dX2_leastSetFrom_143 rfl rfl ?_
              refine r_iload C 0 dX2_leastSetFrom_144 rfl ?_
              refine r_ior C dX2_leastSetFrom_146 ?_
              refine r_nm (P := fun z => z = (u : Int32) ||| (z_31)) rfl (fun z_33 hz_34 => ?_)
              refine r_aload_n C 3 dX2_leastSetFrom_147 rfl rfl ?_
              refine r_callV C (k := 2) [] [.int (z_33), .int (p), .ref (ad 2)] (c_X2_allPipes E ad σ   ) lv_X2_58 (by decide) rfl rfl (by omega) (by decide) rfl rfl (Nat.le_of_ble_eq_true rfl) dX2_leastSetFrom_148 (fun r_35 τ_36 h_37 => ?_)
              obtain ⟨eh_37, h_37⟩ := h_37
              obtain rfl := eh_37.symm
              refine r_iload_n C 5 dX2_leastSetFrom_151 rfl rfl ?_
              refine r_callV C (k := 2) [.int (p), .int (z_33), .int (r_35), .int (q)] [] (c_X2_isSafe E ad σ  (p) (z_33) (r_35) (q) hI) lv_X2_67 (by decide) rfl rfl (by omega) (by decide) rfl rfl (Nat.le_of_ble_eq_true rfl) dX2_leastSetFrom_152 (fun r_38 τ_39 h_40 => ?_)
              obtain ⟨eh_40, h_40⟩ := h_40
              obtain rfl := eh_40.symm
              refine r_if_ne C 161 dX2_leastSetFrom_155 (by decide) (fun c_41 => ?_) (fun c_41 => ?_)
              · -- to 161
                refine r_iinc C 1 (fun z => [(7, .int (z)), (10, .int (z_31)), (6, .int (b)), (0, .ref (ad 2)), (1, .int (p)), (2, .int (q)), (3, .int (u))]) dX2_leastSetFrom_161 rfl (by decide) (by decide) (by omega) (fun _ => rfl) (fun z_42 hz_43 => ?_)
                refine r_goto C 8 dX2_leastSetFrom_164 (by decide) ?_
                exact At.sub [0, 2, 3, 4, 5, 6] rfl (ih_8 (b : Int32) (z_42 : Int32) (by omega) (by omega))
              · -- to 158
                refine r_goto C 167 dX2_leastSetFrom_158 (by decide) ?_
                refine r_iload C 2 dX2_leastSetFrom_167 rfl ?_
                exact r_iret C T dX2_leastSetFrom_169 ⟨rfl, trivial⟩
            refine r_iload C 1 dX2_leastSetFrom_59 rfl ?_
            refine r_iload_n C 7 dX2_leastSetFrom_61 rfl rfl ?_
            refine r_icmp_eq C 129 dX2_leastSetFrom_62 (by decide) (fun c_44 => ?_) (fun c_44 => ?_)
            · -- to 129
              exact At.sub [2, 3, 4, 5, 6, 7] rfl (L_129 (a : Int32) )
            · -- to 65
              refine r_iload C 0 dX2_leastSetFrom_65 rfl ?_
              refine r_if_lt C 129 dX2_leastSetFrom_67 (by decide) (fun c_45 => ?_) (fun c_45 => ?_)
              · -- to 129
                exact At.sub [2, 3, 4, 5, 6, 7] rfl (L_129 (a : Int32) )
              · -- to 70
                refine r_aload_n C 4 dX2_leastSetFrom_70 rfl rfl ?_
                refine r_iload_n C 5 dX2_leastSetFrom_71 rfl rfl ?_
                refine r_iload C 1 dX2_leastSetFrom_72 rfl ?_
                refine r_aload_n C 4 dX2_leastSetFrom_74 rfl rfl ?_
                refine r_callV C (k := 2) [] [.int (z_16), .int (p), .ref (ad 2)] (c_X2_allPipes E ad σ   ) lv_X2_58 (by decide) rfl rfl (by omega) (by decide) rfl rfl (Nat.le_of_ble_eq_true rfl) dX2_leastSetFrom_75 (fun r_46 τ_47 h_48 => ?_)
                obtain ⟨eh_48, h_48⟩ := h_48
                obtain rfl := eh_48.symm
                refine r_iload_n C 6 dX2_leastSetFrom_78 rfl rfl ?_
                refine r_callV C (k := 2) [.int (p), .int (z_16), .int (r_46), .int (q)] [] (c_X2_isSafe E ad σ  (p) (z_16) (r_46) (q) hI) lv_X2_67 (by decide) rfl rfl (by omega) (by decide) rfl rfl (Nat.le_of_ble_eq_true rfl) dX2_leastSetFrom_79 (fun r_49 τ_50 h_51 => ?_)
                obtain ⟨eh_51, h_51⟩ := h_51
                obtain rfl := eh_51.symm
                refine r_if_eq C 108 dX2_leastSetFrom_82 (by decide) (fun c_52 => ?_) (fun c_52 => ?_)
                · -- to 108
                  refine r_iload C 0 dX2_leastSetFrom_108 rfl ?_
                  refine r_if_le C 129 dX2_leastSetFrom_110 (by decide) (fun c_53 => ?_) (fun c_53 => ?_)
                  · -- to 129
                    exact At.sub [2, 3, 4, 5, 6, 7] rfl (L_129 (a : Int32) )
                  · -- to 113
                    refine r_aload_n C 4 dX2_leastSetFrom_113 rfl rfl ?_
                    refine r_iload_n C 5 dX2_leastSetFrom_114 rfl rfl ?_
                    refine r_iload_n C 6 dX2_leastSetFrom_115 rfl rfl ?_
                    refine r_iload C 1 dX2_leastSetFrom_116 rfl ?_
                    refine r_iload C 2 dX2_leastSetFrom_118 rfl ?_
                    refine r_iconst C (1) dX2_leastSetFrom_120 (by decide) ?_
                    refine r_iadd C dX2_leastSetFrom_121 ?_
                    refine r_nm (P := fun z => z.toInt = (i : Int32).toInt + (1 : Int32).toInt ∧ z = (i) + (1)) ⟨ta_add (by omega), rfl⟩ (fun z_54 hz_55 => ?_)
                    refine r_iload C 3 dX2_leastSetFrom_122 rfl ?_
                    refine r_callS C [.ref (ad 2), .int (p), .int (q), .int (z_16), .int (z_54), .int (a)] [] (ih (p) (q) (z_16) (z_54) (a) (by omega) (by omega)) ls_X2_77 (by omega) (by decide) rfl rfl (Nat.le_of_ble_eq_true rfl) dX2_leastSetFrom_124 (fun r_56 τ_57 h_58 => ?_)
                    obtain ⟨eh_58, h_58⟩ := h_58
                    obtain rfl := eh_58.symm
                    refine r_istore C [(6, .int (r_56)), (9, .int (z_24)), (8, .int (z_16)), (7, .int (i)), (0, .ref (ad 2)), (1, .int (p)), (2, .int (q)), (3, .int (u))] dX2_leastSetFrom_127 (by decide) rfl ?_
                    exact At.sub [3, 0, 4, 5, 6, 7] rfl (L_129 (r_56 : Int32) )
                · -- to 85
                  refine r_aload_n C 4 dX2_leastSetFrom_85 rfl rfl ?_
                  refine r_iload C 1 dX2_leastSetFrom_86 rfl ?_
                  refine r_iload C 3 dX2_leastSetFrom_88 rfl ?_
                  refine r_callV C (k := 2) [.int (z_16), .int (a)] [] (c_X2_isBetter E ad σ  (z_16) (a) ) lv_X2_84 (by decide) rfl rfl (by omega) (by decide) rfl rfl (Nat.le_of_ble_eq_true rfl) dX2_leastSetFrom_90 (fun r_59 τ_60 h_61 => ?_)
                  obtain ⟨eh_61, h_61⟩ := h_61
                  obtain rfl := eh_61.symm
                  refine r_if_eq C 101 dX2_leastSetFrom_93 (by decide) (fun c_62 => ?_) (fun c_62 => ?_)
                  · -- to 101
                    refine r_iload C 3 dX2_leastSetFrom_101 rfl ?_
                    refine r_istore C [(6, .int (a)), (9, .int (z_24)), (8, .int (z_16)), (7, .int (i)), (0, .ref (ad 2)), (1, .int (p)), (2, .int (q)), (3, .int (u))] dX2_leastSetFrom_103 (by decide) rfl ?_
                    refine r_goto C 129 dX2_leastSetFrom_105 (by decide) ?_
                    exact At.sub [3, 0, 4, 5, 6, 7] rfl (L_129 (a : Int32) )
                  · -- to 96
                    refine r_iload C 1 dX2_leastSetFrom_96 rfl ?_
                    refine r_goto C 103 dX2_leastSetFrom_98 (by decide) ?_
                    refine r_istore C [(6, .int (z_16)), (9, .int (z_24)), (8, .int (z_16)), (7, .int (i)), (0, .ref (ad 2)), (1, .int (p)), (2, .int (q)), (3, .int (u))] dX2_leastSetFrom_103 (by decide) rfl ?_
                    refine r_goto C 129 dX2_leastSetFrom_105 (by decide) ?_
                    exact At.sub [3, 0, 4, 5, 6, 7] rfl (L_129 (z_16 : Int32) )
    exact At.sub [0, 1, 2, 3, 4, 5] rfl (L_8 ((13 - (v : Int32).toInt).toNat + 1) (w : Int32) (v : Int32) (by omega) (by omega))
set_option maxHeartbeats 4000000 in
set_option maxRecDepth 100000 in
theorem c_X2_leastSetFor (E : Ev) (ad : Nat → Nat) (σ : Sg) (p : Int32) (q : Int32) (hI : IC σ) : Ct E ad yX2_leastSetFor cX2_leastSetFor 3 (some .int) 17 [.ref (ad 2), .int p, .int q] σ (fun r τ => τ = σ ∧ ((∀ j, σ 8 j = 0) → r.toInt = 0)) := by
  have k_m3 : (-3 : Int32).toInt = -3 := by decide
  have k_0 : (0 : Int32).toInt = 0 := by decide
  have hJ := hI
  unfold IC at hJ
  refine ct_of RX2 rfl (by decide +kernel) [(0, .ref (ad 2)), (1, .int (p)), (2, .int (q))] rfl (Nat.le_of_ble_eq_true rfl) (fun G C T => ?_)
  refine r_aload_n C 0 dX2_leastSetFor_0 rfl rfl ?_
  refine r_iload_n C 1 dX2_leastSetFor_1 rfl rfl ?_
  refine r_iconst C (0) dX2_leastSetFor_2 (by decide) ?_
  refine r_aload_n C 0 dX2_leastSetFor_3 rfl rfl ?_
  refine r_callV C (k := 2) [] [.int (0), .int (p), .ref (ad 2)] (c_X2_allPipes E ad σ   ) lv_X2_58 (by decide) rfl rfl (by decide) (by decide) rfl rfl (Nat.le_of_ble_eq_true rfl) dX2_leastSetFor_4 (fun r_1 τ_2 h_3 => ?_)
  obtain ⟨eh_3, h_3⟩ := h_3
  obtain rfl := eh_3.symm
  refine r_iload_n C 2 dX2_leastSetFor_7 rfl rfl ?_
  refine r_callV C (k := 2) [.int (p), .int (0), .int (r_1), .int (q)] [] (c_X2_isSafe E ad σ  (p) (0) (r_1) (q) hI) lv_X2_67 (by decide) rfl rfl (by decide) (by decide) rfl rfl (Nat.le_of_ble_eq_true rfl) dX2_leastSetFor_8 (fun r_4 τ_5 h_6 => ?_)
  obtain ⟨eh_6, h_6⟩ := h_6
  obtain rfl := eh_6.symm
  refine r_if_eq C 16 dX2_leastSetFor_11 (by decide) (fun c_7 => ?_) (fun c_7 => ?_)
  · -- to 16
    refine r_aload_n C 0 dX2_leastSetFor_16 rfl rfl ?_
    refine r_iload_n C 1 dX2_leastSetFor_17 rfl rfl ?_
    refine r_aload_n C 0 dX2_leastSetFor_18 rfl rfl ?_
    refine r_callV C (k := 2) [] [.int (p), .ref (ad 2)] (c_X2_allFittings E ad σ   ) lv_X2_71 (by decide) rfl rfl (by decide) (by decide) rfl rfl (Nat.le_of_ble_eq_true rfl) dX2_leastSetFor_19 (fun r_8 τ_9 h_10 => ?_)
    obtain ⟨eh_10, h_10⟩ := h_10
    obtain rfl := eh_10.symm
    refine r_aload_n C 0 dX2_leastSetFor_22 rfl rfl ?_
    refine r_callV C (k := 2) [] [.int (r_8), .int (p), .ref (ad 2)] (c_X2_allPipes E ad σ   ) lv_X2_58 (by decide) rfl rfl (by decide) (by decide) rfl rfl (Nat.le_of_ble_eq_true rfl) dX2_leastSetFor_23 (fun r_11 τ_12 h_13 => ?_)
    obtain ⟨eh_13, h_13⟩ := h_13
    obtain rfl := eh_13.symm
    refine r_iload_n C 2 dX2_leastSetFor_26 rfl rfl ?_
    refine r_callV C (k := 2) [.int (p), .int (r_8), .int (r_11), .int (q)] [] (c_X2_isSafe E ad σ  (p) (r_8) (r_11) (q) hI) lv_X2_67 (by decide) rfl rfl (by decide) (by decide) rfl rfl (Nat.le_of_ble_eq_true rfl) dX2_leastSetFor_27 (fun r_14 τ_15 h_16 => ?_)
    obtain ⟨eh_16, h_16⟩ := h_16
    obtain rfl := eh_16.symm
    refine r_if_ne C 36 dX2_leastSetFor_30 (by decide) (fun c_17 => ?_) (fun c_17 => ?_)
    · -- to 36
      refine r_aload_n C 0 dX2_leastSetFor_36 rfl rfl ?_
      refine r_iload_n C 1 dX2_leastSetFor_37 rfl rfl ?_
      refine r_iload_n C 2 dX2_leastSetFor_38 rfl rfl ?_
      refine r_iconst C (0) dX2_leastSetFor_39 (by decide) ?_
      refine r_iconst C (0) dX2_leastSetFor_40 (by decide) ?_
      refine r_aload_n C 0 dX2_leastSetFor_41 rfl rfl ?_
      refine r_iload_n C 1 dX2_leastSetFor_42 rfl rfl ?_
      refine r_iload_n C 2 dX2_leastSetFor_43 rfl rfl ?_
      refine r_callV C (k := 2) [.int (p), .int (q)] [.int (0), .int (0), .int (q), .int (p), .ref (ad 2)] (c_X2_thinned E ad σ  (p) (q) hI) lv_X2_74 (by decide) rfl rfl (by decide) (by decide) rfl rfl (Nat.le_of_ble_eq_true rfl) dX2_leastSetFor_44 (fun r_18 τ_19 h_20 => ?_)
      obtain ⟨eh_20, h_20⟩ := h_20
      obtain rfl := eh_20.symm
      refine r_callS C [.ref (ad 2), .int (p), .int (q), .int (0), .int (0), .int (r_18)] [] (c_X2_leastSetFrom E ad σ hI 14 (p) (q) (0) (0) (r_18) (by omega) (by omega)) ls_X2_77 (by decide) (by decide) rfl rfl (Nat.le_of_ble_eq_true rfl) dX2_leastSetFor_47 (fun r_21 τ_22 h_23 => ?_)
      obtain ⟨eh_23, h_23⟩ := h_23
      obtain rfl := eh_23.symm
      exact r_iret C T dX2_leastSetFor_50 ⟨rfl, fun h => absurd (h_6.2 h) (by omega)⟩
    · -- to 33
      refine r_bipush C (-3) dX2_leastSetFor_33 (by decide) ?_
      exact r_iret C T dX2_leastSetFor_35 ⟨rfl, fun h => absurd (h_6.2 h) (by omega)⟩
  · -- to 14
    refine r_iconst C (0) dX2_leastSetFor_14 (by decide) ?_
    exact r_iret C T dX2_leastSetFor_15 ⟨rfl, fun _ => k_0⟩
set_option maxHeartbeats 4000000 in
set_option maxRecDepth 100000 in
theorem c_X2_lay (E : Ev) (ad : Nat → Nat) (σ : Sg) (p : Int32) (q : Int32) (u : Int32) (v : Int32) (hc : 0 ≤ (σ 2 6).toInt ∧ (σ 2 6).toInt < 12) (hu : 0 ≤ u.toInt ∧ u.toInt ≤ 2) : Ct E ad yX2_lay cX2_lay 6 (some .int) 0 [.ref (ad 2), .int p, .int q, .int u, .int v] σ (fun r τ => r.toInt = (σ 2 6).toInt ∧ Off [2, 3, 4, 5, 6, 7] σ τ ∧ (τ 2 6).toInt = (σ 2 6).toInt + 1 ∧ τ 2 9 = σ 2 9 ∧ τ 3 = upd (σ 3) (σ 2 6).toInt.toNat p ∧ τ 4 = upd (σ 4) (σ 2 6).toInt.toNat q ∧ τ 5 = upd (σ 5) (σ 2 6).toInt.toNat (((1 : Int32) <<< (p &&& 31)) ||| ((1 : Int32) <<< (q &&& 31))) ∧ τ 6 = upd (σ 6) (σ 2 6).toInt.toNat u ∧ τ 2 7 ||| τ 2 8 = (if u.toInt = 2 then σ 2 7 ||| σ 2 8 else (σ 2 7 ||| σ 2 8) ||| ((1 : Int32) <<< (σ 2 6 &&& 31)))) := by
  have k_0 : (0 : Int32).toInt = 0 := by decide
  have k_1 : (1 : Int32).toInt = 1 := by decide
  refine ct_of RX2 rfl (by decide +kernel) [(0, .ref (ad 2)), (1, .int (p)), (2, .int (q)), (3, .int (u)), (4, .int (v))] rfl (Nat.le_of_ble_eq_true rfl) (fun G C T => ?_)
  refine r_aload_n C 0 dX2_lay_0 rfl rfl ?_
  refine r_get C (k := 2) (v := .int (σ 2 6)) f_X2_30 (by decide) rfl rfl dX2_lay_1 ?_
  refine r_istore C [(5, .int (σ 2 6)), (0, .ref (ad 2)), (1, .int (p)), (2, .int (q)), (3, .int (u)), (4, .int (v))] dX2_lay_4 (by decide) rfl ?_
  refine r_aload_n C 1 dX2_lay_6 rfl rfl ?_
  refine r_get C (k := 2) (v := .ref (ad 3)) f_X2_9 (by decide) rfl rfl dX2_lay_7 ?_
  refine r_iload C 0 dX2_lay_10 rfl ?_
  refine r_iload_n C 2 dX2_lay_12 rfl rfl ?_
  refine r_iast C (k := 3) (by decide) (fun _ => rfl) (by omega) dX2_lay_13 ?_
  refine r_aload_n C 1 dX2_lay_14 rfl rfl ?_
  refine r_get C (k := 2) (v := .ref (ad 4)) f_X2_15 (by decide) rfl rfl dX2_lay_15 ?_
  refine r_iload C 0 dX2_lay_18 rfl ?_
  refine r_iload_n C 3 dX2_lay_20 rfl rfl ?_
  refine r_iast C (k := 4) (by decide) (fun _ => rfl) (by omega) dX2_lay_21 ?_
  refine r_aload_n C 1 dX2_lay_22 rfl rfl ?_
  refine r_get C (k := 2) (v := .ref (ad 5)) f_X2_18 (by decide) rfl rfl dX2_lay_23 ?_
  refine r_iload C 0 dX2_lay_26 rfl ?_
  refine r_iconst C (1) dX2_lay_28 (by decide) ?_
  refine r_iload_n C 2 dX2_lay_29 rfl rfl ?_
  refine r_ishl C dX2_lay_30 ?_
  refine r_nm (P := fun z => z = (1 : Int32) <<< ((p : Int32) &&& 31)) rfl (fun z_1 hz_2 => ?_)
  refine r_iconst C (1) dX2_lay_31 (by decide) ?_
  refine r_iload_n C 3 dX2_lay_32 rfl rfl ?_
  refine r_ishl C dX2_lay_33 ?_
  refine r_nm (P := fun z => z = (1 : Int32) <<< ((q : Int32) &&& 31)) rfl (fun z_3 hz_4 => ?_)
  refine r_ior C dX2_lay_34 ?_
  refine r_nm (P := fun z => z = (z_1 : Int32) ||| (z_3)) rfl (fun z_5 hz_6 => ?_)
  refine r_iast C (k := 5) (by decide) (fun _ => rfl) (by omega) dX2_lay_35 ?_
  refine r_aload_n C 1 dX2_lay_36 rfl rfl ?_
  refine r_get C (k := 2) (v := .ref (ad 6)) f_X2_21 (by decide) rfl rfl dX2_lay_37 ?_
  refine r_iload C 0 dX2_lay_40 rfl ?_
  refine r_iload_n C 4 dX2_lay_42 rfl rfl ?_
  refine r_iast C (k := 6) (by decide) (fun _ => rfl) (by omega) dX2_lay_43 ?_
  refine r_aload_n C 1 dX2_lay_44 rfl rfl ?_
  refine r_get C (k := 2) (v := .ref (ad 7)) f_X2_24 (by decide) rfl rfl dX2_lay_45 ?_
  refine r_iload C 0 dX2_lay_48 rfl ?_
  refine r_iload C 5 dX2_lay_50 rfl ?_
  refine r_iast C (k := 7) (by decide) (fun _ => rfl) (by omega) dX2_lay_52 ?_
  refine r_aload_n C 1 dX2_lay_53 rfl rfl ?_
  refine r_dup C dX2_lay_54 rfl ?_
  refine r_get C (k := 2) (v := .int (σ 2 7)) f_X2_34 (by decide) rfl rfl dX2_lay_55 ?_
  have L_70 : ∀ (a : Int32), (a = if u.toInt = 0 then (1 : Int32) <<< (σ 2 6 &&& 31) else 0) → At E ad G 6 70 [(5, .int (σ 2 6)), (0, .ref (ad 2)), (1, .int (p)), (2, .int (q)), (3, .int (u)), (4, .int (v))] [.int (a), .int (σ 2 7), .ref (ad 2)] (sUp (sUp (sUp (sUp (sUp σ 3 ((σ 2 6 : Int32).toInt.toNat) (p)) 4 ((σ 2 6 : Int32).toInt.toNat) (q)) 5 ((σ 2 6 : Int32).toInt.toNat) (z_5)) 6 ((σ 2 6 : Int32).toInt.toNat) (u)) 7 ((σ 2 6 : Int32).toInt.toNat) (v)) := by
    intro a ha
    refine r_ior C dX2_lay_70 ?_
    refine r_nm (P := fun z => z = (σ 2 7 : Int32) ||| (a)) rfl (fun z_7 hz_8 => ?_)
    refine r_put C (k := 2) pf_X2_34 (by decide) rfl (Nat.le_of_ble_eq_true rfl) rfl dX2_lay_71 ?_
    refine r_aload_n C 1 dX2_lay_74 rfl rfl ?_
    refine r_dup C dX2_lay_75 rfl ?_
    refine r_get C (k := 2) (v := .int (σ 2 8)) f_X2_37 (by decide) rfl rfl dX2_lay_76 ?_
    have L_92 : ∀ (b : Int32), (b = if u.toInt = 1 then (1 : Int32) <<< (σ 2 6 &&& 31) else 0) → At E ad G 6 92 [(5, .int (σ 2 6)), (0, .ref (ad 2)), (1, .int (p)), (2, .int (q)), (3, .int (u)), (4, .int (v))] [.int (b), .int (σ 2 8), .ref (ad 2)] (sUp (sUp (sUp (sUp (sUp (sUp σ 3 ((σ 2 6 : Int32).toInt.toNat) (p)) 4 ((σ 2 6 : Int32).toInt.toNat) (q)) 5 ((σ 2 6 : Int32).toInt.toNat) (z_5)) 6 ((σ 2 6 : Int32).toInt.toNat) (u)) 7 ((σ 2 6 : Int32).toInt.toNat) (v)) 2 7 (z_7)) := by
      intro b hb
      refine r_ior C dX2_lay_92 ?_
      refine r_nm (P := fun z => z = (σ 2 8 : Int32) ||| (b)) rfl (fun z_9 hz_10 => ?_)
      refine r_put C (k := 2) pf_X2_37 (by decide) rfl (Nat.le_of_ble_eq_true rfl) rfl dX2_lay_93 ?_
      refine r_aload_n C 1 dX2_lay_96 rfl rfl ?_
      refine r_dup C dX2_lay_97 rfl ?_
      refine r_get C (k := 2) (v := .int (σ 2 6)) f_X2_30 (by decide) rfl rfl dX2_lay_98 ?_
      refine r_iconst C (1) dX2_lay_101 (by decide) ?_
      refine r_iadd C dX2_lay_102 ?_
      refine r_nm (P := fun z => z.toInt = (σ 2 6 : Int32).toInt + (1 : Int32).toInt ∧ z = (σ 2 6) + (1)) ⟨ta_add (by omega), rfl⟩ (fun z_11 hz_12 => ?_)
      refine r_put C (k := 2) pf_X2_30 (by decide) rfl (Nat.le_of_ble_eq_true rfl) rfl dX2_lay_103 ?_
      refine r_iload C 0 dX2_lay_106 rfl ?_
      exact r_iret C T dX2_lay_108 ⟨rfl, ((((((((Off.rf.up (by decide)).up (by decide)).up (by decide)).up (by decide)).up (by decide)).up (by decide)).up (by decide)).up (by decide)), hz_12.1, rfl, rfl, rfl, by rw [hz_6, hz_2, hz_4]; rfl, rfl, by show (z_7 : Int32) ||| z_9 = _; rw [hz_8, hz_10, ha, hb]; rcases (show u.toInt = 0 ∨ u.toInt = 1 ∨ u.toInt = 2 by omega) with e | e | e <;> simp only [e] <;> first | exact or3 _ _ _ | exact or4 _ _ _ | (rw [if_neg (by omega), if_neg (by omega), if_pos rfl, Int32.or_zero, Int32.or_zero]) | simp [or3, or4]⟩
    refine r_iload_n C 4 dX2_lay_79 rfl rfl ?_
    refine r_iconst C (1) dX2_lay_80 (by decide) ?_
    refine r_icmp_ne C 91 dX2_lay_81 (by decide) (fun c_13 => ?_) (fun c_13 => ?_)
    · -- to 91
      refine r_iconst C (0) dX2_lay_91 (by decide) ?_
      exact At.sub [0, 1, 2, 3, 4, 5] rfl (L_92 (0 : Int32) (by rw [if_neg (by omega)]))
    · -- to 84
      refine r_iconst C (1) dX2_lay_84 (by decide) ?_
      refine r_iload C 0 dX2_lay_85 rfl ?_
      refine r_ishl C dX2_lay_87 ?_
      refine r_nm (P := fun z => z = (1 : Int32) <<< ((σ 2 6 : Int32) &&& 31)) rfl (fun z_14 hz_15 => ?_)
      refine r_goto C 92 dX2_lay_88 (by decide) ?_
      exact At.sub [0, 1, 2, 3, 4, 5] rfl (L_92 (z_14 : Int32) (by rw [if_pos (by omega)]; exact hz_15))
  refine r_iload_n C 4 dX2_lay_58 rfl rfl ?_
  refine r_if_ne C 69 dX2_lay_59 (by decide) (fun c_16 => ?_) (fun c_16 => ?_)
  · -- to 69
    refine r_iconst C (0) dX2_lay_69 (by decide) ?_
    exact At.sub [0, 1, 2, 3, 4, 5] rfl (L_70 (0 : Int32) (by rw [if_neg (by omega)]))
  · -- to 62
    refine r_iconst C (1) dX2_lay_62 (by decide) ?_
    refine r_iload C 0 dX2_lay_63 rfl ?_
    refine r_ishl C dX2_lay_65 ?_
    refine r_nm (P := fun z => z = (1 : Int32) <<< ((σ 2 6 : Int32) &&& 31)) rfl (fun z_17 hz_18 => ?_)
    refine r_goto C 70 dX2_lay_66 (by decide) ?_
    exact At.sub [0, 1, 2, 3, 4, 5] rfl (L_70 (z_17 : Int32) (by rw [if_pos (by omega)]; exact hz_18))
set_option maxHeartbeats 4000000 in
set_option maxRecDepth 100000 in
theorem c_X2_tellSource (E : Ev) (ad : Nat → Nat) (σ : Sg) (p : Int32) (q : Int32) (u : Int32) (hq : 0 ≤ q.toInt ∧ q.toInt < 3) : Ct E ad yX2_tellSource cX2_tellSource 5 (some .boolean) 0 [.ref (ad 2), .int p, .int q, .int u] σ (fun r τ => τ = sUp σ 8 q.toInt.toNat (if u.toInt ≠ 0 then (σ 8 q.toInt.toNat) ||| ((1 : Int32) <<< (p &&& 31)) else (σ 8 q.toInt.toNat) &&& (((1 : Int32) <<< (p &&& 31)) ^^^ (-1))) ∧ ((r.toInt = 0 ∧ (if u.toInt ≠ 0 then (σ 8 q.toInt.toNat) ||| ((1 : Int32) <<< (p &&& 31)) else (σ 8 q.toInt.toNat) &&& (((1 : Int32) <<< (p &&& 31)) ^^^ (-1))).toInt = (σ 8 q.toInt.toNat).toInt) ∨ (r.toInt = 1 ∧ (if u.toInt ≠ 0 then (σ 8 q.toInt.toNat) ||| ((1 : Int32) <<< (p &&& 31)) else (σ 8 q.toInt.toNat) &&& (((1 : Int32) <<< (p &&& 31)) ^^^ (-1))).toInt ≠ (σ 8 q.toInt.toNat).toInt))) := by
  have k_m1 : (-1 : Int32).toInt = -1 := by decide
  have k_0 : (0 : Int32).toInt = 0 := by decide
  have k_1 : (1 : Int32).toInt = 1 := by decide
  refine ct_of RX2 rfl (by decide +kernel) [(0, .ref (ad 2)), (1, .int (p)), (2, .int (q)), (3, .int (u))] rfl (Nat.le_of_ble_eq_true rfl) (fun G C T => ?_)
  refine r_aload_n C 0 dX2_tellSource_0 rfl rfl ?_
  refine r_get C (k := 2) (v := .ref (ad 8)) f_X2_27 (by decide) rfl rfl dX2_tellSource_1 ?_
  refine r_iload_n C 2 dX2_tellSource_4 rfl rfl ?_
  refine r_iald C (k := 8) (by decide) rfl (by omega) (σ 8 ((q : Int32).toInt.toNat)) rfl dX2_tellSource_5 ?_
  refine r_istore C [(4, .int (σ 8 ((q : Int32).toInt.toNat))), (0, .ref (ad 2)), (1, .int (p)), (2, .int (q)), (3, .int (u))] dX2_tellSource_6 (by decide) rfl ?_
  refine r_aload_n C 1 dX2_tellSource_8 rfl rfl ?_
  refine r_get C (k := 2) (v := .ref (ad 8)) f_X2_27 (by decide) rfl rfl dX2_tellSource_9 ?_
  refine r_iload_n C 3 dX2_tellSource_12 rfl rfl ?_
  have L_34 : ∀ (a : Int32), (a = (if u.toInt ≠ 0 then (σ 8 q.toInt.toNat) ||| ((1 : Int32) <<< (p &&& 31)) else (σ 8 q.toInt.toNat) &&& (((1 : Int32) <<< (p &&& 31)) ^^^ (-1)))) → At E ad G 5 34 [(4, .int (σ 8 ((q : Int32).toInt.toNat))), (0, .ref (ad 2)), (1, .int (p)), (2, .int (q)), (3, .int (u))] [.int (a), .int (q), .ref (ad 8)] σ := by
    intro a ha
    refine r_iast C (k := 8) (by decide) (fun _ => rfl) (by omega) dX2_tellSource_34 ?_
    have hv : (sUp σ 8 (q : Int32).toInt.toNat (a)) 8 (q : Int32).toInt.toNat = a := by simp [sUp, upd]
    refine r_aload_n C 1 dX2_tellSource_35 rfl rfl ?_
    refine r_get C (k := 2) (v := .ref (ad 8)) f_X2_27 (by decide) rfl rfl dX2_tellSource_36 ?_
    refine r_iload_n C 3 dX2_tellSource_39 rfl rfl ?_
    refine r_iald C (k := 8) (by decide) rfl (by omega) ((sUp σ 8 ((q : Int32).toInt.toNat) (a)) 8 ((q : Int32).toInt.toNat)) rfl dX2_tellSource_40 ?_
    refine r_iload C 0 dX2_tellSource_41 rfl ?_
    refine r_icmp_eq C 50 dX2_tellSource_43 (by decide) (fun c_1 => ?_) (fun c_1 => ?_)
    · -- to 50
      refine r_iconst C (0) dX2_tellSource_50 (by decide) ?_
      exact r_zret C T dX2_tellSource_51 (by omega) ⟨by rw [ha], by rw [← ha]; rw [hv] at c_1; omega⟩
    · -- to 46
      refine r_iconst C (1) dX2_tellSource_46 (by decide) ?_
      refine r_goto C 51 dX2_tellSource_47 (by decide) ?_
      exact r_zret C T dX2_tellSource_51 (by omega) ⟨by rw [ha], by rw [← ha]; rw [hv] at c_1; omega⟩
  refine r_iload_n C 4 dX2_tellSource_13 rfl rfl ?_
  refine r_if_eq C 26 dX2_tellSource_14 (by decide) (fun c_2 => ?_) (fun c_2 => ?_)
  · -- to 26
    refine r_iload C 0 dX2_tellSource_26 rfl ?_
    refine r_iconst C (1) dX2_tellSource_28 (by decide) ?_
    refine r_iload_n C 2 dX2_tellSource_29 rfl rfl ?_
    refine r_ishl C dX2_tellSource_30 ?_
    refine r_nm (P := fun z => z = (1 : Int32) <<< ((p : Int32) &&& 31)) rfl (fun z_3 hz_4 => ?_)
    refine r_iconst C (-1) dX2_tellSource_31 (by decide) ?_
    refine r_ixor C dX2_tellSource_32 ?_
    refine r_nm (P := fun z => z = (z_3 : Int32) ^^^ ((-1))) rfl (fun z_5 hz_6 => ?_)
    refine r_iand C dX2_tellSource_33 ?_
    refine r_nm (P := fun z => z = (σ 8 ((q : Int32).toInt.toNat) : Int32) &&& (z_5)) rfl (fun z_7 hz_8 => ?_)
    exact At.sub [0, 1, 2, 3, 4] rfl (L_34 (z_7 : Int32) (by rw [if_neg (by omega), hz_8, hz_6, hz_4]))
  · -- to 17
    refine r_iload C 0 dX2_tellSource_17 rfl ?_
    refine r_iconst C (1) dX2_tellSource_19 (by decide) ?_
    refine r_iload_n C 2 dX2_tellSource_20 rfl rfl ?_
    refine r_ishl C dX2_tellSource_21 ?_
    refine r_nm (P := fun z => z = (1 : Int32) <<< ((p : Int32) &&& 31)) rfl (fun z_9 hz_10 => ?_)
    refine r_ior C dX2_tellSource_22 ?_
    refine r_nm (P := fun z => z = (σ 8 ((q : Int32).toInt.toNat) : Int32) ||| (z_9)) rfl (fun z_11 hz_12 => ?_)
    refine r_goto C 34 dX2_tellSource_23 (by decide) ?_
    exact At.sub [0, 1, 2, 3, 4] rfl (L_34 (z_11 : Int32) (by rw [if_pos (by omega), hz_12, hz_10]))
set_option maxHeartbeats 4000000 in
set_option maxRecDepth 100000 in
theorem c_X2_turnByHand (E : Ev) (ad : Nat → Nat) (σ : Sg) (p : Int32) (q : Int32)  : Ct E ad yX2_turnByHand cX2_turnByHand 4 (some .boolean) 0 [.ref (ad 2), .int p, .int q] σ (fun r τ => (∃ v, τ = sUp σ 2 9 v) ∧ (r.toInt = 0 ∨ r.toInt = 1)) := by
  have k_m1 : (-1 : Int32).toInt = -1 := by decide
  have k_0 : (0 : Int32).toInt = 0 := by decide
  have k_1 : (1 : Int32).toInt = 1 := by decide
  refine ct_of RX2 rfl (by decide +kernel) [(0, .ref (ad 2)), (1, .int (p)), (2, .int (q))] rfl (Nat.le_of_ble_eq_true rfl) (fun G C T => ?_)
  refine r_aload_n C 0 dX2_turnByHand_0 rfl rfl ?_
  refine r_get C (k := 2) (v := .int (σ 2 9)) f_X2_40 (by decide) rfl rfl dX2_turnByHand_1 ?_
  refine r_istore_n C [(3, .int (σ 2 9)), (0, .ref (ad 2)), (1, .int (p)), (2, .int (q))] dX2_turnByHand_4 rfl (by decide) rfl ?_
  refine r_aload_n C 1 dX2_turnByHand_5 rfl rfl ?_
  refine r_iload_n C 3 dX2_turnByHand_6 rfl rfl ?_
  refine r_if_eq C 18 dX2_turnByHand_7 (by decide) (fun c_1 => ?_) (fun c_1 => ?_)
  · -- to 18
    refine r_iload_n C 0 dX2_turnByHand_18 rfl rfl ?_
    refine r_iconst C (1) dX2_turnByHand_19 (by decide) ?_
    refine r_iload_n C 2 dX2_turnByHand_20 rfl rfl ?_
    refine r_ishl C dX2_turnByHand_21 ?_
    refine r_nm (P := fun z => z = (1 : Int32) <<< ((p : Int32) &&& 31)) rfl (fun z_2 hz_3 => ?_)
    refine r_iconst C (-1) dX2_turnByHand_22 (by decide) ?_
    refine r_ixor C dX2_turnByHand_23 ?_
    refine r_nm (P := fun z => z = (z_2 : Int32) ^^^ ((-1))) rfl (fun z_4 hz_5 => ?_)
    refine r_iand C dX2_turnByHand_24 ?_
    refine r_nm (P := fun z => z = (σ 2 9 : Int32) &&& (z_4)) rfl (fun z_6 hz_7 => ?_)
    refine r_put C (k := 2) pf_X2_40 (by decide) rfl (Nat.le_of_ble_eq_true rfl) rfl dX2_turnByHand_25 ?_
    refine r_aload_n C 1 dX2_turnByHand_28 rfl rfl ?_
    refine r_get C (k := 2) (v := .int (z_6)) f_X2_40 (by decide) rfl rfl dX2_turnByHand_29 ?_
    refine r_iload_n C 0 dX2_turnByHand_32 rfl rfl ?_
    refine r_icmp_eq C 40 dX2_turnByHand_33 (by decide) (fun c_8 => ?_) (fun c_8 => ?_)
    · -- to 40
      refine r_iconst C (0) dX2_turnByHand_40 (by decide) ?_
      exact r_zret C T dX2_turnByHand_41 (by omega) ⟨⟨_, rfl⟩, by omega⟩
    · -- to 36
      refine r_iconst C (1) dX2_turnByHand_36 (by decide) ?_
      refine r_goto C 41 dX2_turnByHand_37 (by decide) ?_
      exact r_zret C T dX2_turnByHand_41 (by omega) ⟨⟨_, rfl⟩, by omega⟩
  · -- to 10
    refine r_iload_n C 0 dX2_turnByHand_10 rfl rfl ?_
    refine r_iconst C (1) dX2_turnByHand_11 (by decide) ?_
    refine r_iload_n C 2 dX2_turnByHand_12 rfl rfl ?_
    refine r_ishl C dX2_turnByHand_13 ?_
    refine r_nm (P := fun z => z = (1 : Int32) <<< ((p : Int32) &&& 31)) rfl (fun z_9 hz_10 => ?_)
    refine r_ior C dX2_turnByHand_14 ?_
    refine r_nm (P := fun z => z = (σ 2 9 : Int32) ||| (z_9)) rfl (fun z_11 hz_12 => ?_)
    refine r_goto C 25 dX2_turnByHand_15 (by decide) ?_
    refine r_put C (k := 2) pf_X2_40 (by decide) rfl (Nat.le_of_ble_eq_true rfl) rfl dX2_turnByHand_25 ?_
    refine r_aload_n C 1 dX2_turnByHand_28 rfl rfl ?_
    refine r_get C (k := 2) (v := .int (z_11)) f_X2_40 (by decide) rfl rfl dX2_turnByHand_29 ?_
    refine r_iload_n C 0 dX2_turnByHand_32 rfl rfl ?_
    refine r_icmp_eq C 40 dX2_turnByHand_33 (by decide) (fun c_13 => ?_) (fun c_13 => ?_)
    · -- to 40
      refine r_iconst C (0) dX2_turnByHand_40 (by decide) ?_
      exact r_zret C T dX2_turnByHand_41 (by omega) ⟨⟨_, rfl⟩, by omega⟩
    · -- to 36
      refine r_iconst C (1) dX2_turnByHand_36 (by decide) ?_
      refine r_goto C 41 dX2_turnByHand_37 (by decide) ?_
      exact r_zret C T dX2_turnByHand_41 (by omega) ⟨⟨_, rfl⟩, by omega⟩
set_option maxHeartbeats 4000000 in
set_option maxRecDepth 100000 in
theorem c_X3_has (E : Ev) (ad : Nat → Nat) (σ : Sg) (p : Int32)  : Ct E ad yX3_has cX3_has 2 (some .boolean) 0 [.ref (ad 16), .int p] σ (fun r τ => τ = σ ∧ ((r.toInt = 1 ∧ 0 ≤ p.toInt ∧ p.toInt < (σ 16 8).toInt) ∨ (r.toInt = 0 ∧ ¬ (0 ≤ p.toInt ∧ p.toInt < (σ 16 8).toInt)))) := by
  have k_0 : (0 : Int32).toInt = 0 := by decide
  have k_1 : (1 : Int32).toInt = 1 := by decide
  refine ct_of RX3 rfl (by decide +kernel) [(0, .ref (ad 16)), (1, .int (p))] rfl (Nat.le_of_ble_eq_true rfl) (fun G C T => ?_)
  refine r_iload_n C 1 dX3_has_0 rfl rfl ?_
  refine r_if_lt C 16 dX3_has_1 (by decide) (fun c_1 => ?_) (fun c_1 => ?_)
  · -- to 16
    refine r_iconst C (0) dX3_has_16 (by decide) ?_
    exact r_zret C T dX3_has_17 (by omega) ⟨rfl, by omega⟩
  · -- to 4
    refine r_iload_n C 1 dX3_has_4 rfl rfl ?_
    refine r_aload_n C 0 dX3_has_5 rfl rfl ?_
    refine r_get C (k := 16) (v := .int (σ 16 8)) f_X3_36 (by decide) rfl rfl dX3_has_6 ?_
    refine r_icmp_ge C 16 dX3_has_9 (by decide) (fun c_2 => ?_) (fun c_2 => ?_)
    · -- to 16
      refine r_iconst C (0) dX3_has_16 (by decide) ?_
      exact r_zret C T dX3_has_17 (by omega) ⟨rfl, by omega⟩
    · -- to 12
      refine r_iconst C (1) dX3_has_12 (by decide) ?_
      refine r_goto C 17 dX3_has_13 (by decide) ?_
      exact r_zret C T dX3_has_17 (by omega) ⟨rfl, by omega⟩
set_option maxHeartbeats 4000000 in
set_option maxRecDepth 100000 in
theorem c_X3_locksOf (E : Ev) (ad : Nat → Nat) (σ : Sg) (p : Int32) (hp : 0 ≤ p.toInt ∧ p.toInt < 7) : Ct E ad yX3_locksOf cX3_locksOf 2 (some .int) 0 [.ref (ad 16), .int p] σ (fun r τ => τ = σ ∧ True) := by
  have k_0 : (0 : Int32).toInt = 0 := by decide
  have k_1 : (1 : Int32).toInt = 1 := by decide
  have k_5 : (5 : Int32).toInt = 5 := by decide
  refine ct_of RX3 rfl (by decide +kernel) [(0, .ref (ad 16)), (1, .int (p))] rfl (Nat.le_of_ble_eq_true rfl) (fun G C T => ?_)
  refine r_aload_n C 0 dX3_locksOf_0 rfl rfl ?_
  refine r_get C (k := 16) (v := .ref (ad 20)) f_X3_21 (by decide) rfl rfl dX3_locksOf_1 ?_
  refine r_iload_n C 1 dX3_locksOf_4 rfl rfl ?_
  refine r_iald C (k := 20) (by decide) rfl (by omega) (σ 20 ((p : Int32).toInt.toNat)) rfl dX3_locksOf_5 ?_
  refine r_iconst C (1) dX3_locksOf_6 (by decide) ?_
  refine r_icmp_lt C 29 dX3_locksOf_7 (by decide) (fun c_1 => ?_) (fun c_1 => ?_)
  · -- to 29
    refine r_iconst C (0) dX3_locksOf_29 (by decide) ?_
    exact r_iret C T dX3_locksOf_30 ⟨rfl, trivial⟩
  · -- to 10
    refine r_aload_n C 0 dX3_locksOf_10 rfl rfl ?_
    refine r_get C (k := 16) (v := .ref (ad 20)) f_X3_21 (by decide) rfl rfl dX3_locksOf_11 ?_
    refine r_iload_n C 1 dX3_locksOf_14 rfl rfl ?_
    refine r_iald C (k := 20) (by decide) rfl (by omega) (σ 20 ((p : Int32).toInt.toNat)) rfl dX3_locksOf_15 ?_
    refine r_iconst C (5) dX3_locksOf_16 (by decide) ?_
    refine r_icmp_ge C 29 dX3_locksOf_17 (by decide) (fun c_2 => ?_) (fun c_2 => ?_)
    · -- to 29
      refine r_iconst C (0) dX3_locksOf_29 (by decide) ?_
      exact r_iret C T dX3_locksOf_30 ⟨rfl, trivial⟩
    · -- to 20
      refine r_aload_n C 0 dX3_locksOf_20 rfl rfl ?_
      refine r_get C (k := 16) (v := .ref (ad 19)) f_X3_18 (by decide) rfl rfl dX3_locksOf_21 ?_
      refine r_iload_n C 1 dX3_locksOf_24 rfl rfl ?_
      refine r_iald C (k := 19) (by decide) rfl (by omega) (σ 19 ((p : Int32).toInt.toNat)) rfl dX3_locksOf_25 ?_
      refine r_goto C 30 dX3_locksOf_26 (by decide) ?_
      exact r_iret C T dX3_locksOf_30 ⟨rfl, trivial⟩
set_option maxHeartbeats 4000000 in
set_option maxRecDepth 100000 in
theorem c_X3_lockedPipes (E : Ev) (ad : Nat → Nat) (σ : Sg)  (hI : IC σ) : Ct E ad yX3_lockedPipes cX3_lockedPipes 3 (some .int) 1 [.ref (ad 16)] σ (fun r τ => τ = σ ∧ ((σ 16 8).toInt = 0 → r.toInt = 0)) := by
  have k_0 : (0 : Int32).toInt = 0 := by decide
  have hJ := hI
  unfold IC at hJ
  refine ct_of RX3 rfl (by decide +kernel) [(0, .ref (ad 16))] rfl (Nat.le_of_ble_eq_true rfl) (fun G C T => ?_)
  refine r_iconst C (0) dX3_lockedPipes_0 (by decide) ?_
  refine r_istore_n C [(1, .int (0)), (0, .ref (ad 16))] dX3_lockedPipes_1 rfl (by decide) rfl ?_
  refine r_iconst C (0) dX3_lockedPipes_2 (by decide) ?_
  refine r_istore_n C [(2, .int (0)), (1, .int (0)), (0, .ref (ad 16))] dX3_lockedPipes_3 rfl (by decide) rfl ?_
  have L_4 : ∀ (n : Nat), ∀ (a : Int32) (i : Int32), (0 ≤ i.toInt ∧ i.toInt ≤ 7) → ((σ 16 8).toInt = 0 → a.toInt = 0) → 7 - i.toInt < (n : Int) → At E ad G 3 4 [(2, .int (i)), (1, .int (a)), (0, .ref (ad 16))] [] σ := by
    intro n
    induction n with
    | zero =>
      intro a i hi hf hm
      exact absurd hm (by omega)
    | succ n ih =>
      intro a i hi hf hm
      have ih_4 := ih
      clear ih
      refine r_iload_n C 0 dX3_lockedPipes_4 rfl rfl ?_
      refine r_aload_n C 2 dX3_lockedPipes_5 rfl rfl ?_
      refine r_get C (k := 16) (v := .int (σ 16 8)) f_X3_36 (by decide) rfl rfl dX3_lockedPipes_6 ?_
      refine r_icmp_ge C 26 dX3_lockedPipes_9 (by decide) (fun c_1 => ?_) (fun c_1 => ?_)
      · -- to 26
        refine r_iload_n C 1 dX3_lockedPipes_26 rfl rfl ?_
        exact r_iret C T dX3_lockedPipes_27 ⟨rfl, hf⟩
      · -- to 12
        refine r_iload_n C 1 dX3_lockedPipes_12 rfl rfl ?_
        refine r_aload_n C 2 dX3_lockedPipes_13 rfl rfl ?_
        refine r_iload_n C 0 dX3_lockedPipes_14 rfl rfl ?_
        refine r_callV C (k := 16) [.int (i)] [.int (a)] (c_X3_locksOf E ad σ  (i) (by omega)) lv_X3_40 (by decide) rfl rfl (by decide) (by decide) rfl rfl (Nat.le_of_ble_eq_true rfl) dX3_lockedPipes_15 (fun r_2 τ_3 h_4 => ?_)
        obtain ⟨eh_4, h_4⟩ := h_4
        obtain rfl := eh_4.symm
        refine r_ior C dX3_lockedPipes_18 ?_
        refine r_nm (P := fun z => z = (a : Int32) ||| (r_2)) rfl (fun z_5 hz_6 => ?_)
        refine r_istore_n C [(1, .int (z_5)), (2, .int (i)), (0, .ref (ad 16))] dX3_lockedPipes_19 rfl (by decide) rfl ?_
        refine r_iinc C 1 (fun z => [(2, .int (z)), (1, .int (z_5)), (0, .ref (ad 16))]) dX3_lockedPipes_20 rfl (by decide) (by decide) (by omega) (fun _ => rfl) (fun z_7 hz_8 => ?_)
        refine r_goto C 4 dX3_lockedPipes_23 (by decide) ?_
        exact At.sub [0, 1, 2] rfl (ih_4 (z_5 : Int32) (z_7 : Int32) (by omega) (fun h => absurd h (by omega)) (by omega))
  exact At.sub [0, 1, 2] rfl (L_4 ((7 - (0 : Int32).toInt).toNat + 1) (0 : Int32) (0 : Int32) (by omega) (fun _ => k_0) (by omega))
set_option maxHeartbeats 4000000 in
set_option maxRecDepth 100000 in
theorem c_X3_inState (E : Ev) (ad : Nat → Nat) (σ : Sg) (p : Int32) (hI : IC σ) : Ct E ad yX3_inState cX3_inState 4 (some .int) 0 [.ref (ad 16), .int p] σ (fun r τ => τ = σ ∧ ((σ 16 8).toInt = 0 → r.toInt = 0)) := by
  have k_0 : (0 : Int32).toInt = 0 := by decide
  have k_1 : (1 : Int32).toInt = 1 := by decide
  have hJ := hI
  unfold IC at hJ
  refine ct_of RX3 rfl (by decide +kernel) [(0, .ref (ad 16)), (1, .int (p))] rfl (Nat.le_of_ble_eq_true rfl) (fun G C T => ?_)
  refine r_iconst C (0) dX3_inState_0 (by decide) ?_
  refine r_istore_n C [(2, .int (0)), (0, .ref (ad 16)), (1, .int (p))] dX3_inState_1 rfl (by decide) rfl ?_
  refine r_iconst C (0) dX3_inState_2 (by decide) ?_
  refine r_istore_n C [(3, .int (0)), (2, .int (0)), (0, .ref (ad 16)), (1, .int (p))] dX3_inState_3 rfl (by decide) rfl ?_
  have L_4 : ∀ (n : Nat), ∀ (a : Int32) (i : Int32), (0 ≤ i.toInt ∧ i.toInt ≤ 7) → ((σ 16 8).toInt = 0 → a.toInt = 0) → 7 - i.toInt < (n : Int) → At E ad G 4 4 [(3, .int (i)), (2, .int (a)), (0, .ref (ad 16)), (1, .int (p))] [] σ := by
    intro n
    induction n with
    | zero =>
      intro a i hi hf hm
      exact absurd hm (by omega)
    | succ n ih =>
      intro a i hi hf hm
      have ih_4 := ih
      clear ih
      refine r_iload_n C 0 dX3_inState_4 rfl rfl ?_
      refine r_aload_n C 2 dX3_inState_5 rfl rfl ?_
      refine r_get C (k := 16) (v := .int (σ 16 8)) f_X3_36 (by decide) rfl rfl dX3_inState_6 ?_
      refine r_icmp_ge C 38 dX3_inState_9 (by decide) (fun c_1 => ?_) (fun c_1 => ?_)
      · -- to 38
        refine r_iload_n C 1 dX3_inState_38 rfl rfl ?_
        exact r_iret C T dX3_inState_39 ⟨rfl, hf⟩
      · -- to 12
        refine r_iload_n C 1 dX3_inState_12 rfl rfl ?_
        refine r_aload_n C 2 dX3_inState_13 rfl rfl ?_
        refine r_get C (k := 16) (v := .ref (ad 20)) f_X3_21 (by decide) rfl rfl dX3_inState_14 ?_
        refine r_iload_n C 0 dX3_inState_17 rfl rfl ?_
        refine r_iald C (k := 20) (by decide) rfl (by omega) (σ 20 ((i : Int32).toInt.toNat)) rfl dX3_inState_18 ?_
        refine r_iload_n C 3 dX3_inState_19 rfl rfl ?_
        refine r_icmp_ne C 29 dX3_inState_20 (by decide) (fun c_2 => ?_) (fun c_2 => ?_)
        · -- to 29
          refine r_iconst C (0) dX3_inState_29 (by decide) ?_
          refine r_ior C dX3_inState_30 ?_
          refine r_nm (P := fun z => z = (a : Int32) ||| (0)) rfl (fun z_3 hz_4 => ?_)
          refine r_istore_n C [(2, .int (z_3)), (3, .int (i)), (0, .ref (ad 16)), (1, .int (p))] dX3_inState_31 rfl (by decide) rfl ?_
          refine r_iinc C 1 (fun z => [(3, .int (z)), (2, .int (z_3)), (0, .ref (ad 16)), (1, .int (p))]) dX3_inState_32 rfl (by decide) (by decide) (by omega) (fun _ => rfl) (fun z_5 hz_6 => ?_)
          refine r_goto C 4 dX3_inState_35 (by decide) ?_
          exact At.sub [0, 1, 2, 3] rfl (ih_4 (z_3 : Int32) (z_5 : Int32) (by omega) (fun h => absurd h (by omega)) (by omega))
        · -- to 23
          refine r_iconst C (1) dX3_inState_23 (by decide) ?_
          refine r_iload_n C 0 dX3_inState_24 rfl rfl ?_
          refine r_ishl C dX3_inState_25 ?_
          refine r_nm (P := fun z => z = (1 : Int32) <<< ((i : Int32) &&& 31)) rfl (fun z_7 hz_8 => ?_)
          refine r_goto C 30 dX3_inState_26 (by decide) ?_
          refine r_ior C dX3_inState_30 ?_
          refine r_nm (P := fun z => z = (a : Int32) ||| (z_7)) rfl (fun z_9 hz_10 => ?_)
          refine r_istore_n C [(2, .int (z_9)), (3, .int (i)), (0, .ref (ad 16)), (1, .int (p))] dX3_inState_31 rfl (by decide) rfl ?_
          refine r_iinc C 1 (fun z => [(3, .int (z)), (2, .int (z_9)), (0, .ref (ad 16)), (1, .int (p))]) dX3_inState_32 rfl (by decide) (by decide) (by omega) (fun _ => rfl) (fun z_11 hz_12 => ?_)
          refine r_goto C 4 dX3_inState_35 (by decide) ?_
          exact At.sub [0, 1, 2, 3] rfl (ih_4 (z_9 : Int32) (z_11 : Int32) (by omega) (fun h => absurd h (by omega)) (by omega))
  exact At.sub [0, 1, 2, 3] rfl (L_4 ((7 - (0 : Int32).toInt).toNat + 1) (0 : Int32) (0 : Int32) (by omega) (fun _ => k_0) (by omega))
set_option maxHeartbeats 4000000 in
set_option maxRecDepth 100000 in
theorem c_X3_locksOn (E : Ev) (ad : Nat → Nat) (σ : Sg) (p : Int32) (hI : IC σ) : Ct E ad yX3_locksOn cX3_locksOn 4 (some .int) 1 [.ref (ad 16), .int p] σ (fun r τ => τ = σ ∧ True) := by
  have k_0 : (0 : Int32).toInt = 0 := by decide
  have k_1 : (1 : Int32).toInt = 1 := by decide
  have hJ := hI
  unfold IC at hJ
  refine ct_of RX3 rfl (by decide +kernel) [(0, .ref (ad 16)), (1, .int (p))] rfl (Nat.le_of_ble_eq_true rfl) (fun G C T => ?_)
  refine r_iconst C (0) dX3_locksOn_0 (by decide) ?_
  refine r_istore_n C [(2, .int (0)), (0, .ref (ad 16)), (1, .int (p))] dX3_locksOn_1 rfl (by decide) rfl ?_
  refine r_iconst C (0) dX3_locksOn_2 (by decide) ?_
  refine r_istore_n C [(3, .int (0)), (2, .int (0)), (0, .ref (ad 16)), (1, .int (p))] dX3_locksOn_3 rfl (by decide) rfl ?_
  have L_4 : ∀ (n : Nat), ∀ (a : Int32) (i : Int32), (0 ≤ i.toInt ∧ i.toInt ≤ 7) → 7 - i.toInt < (n : Int) → At E ad G 4 4 [(3, .int (i)), (2, .int (a)), (0, .ref (ad 16)), (1, .int (p))] [] σ := by
    intro n
    induction n with
    | zero =>
      intro a i hi hm
      exact absurd hm (by omega)
    | succ n ih =>
      intro a i hi hm
      have ih_4 := ih
      clear ih
      refine r_iload_n C 0 dX3_locksOn_4 rfl rfl ?_
      refine r_aload_n C 2 dX3_locksOn_5 rfl rfl ?_
      refine r_get C (k := 16) (v := .int (σ 16 8)) f_X3_36 (by decide) rfl rfl dX3_locksOn_6 ?_
      refine r_icmp_ge C 30 dX3_locksOn_9 (by decide) (fun c_1 => ?_) (fun c_1 => ?_)
      · -- to 30
        refine r_iload_n C 1 dX3_locksOn_30 rfl rfl ?_
        exact r_iret C T dX3_locksOn_31 ⟨rfl, trivial⟩
      · -- to 12
        refine r_iload_n C 1 dX3_locksOn_12 rfl rfl ?_
        refine r_aload_n C 2 dX3_locksOn_13 rfl rfl ?_
        refine r_iload_n C 0 dX3_locksOn_14 rfl rfl ?_
        refine r_callV C (k := 16) [.int (i)] [.int (a)] (c_X3_locksOf E ad σ  (i) (by omega)) lv_X3_40 (by decide) rfl rfl (by decide) (by decide) rfl rfl (Nat.le_of_ble_eq_true rfl) dX3_locksOn_15 (fun r_2 τ_3 h_4 => ?_)
        obtain ⟨eh_4, h_4⟩ := h_4
        obtain rfl := eh_4.symm
        refine r_iload_n C 3 dX3_locksOn_18 rfl rfl ?_
        refine r_ishr C dX3_locksOn_19 ?_
        refine r_nm (P := fun z => z = (r_2 : Int32) >>> ((p : Int32) &&& 31)) rfl (fun z_5 hz_6 => ?_)
        refine r_iconst C (1) dX3_locksOn_20 (by decide) ?_
        refine r_iand C dX3_locksOn_21 ?_
        refine r_nm (P := fun z => z = (z_5 : Int32) &&& (1)) rfl (fun z_7 hz_8 => ?_)
        refine r_iadd C dX3_locksOn_22 ?_
        refine r_nm (P := fun z => z = (a) + (z_7)) rfl (fun z_9 hz_10 => ?_)
        refine r_istore_n C [(2, .int (z_9)), (3, .int (i)), (0, .ref (ad 16)), (1, .int (p))] dX3_locksOn_23 rfl (by decide) rfl ?_
        refine r_iinc C 1 (fun z => [(3, .int (z)), (2, .int (z_9)), (0, .ref (ad 16)), (1, .int (p))]) dX3_locksOn_24 rfl (by decide) (by decide) (by omega) (fun _ => rfl) (fun z_11 hz_12 => ?_)
        refine r_goto C 4 dX3_locksOn_27 (by decide) ?_
        exact At.sub [0, 1, 2, 3] rfl (ih_4 (z_9 : Int32) (z_11 : Int32) (by omega) (by omega))
  exact At.sub [0, 1, 2, 3] rfl (L_4 ((7 - (0 : Int32).toInt).toNat + 1) (0 : Int32) (0 : Int32) (by omega) (by omega))
set_option maxHeartbeats 4000000 in
set_option maxRecDepth 100000 in
theorem c_X3_allLocks (E : Ev) (ad : Nat → Nat) (σ : Sg)  (hI : IC σ) : Ct E ad yX3_allLocks cX3_allLocks 3 (some .int) 1 [.ref (ad 16)] σ (fun r τ => τ = σ ∧ ((σ 16 8).toInt = 0 → r.toInt = 0)) := by
  have k_0 : (0 : Int32).toInt = 0 := by decide
  have hJ := hI
  unfold IC at hJ
  refine ct_of RX3 rfl (by decide +kernel) [(0, .ref (ad 16))] rfl (Nat.le_of_ble_eq_true rfl) (fun G C T => ?_)
  refine r_iconst C (0) dX3_allLocks_0 (by decide) ?_
  refine r_istore_n C [(1, .int (0)), (0, .ref (ad 16))] dX3_allLocks_1 rfl (by decide) rfl ?_
  refine r_iconst C (0) dX3_allLocks_2 (by decide) ?_
  refine r_istore_n C [(2, .int (0)), (1, .int (0)), (0, .ref (ad 16))] dX3_allLocks_3 rfl (by decide) rfl ?_
  have L_4 : ∀ (n : Nat), ∀ (a : Int32) (i : Int32), (0 ≤ i.toInt ∧ i.toInt ≤ 7) → ((σ 16 8).toInt = 0 → a.toInt = 0) → 7 - i.toInt < (n : Int) → At E ad G 3 4 [(2, .int (i)), (1, .int (a)), (0, .ref (ad 16))] [] σ := by
    intro n
    induction n with
    | zero =>
      intro a i hi hf hm
      exact absurd hm (by omega)
    | succ n ih =>
      intro a i hi hf hm
      have ih_4 := ih
      clear ih
      refine r_iload_n C 0 dX3_allLocks_4 rfl rfl ?_
      refine r_aload_n C 2 dX3_allLocks_5 rfl rfl ?_
      refine r_get C (k := 16) (v := .int (σ 16 8)) f_X3_36 (by decide) rfl rfl dX3_allLocks_6 ?_
      refine r_icmp_ge C 29 dX3_allLocks_9 (by decide) (fun c_1 => ?_) (fun c_1 => ?_)
      · -- to 29
        refine r_iload_n C 1 dX3_allLocks_29 rfl rfl ?_
        exact r_iret C T dX3_allLocks_30 ⟨rfl, hf⟩
      · -- to 12
        refine r_iload_n C 1 dX3_allLocks_12 rfl rfl ?_
        refine r_aload_n C 2 dX3_allLocks_13 rfl rfl ?_
        refine r_iload_n C 0 dX3_allLocks_14 rfl rfl ?_
        refine r_callV C (k := 16) [.int (i)] [.int (a)] (c_X3_locksOf E ad σ  (i) (by omega)) lv_X3_40 (by decide) rfl rfl (by decide) (by decide) rfl rfl (Nat.le_of_ble_eq_true rfl) dX3_allLocks_15 (fun r_2 τ_3 h_4 => ?_)
        obtain ⟨eh_4, h_4⟩ := h_4
        obtain rfl := eh_4.symm
        refine r_callS C [.int (r_2)] [.int (a)] (c_J6_bitCount_0f7a4 E ad σ  (r_2) ) ls_X3_44 (by decide) (by decide) rfl rfl (Nat.le_of_ble_eq_true rfl) dX3_allLocks_18 (fun r_5 τ_6 h_7 => ?_)
        obtain ⟨eh_7, h_7⟩ := h_7
        obtain rfl := eh_7.symm
        refine r_iadd C dX3_allLocks_21 ?_
        refine r_nm (P := fun z => z = (a) + (r_5)) rfl (fun z_8 hz_9 => ?_)
        refine r_istore_n C [(1, .int (z_8)), (2, .int (i)), (0, .ref (ad 16))] dX3_allLocks_22 rfl (by decide) rfl ?_
        refine r_iinc C 1 (fun z => [(2, .int (z)), (1, .int (z_8)), (0, .ref (ad 16))]) dX3_allLocks_23 rfl (by decide) (by decide) (by omega) (fun _ => rfl) (fun z_10 hz_11 => ?_)
        refine r_goto C 4 dX3_allLocks_26 (by decide) ?_
        exact At.sub [0, 1, 2] rfl (ih_4 (z_8 : Int32) (z_10 : Int32) (by omega) (fun h => absurd h (by omega)) (by omega))
  exact At.sub [0, 1, 2] rfl (L_4 ((7 - (0 : Int32).toInt).toNat + 1) (0 : Int32) (0 : Int32) (by omega) (fun _ => k_0) (by omega))
set_option maxHeartbeats 4000000 in
set_option maxRecDepth 100000 in
theorem c_X3_write (E : Ev) (ad : Nat → Nat) (σ : Sg) (p : Int32) (q : Int32) (u : Int32) (hc : 0 ≤ (σ 16 8).toInt ∧ (σ 16 8).toInt < 7) : Ct E ad yX3_write cX3_write 5 (some .int) 0 [.ref (ad 16), .int p, .int q, .int u] σ (fun r τ => r.toInt = (σ 16 8).toInt ∧ Off [16, 17, 18, 19, 20, 21, 22, 23, 24] σ τ ∧ (τ 16 8).toInt = (σ 16 8).toInt + 1 ∧ τ 20 = upd (σ 20) (σ 16 8).toInt.toNat 0 ∧ τ 19 = upd (σ 19) (σ 16 8).toInt.toNat u) := by
  have k_m3 : (-3 : Int32).toInt = -3 := by decide
  have k_m1 : (-1 : Int32).toInt = -1 := by decide
  have k_0 : (0 : Int32).toInt = 0 := by decide
  have k_1 : (1 : Int32).toInt = 1 := by decide
  refine ct_of RX3 rfl (by decide +kernel) [(0, .ref (ad 16)), (1, .int (p)), (2, .int (q)), (3, .int (u))] rfl (Nat.le_of_ble_eq_true rfl) (fun G C T => ?_)
  refine r_aload_n C 0 dX3_write_0 rfl rfl ?_
  refine r_get C (k := 16) (v := .int (σ 16 8)) f_X3_36 (by decide) rfl rfl dX3_write_1 ?_
  refine r_istore C [(4, .int (σ 16 8)), (0, .ref (ad 16)), (1, .int (p)), (2, .int (q)), (3, .int (u))] dX3_write_4 (by decide) rfl ?_
  refine r_aload_n C 1 dX3_write_6 rfl rfl ?_
  refine r_get C (k := 16) (v := .ref (ad 17)) f_X3_9 (by decide) rfl rfl dX3_write_7 ?_
  refine r_iload C 0 dX3_write_10 rfl ?_
  refine r_iload_n C 2 dX3_write_12 rfl rfl ?_
  refine r_iast C (k := 17) (by decide) (fun _ => rfl) (by omega) dX3_write_13 ?_
  refine r_aload_n C 1 dX3_write_14 rfl rfl ?_
  refine r_get C (k := 16) (v := .ref (ad 18)) f_X3_15 (by decide) rfl rfl dX3_write_15 ?_
  refine r_iload C 0 dX3_write_18 rfl ?_
  refine r_iload_n C 3 dX3_write_20 rfl rfl ?_
  refine r_iast C (k := 18) (by decide) (fun _ => rfl) (by omega) dX3_write_21 ?_
  refine r_aload_n C 1 dX3_write_22 rfl rfl ?_
  refine r_get C (k := 16) (v := .ref (ad 19)) f_X3_18 (by decide) rfl rfl dX3_write_23 ?_
  refine r_iload C 0 dX3_write_26 rfl ?_
  refine r_iload_n C 4 dX3_write_28 rfl rfl ?_
  refine r_iast C (k := 19) (by decide) (fun _ => rfl) (by omega) dX3_write_29 ?_
  refine r_aload_n C 1 dX3_write_30 rfl rfl ?_
  refine r_get C (k := 16) (v := .ref (ad 20)) f_X3_21 (by decide) rfl rfl dX3_write_31 ?_
  refine r_iload C 0 dX3_write_34 rfl ?_
  refine r_iconst C (0) dX3_write_36 (by decide) ?_
  refine r_iast C (k := 20) (by decide) (fun _ => rfl) (by omega) dX3_write_37 ?_
  refine r_aload_n C 1 dX3_write_38 rfl rfl ?_
  refine r_get C (k := 16) (v := .ref (ad 21)) f_X3_24 (by decide) rfl rfl dX3_write_39 ?_
  refine r_iload C 0 dX3_write_42 rfl ?_
  refine r_iconst C (-1) dX3_write_44 (by decide) ?_
  refine r_iast C (k := 21) (by decide) (fun _ => rfl) (by omega) dX3_write_45 ?_
  refine r_aload_n C 1 dX3_write_46 rfl rfl ?_
  refine r_get C (k := 16) (v := .ref (ad 22)) f_X3_27 (by decide) rfl rfl dX3_write_47 ?_
  refine r_iload C 0 dX3_write_50 rfl ?_
  refine r_bipush C (-3) dX3_write_52 (by decide) ?_
  refine r_iast C (k := 22) (by decide) (fun _ => rfl) (by omega) dX3_write_54 ?_
  refine r_aload_n C 1 dX3_write_55 rfl rfl ?_
  refine r_get C (k := 16) (v := .ref (ad 23)) f_X3_30 (by decide) rfl rfl dX3_write_56 ?_
  refine r_iload C 0 dX3_write_59 rfl ?_
  refine r_bipush C (-3) dX3_write_61 (by decide) ?_
  refine r_iast C (k := 23) (by decide) (fun _ => rfl) (by omega) dX3_write_63 ?_
  refine r_aload_n C 1 dX3_write_64 rfl rfl ?_
  refine r_get C (k := 16) (v := .ref (ad 24)) f_X3_33 (by decide) rfl rfl dX3_write_65 ?_
  refine r_iload C 0 dX3_write_68 rfl ?_
  refine r_bipush C (-3) dX3_write_70 (by decide) ?_
  refine r_iast C (k := 24) (by decide) (fun _ => rfl) (by omega) dX3_write_72 ?_
  refine r_aload_n C 1 dX3_write_73 rfl rfl ?_
  refine r_dup C dX3_write_74 rfl ?_
  refine r_get C (k := 16) (v := .int (σ 16 8)) f_X3_36 (by decide) rfl rfl dX3_write_75 ?_
  refine r_iconst C (1) dX3_write_78 (by decide) ?_
  refine r_iadd C dX3_write_79 ?_
  refine r_nm (P := fun z => z.toInt = (σ 16 8 : Int32).toInt + (1 : Int32).toInt ∧ z = (σ 16 8) + (1)) ⟨ta_add (by omega), rfl⟩ (fun z_1 hz_2 => ?_)
  refine r_put C (k := 16) pf_X3_36 (by decide) rfl (Nat.le_of_ble_eq_true rfl) rfl dX3_write_80 ?_
  refine r_iload C 0 dX3_write_83 rfl ?_
  exact r_iret C T dX3_write_85 ⟨rfl, (((((((((Off.rf.up (by decide)).up (by decide)).up (by decide)).up (by decide)).up (by decide)).up (by decide)).up (by decide)).up (by decide)).up (by decide)), hz_2.1, rfl, rfl⟩
set_option maxHeartbeats 4000000 in
set_option maxRecDepth 100000 in
theorem c_X3_noteTest (E : Ev) (ad : Nat → Nat) (σ : Sg) (p : Int32) (q : Int32) (u : Int32) (hp : 0 ≤ p.toInt ∧ p.toInt < 7) : CtV E ad yX3_noteTest cX3_noteTest 4 0 [.ref (ad 16), .int p, .int q, .int u] σ (fun τ => Off [20, 22, 23] σ τ ∧ ∀ j, (τ 20 j).toInt = 0 ↔ (σ 20 j).toInt = 0) := by
  have k_1 : (1 : Int32).toInt = 1 := by decide
  have k_2 : (2 : Int32).toInt = 2 := by decide
  refine ctv_of RX3 rfl (by decide +kernel) [(0, .ref (ad 16)), (1, .int (p)), (2, .int (q)), (3, .int (u))] rfl (Nat.le_of_ble_eq_true rfl) (fun G C T => ?_)
  refine r_aload_n C 0 dX3_noteTest_0 rfl rfl ?_
  refine r_get C (k := 16) (v := .ref (ad 22)) f_X3_27 (by decide) rfl rfl dX3_noteTest_1 ?_
  refine r_iload_n C 1 dX3_noteTest_4 rfl rfl ?_
  refine r_iload_n C 2 dX3_noteTest_5 rfl rfl ?_
  refine r_iast C (k := 22) (by decide) (fun _ => rfl) (by omega) dX3_noteTest_6 ?_
  refine r_aload_n C 0 dX3_noteTest_7 rfl rfl ?_
  refine r_get C (k := 16) (v := .ref (ad 23)) f_X3_30 (by decide) rfl rfl dX3_noteTest_8 ?_
  refine r_iload_n C 1 dX3_noteTest_11 rfl rfl ?_
  refine r_iload_n C 3 dX3_noteTest_12 rfl rfl ?_
  refine r_iast C (k := 23) (by decide) (fun _ => rfl) (by omega) dX3_noteTest_13 ?_
  refine r_aload_n C 0 dX3_noteTest_14 rfl rfl ?_
  refine r_get C (k := 16) (v := .ref (ad 20)) f_X3_21 (by decide) rfl rfl dX3_noteTest_15 ?_
  refine r_iload_n C 1 dX3_noteTest_18 rfl rfl ?_
  refine r_iald C (k := 20) (by decide) rfl (by omega) (σ 20 ((p : Int32).toInt.toNat)) rfl dX3_noteTest_19 ?_
  refine r_iconst C (1) dX3_noteTest_20 (by decide) ?_
  refine r_icmp_ne C 31 dX3_noteTest_21 (by decide) (fun c_1 => ?_) (fun c_1 => ?_)
  · -- to 31
    exact r_vret C T dX3_noteTest_31 ⟨((Off.rf.up (by decide)).up (by decide)), fun _ => Iff.rfl⟩
  · -- to 24
    have hs1 : ∀ j, (upd (σ 20) (p : Int32).toInt.toNat 2 j).toInt = 0 ↔ (σ 20 j).toInt = 0 := by intro j; unfold upd; by_cases e : j = (p : Int32).toInt.toNat; (rw [if_pos e, e]; omega); (rw [if_neg e])
    refine r_aload_n C 0 dX3_noteTest_24 rfl rfl ?_
    refine r_get C (k := 16) (v := .ref (ad 20)) f_X3_21 (by decide) rfl rfl dX3_noteTest_25 ?_
    refine r_iload_n C 1 dX3_noteTest_28 rfl rfl ?_
    refine r_iconst C (2) dX3_noteTest_29 (by decide) ?_
    refine r_iast C (k := 20) (by decide) (fun _ => rfl) (by omega) dX3_noteTest_30 ?_
    exact r_vret C T dX3_noteTest_31 ⟨(((Off.rf.up (by decide)).up (by decide)).up (by decide)), hs1 ⟩
set_option maxHeartbeats 4000000 in
set_option maxRecDepth 100000 in
theorem c_X3_hasGoodTest (E : Ev) (ad : Nat → Nat) (σ : Sg) (p : Int32) (q : Int32) (u : Int32) (hp : 0 ≤ p.toInt ∧ p.toInt < 7) : Ct E ad yX3_hasGoodTest cX3_hasGoodTest 4 (some .boolean) 0 [.ref (ad 16), .int p, .int q, .int u] σ (fun r τ => τ = σ ∧ (r.toInt = 0 ∨ r.toInt = 1)) := by
  have k_m3 : (-3 : Int32).toInt = -3 := by decide
  have k_0 : (0 : Int32).toInt = 0 := by decide
  have k_1 : (1 : Int32).toInt = 1 := by decide
  have k_10 : (10 : Int32).toInt = 10 := by decide
  refine ct_of RX3 rfl (by decide +kernel) [(0, .ref (ad 16)), (1, .int (p)), (2, .int (q)), (3, .int (u))] rfl (Nat.le_of_ble_eq_true rfl) (fun G C T => ?_)
  refine r_aload_n C 0 dX3_hasGoodTest_0 rfl rfl ?_
  refine r_get C (k := 16) (v := .ref (ad 22)) f_X3_27 (by decide) rfl rfl dX3_hasGoodTest_1 ?_
  refine r_iload_n C 1 dX3_hasGoodTest_4 rfl rfl ?_
  refine r_iald C (k := 22) (by decide) rfl (by omega) (σ 22 ((p : Int32).toInt.toNat)) rfl dX3_hasGoodTest_5 ?_
  refine r_bipush C (-3) dX3_hasGoodTest_6 (by decide) ?_
  refine r_icmp_eq C 38 dX3_hasGoodTest_8 (by decide) (fun c_1 => ?_) (fun c_1 => ?_)
  · -- to 38
    refine r_iconst C (0) dX3_hasGoodTest_38 (by decide) ?_
    exact r_zret C T dX3_hasGoodTest_39 (by omega) ⟨rfl, by omega⟩
  · -- to 11
    refine r_aload_n C 0 dX3_hasGoodTest_11 rfl rfl ?_
    refine r_get C (k := 16) (v := .ref (ad 22)) f_X3_27 (by decide) rfl rfl dX3_hasGoodTest_12 ?_
    refine r_iload_n C 1 dX3_hasGoodTest_15 rfl rfl ?_
    refine r_iald C (k := 22) (by decide) rfl (by omega) (σ 22 ((p : Int32).toInt.toNat)) rfl dX3_hasGoodTest_16 ?_
    refine r_bipush C (10) dX3_hasGoodTest_17 (by decide) ?_
    refine r_icmp_gt C 38 dX3_hasGoodTest_19 (by decide) (fun c_2 => ?_) (fun c_2 => ?_)
    · -- to 38
      refine r_iconst C (0) dX3_hasGoodTest_38 (by decide) ?_
      exact r_zret C T dX3_hasGoodTest_39 (by omega) ⟨rfl, by omega⟩
    · -- to 22
      refine r_iload_n C 2 dX3_hasGoodTest_22 rfl rfl ?_
      refine r_aload_n C 0 dX3_hasGoodTest_23 rfl rfl ?_
      refine r_get C (k := 16) (v := .ref (ad 23)) f_X3_30 (by decide) rfl rfl dX3_hasGoodTest_24 ?_
      refine r_iload_n C 1 dX3_hasGoodTest_27 rfl rfl ?_
      refine r_iald C (k := 23) (by decide) rfl (by omega) (σ 23 ((p : Int32).toInt.toNat)) rfl dX3_hasGoodTest_28 ?_
      refine r_isub C dX3_hasGoodTest_29 ?_
      refine r_nm (P := fun z => z = (q) - (σ 23 ((p : Int32).toInt.toNat))) rfl (fun z_3 hz_4 => ?_)
      refine r_iload_n C 3 dX3_hasGoodTest_30 rfl rfl ?_
      refine r_icmp_gt C 38 dX3_hasGoodTest_31 (by decide) (fun c_5 => ?_) (fun c_5 => ?_)
      · -- to 38
        refine r_iconst C (0) dX3_hasGoodTest_38 (by decide) ?_
        exact r_zret C T dX3_hasGoodTest_39 (by omega) ⟨rfl, by omega⟩
      · -- to 34
        refine r_iconst C (1) dX3_hasGoodTest_34 (by decide) ?_
        refine r_goto C 39 dX3_hasGoodTest_35 (by decide) ?_
        exact r_zret C T dX3_hasGoodTest_39 (by omega) ⟨rfl, by omega⟩
set_option maxHeartbeats 4000000 in
set_option maxRecDepth 100000 in
theorem c_X3_endLive (E : Ev) (ad : Nat → Nat) (σ : Sg) (p : Int32) (q : Int32) (hp : 0 ≤ p.toInt ∧ p.toInt < 7) : CtV E ad yX3_endLive cX3_endLive 3 0 [.ref (ad 16), .int p, .int q] σ (fun τ => τ = sUp (sUp σ 20 p.toInt.toNat 4) 24 p.toInt.toNat q) := by
  have k_4 : (4 : Int32).toInt = 4 := by decide
  refine ctv_of RX3 rfl (by decide +kernel) [(0, .ref (ad 16)), (1, .int (p)), (2, .int (q))] rfl (Nat.le_of_ble_eq_true rfl) (fun G C T => ?_)
  refine r_aload_n C 0 dX3_endLive_0 rfl rfl ?_
  refine r_get C (k := 16) (v := .ref (ad 20)) f_X3_21 (by decide) rfl rfl dX3_endLive_1 ?_
  refine r_iload_n C 1 dX3_endLive_4 rfl rfl ?_
  refine r_iconst C (4) dX3_endLive_5 (by decide) ?_
  refine r_iast C (k := 20) (by decide) (fun _ => rfl) (by omega) dX3_endLive_6 ?_
  refine r_aload_n C 0 dX3_endLive_7 rfl rfl ?_
  refine r_get C (k := 16) (v := .ref (ad 24)) f_X3_33 (by decide) rfl rfl dX3_endLive_8 ?_
  refine r_iload_n C 1 dX3_endLive_11 rfl rfl ?_
  refine r_iload_n C 2 dX3_endLive_12 rfl rfl ?_
  refine r_iast C (k := 24) (by decide) (fun _ => rfl) (by omega) dX3_endLive_13 ?_
  exact r_vret C T dX3_endLive_14 rfl
set_option maxHeartbeats 4000000 in
set_option maxRecDepth 100000 in
theorem c_X3_endAllLive (E : Ev) (ad : Nat → Nat) (σ : Sg) (p : Int32) (hI : IC σ) : CtV E ad yX3_endAllLive cX3_endAllLive 3 1 [.ref (ad 16), .int p] σ (fun τ => Off [20, 24] σ τ ∧ ∀ j, (τ 20 j).toInt = 0 ↔ (σ 20 j).toInt = 0) := by
  have k_0 : (0 : Int32).toInt = 0 := by decide
  have k_3 : (3 : Int32).toInt = 3 := by decide
  have hJ := hI
  unfold IC at hJ
  refine ctv_of RX3 rfl (by decide +kernel) [(0, .ref (ad 16)), (1, .int (p))] rfl (Nat.le_of_ble_eq_true rfl) (fun G C T => ?_)
  refine r_iconst C (0) dX3_endAllLive_0 (by decide) ?_
  refine r_istore_n C [(2, .int (0)), (0, .ref (ad 16)), (1, .int (p))] dX3_endAllLive_1 rfl (by decide) rfl ?_
  have L_2 : ∀ (n : Nat), ∀ (τ1 : Sg) (i : Int32), (0 ≤ i.toInt ∧ i.toInt ≤ 7) → (Off [20, 24] σ τ1) → (∀ j, (τ1 20 j).toInt = 0 ↔ (σ 20 j).toInt = 0) → 7 - i.toInt < (n : Int) → At E ad G 3 2 [(2, .int (i)), (0, .ref (ad 16)), (1, .int (p))] [] τ1 := by
    intro n
    induction n with
    | zero =>
      intro τ1 i hi ho ha hm
      exact absurd hm (by omega)
    | succ n ih =>
      intro τ1 i hi ho ha hm
      have ih_2 := ih
      clear ih
      have e16 : (τ1 16 8).toInt = (σ 16 8).toInt := by rw [ho 16 (by decide)]
      refine r_iload_n C 0 dX3_endAllLive_2 rfl rfl ?_
      refine r_aload_n C 1 dX3_endAllLive_3 rfl rfl ?_
      refine r_get C (k := 16) (v := .int (τ1 16 8)) f_X3_36 (by decide) rfl rfl dX3_endAllLive_4 ?_
      refine r_icmp_ge C 32 dX3_endAllLive_7 (by decide) (fun c_1 => ?_) (fun c_1 => ?_)
      · -- to 32
        exact r_vret C T dX3_endAllLive_32 ⟨ho, ha⟩
      · -- to 10
        refine r_aload_n C 1 dX3_endAllLive_10 rfl rfl ?_
        refine r_get C (k := 16) (v := .ref (ad 20)) f_X3_21 (by decide) rfl rfl dX3_endAllLive_11 ?_
        refine r_iload_n C 0 dX3_endAllLive_14 rfl rfl ?_
        refine r_iald C (k := 20) (by decide) rfl (by omega) (τ1 20 ((i : Int32).toInt.toNat)) rfl dX3_endAllLive_15 ?_
        refine r_iconst C (3) dX3_endAllLive_16 (by decide) ?_
        refine r_icmp_ne C 26 dX3_endAllLive_17 (by decide) (fun c_2 => ?_) (fun c_2 => ?_)
        · -- to 26
          refine r_iinc C 0 (fun z => [(2, .int (z)), (0, .ref (ad 16)), (1, .int (p))]) dX3_endAllLive_26 rfl (by decide) (by decide) (by omega) (fun _ => rfl) (fun z_3 hz_4 => ?_)
          refine r_goto C 2 dX3_endAllLive_29 (by decide) ?_
          exact At.sub [0, 1, 2] rfl (ih_2 τ1 (z_3 : Int32) (by omega) ho ha (by omega))
        · -- to 20
          refine r_aload_n C 1 dX3_endAllLive_20 rfl rfl ?_
          refine r_iload_n C 0 dX3_endAllLive_21 rfl rfl ?_
          refine r_iload_n C 2 dX3_endAllLive_22 rfl rfl ?_
          refine r_callVv C (k := 16) [.int (i), .int (p)] [] (c_X3_endLive E ad τ1  (i) (p) (by omega)) lv_X3_49 (by decide) rfl rfl (by decide) (by decide) rfl rfl (Nat.le_of_ble_eq_true rfl) dX3_endAllLive_23 (fun τ_6 h_7 => ?_)
          refine r_iinc C 0 (fun z => [(2, .int (z)), (0, .ref (ad 16)), (1, .int (p))]) dX3_endAllLive_26 rfl (by decide) (by decide) (by omega) (fun _ => rfl) (fun z_8 hz_9 => ?_)
          refine r_goto C 2 dX3_endAllLive_29 (by decide) ?_
          exact At.sub [0, 1, 2] rfl (ih_2 τ_6 (z_8 : Int32) (by omega) (by rw [h_7]; exact (ho.up (by decide)).up (by decide)) (by rw [h_7]; intro j; refine Iff.trans ?_ (ha j); show (upd (τ1 20) (i : Int32).toInt.toNat 4 j).toInt = 0 ↔ _; unfold upd; split <;> simp_all) (by omega))
  exact At.sub [0, 1, 2] rfl (L_2 ((7 - (0 : Int32).toInt).toNat + 1) σ (0 : Int32) (by omega) Off.rf (fun _ => Iff.rfl) (by omega))
set_option maxHeartbeats 4000000 in
set_option maxRecDepth 100000 in
theorem c_X3_holdsLive (E : Ev) (ad : Nat → Nat) (σ : Sg) (p : Int32) (hI : IC σ) : Ct E ad yX3_holdsLive cX3_holdsLive 3 (some .boolean) 0 [.ref (ad 16), .int p] σ (fun r τ => τ = σ ∧ (r.toInt = 0 ∨ r.toInt = 1) ∧ ((σ 16 8).toInt = 0 → r.toInt = 0)) := by
  have k_0 : (0 : Int32).toInt = 0 := by decide
  have k_1 : (1 : Int32).toInt = 1 := by decide
  have k_3 : (3 : Int32).toInt = 3 := by decide
  have hJ := hI
  unfold IC at hJ
  refine ct_of RX3 rfl (by decide +kernel) [(0, .ref (ad 16)), (1, .int (p))] rfl (Nat.le_of_ble_eq_true rfl) (fun G C T => ?_)
  refine r_iconst C (0) dX3_holdsLive_0 (by decide) ?_
  refine r_istore_n C [(2, .int (0)), (0, .ref (ad 16)), (1, .int (p))] dX3_holdsLive_1 rfl (by decide) rfl ?_
  have L_2 : ∀ (n : Nat), ∀ (i : Int32), (0 ≤ i.toInt ∧ i.toInt ≤ 7) → 7 - i.toInt < (n : Int) → At E ad G 3 2 [(2, .int (i)), (0, .ref (ad 16)), (1, .int (p))] [] σ := by
    intro n
    induction n with
    | zero =>
      intro i hi hm
      exact absurd hm (by omega)
    | succ n ih =>
      intro i hi hm
      have ih_2 := ih
      clear ih
      refine r_iload_n C 0 dX3_holdsLive_2 rfl rfl ?_
      refine r_aload_n C 1 dX3_holdsLive_3 rfl rfl ?_
      refine r_get C (k := 16) (v := .int (σ 16 8)) f_X3_36 (by decide) rfl rfl dX3_holdsLive_4 ?_
      refine r_icmp_ge C 38 dX3_holdsLive_7 (by decide) (fun c_1 => ?_) (fun c_1 => ?_)
      · -- to 38
        refine r_iconst C (0) dX3_holdsLive_38 (by decide) ?_
        exact r_zret C T dX3_holdsLive_39 (by omega) ⟨rfl, by omega, fun _ => k_0⟩
      · -- to 10
        refine r_aload_n C 1 dX3_holdsLive_10 rfl rfl ?_
        refine r_get C (k := 16) (v := .ref (ad 20)) f_X3_21 (by decide) rfl rfl dX3_holdsLive_11 ?_
        refine r_iload_n C 0 dX3_holdsLive_14 rfl rfl ?_
        refine r_iald C (k := 20) (by decide) rfl (by omega) (σ 20 ((i : Int32).toInt.toNat)) rfl dX3_holdsLive_15 ?_
        refine r_iconst C (3) dX3_holdsLive_16 (by decide) ?_
        refine r_icmp_ne C 32 dX3_holdsLive_17 (by decide) (fun c_2 => ?_) (fun c_2 => ?_)
        · -- to 32
          refine r_iinc C 0 (fun z => [(2, .int (z)), (0, .ref (ad 16)), (1, .int (p))]) dX3_holdsLive_32 rfl (by decide) (by decide) (by omega) (fun _ => rfl) (fun z_3 hz_4 => ?_)
          refine r_goto C 2 dX3_holdsLive_35 (by decide) ?_
          exact At.sub [0, 1, 2] rfl (ih_2 (z_3 : Int32) (by omega) (by omega))
        · -- to 20
          refine r_aload_n C 1 dX3_holdsLive_20 rfl rfl ?_
          refine r_get C (k := 16) (v := .ref (ad 21)) f_X3_24 (by decide) rfl rfl dX3_holdsLive_21 ?_
          refine r_iload_n C 0 dX3_holdsLive_24 rfl rfl ?_
          refine r_iald C (k := 21) (by decide) rfl (by omega) (σ 21 ((i : Int32).toInt.toNat)) rfl dX3_holdsLive_25 ?_
          refine r_iload_n C 2 dX3_holdsLive_26 rfl rfl ?_
          refine r_icmp_ne C 32 dX3_holdsLive_27 (by decide) (fun c_5 => ?_) (fun c_5 => ?_)
          · -- to 32
            refine r_iinc C 0 (fun z => [(2, .int (z)), (0, .ref (ad 16)), (1, .int (p))]) dX3_holdsLive_32 rfl (by decide) (by decide) (by omega) (fun _ => rfl) (fun z_6 hz_7 => ?_)
            refine r_goto C 2 dX3_holdsLive_35 (by decide) ?_
            exact At.sub [0, 1, 2] rfl (ih_2 (z_6 : Int32) (by omega) (by omega))
          · -- to 30
            refine r_iconst C (1) dX3_holdsLive_30 (by decide) ?_
            exact r_zret C T dX3_holdsLive_31 (by omega) ⟨rfl, by omega, fun h => absurd h (by omega)⟩
  exact At.sub [0, 1, 2] rfl (L_2 ((7 - (0 : Int32).toInt).toNat + 1) (0 : Int32) (by omega) (by omega))
set_option maxHeartbeats 4000000 in
set_option maxRecDepth 100000 in
theorem c_X0_isOn (E : Ev) (ad : Nat → Nat) (σ : Sg) (p : Int32)  : Ct E ad yX0_isOn cX0_isOn 2 (some .boolean) 1 [.ref (ad 25), .int p] σ (fun r τ => τ = σ ∧ (r.toInt = 0 ∨ r.toInt = 1) ∧ (σ 25 0 = 255 → 0 ≤ p.toInt ∧ p.toInt < 8 → r.toInt = 1)) := by
  have k_0 : (0 : Int32).toInt = 0 := by decide
  have k_1 : (1 : Int32).toInt = 1 := by decide
  refine ct_of RX0 rfl (by decide +kernel) [(0, .ref (ad 25)), (1, .int (p))] rfl (Nat.le_of_ble_eq_true rfl) (fun G C T => ?_)
  refine r_iload_n C 1 dX0_isOn_0 rfl rfl ?_
  refine r_callSN C (n := 1) [.int (p)] [] (c_X8_isMan E ad σ (p)) C.f.2.2.2.2.2.2 ln_isMan (by decide +kernel) (by decide) (by decide) rfl rfl (Nat.le_of_ble_eq_true rfl) dX0_isOn_1 (fun r_1 τ_2 h_3 => ?_)
  obtain ⟨eh_3, h_3⟩ := h_3
  obtain rfl := eh_3.symm
  refine r_if_eq C 22 dX0_isOn_4 (by decide) (fun c_4 => ?_) (fun c_4 => ?_)
  · -- to 22
    refine r_iconst C (0) dX0_isOn_22 (by decide) ?_
    exact r_zret C T dX0_isOn_23 (by omega) ⟨rfl, by omega, fun h hh => absurd hh (by omega)⟩
  · -- to 7
    refine r_aload_n C 0 dX0_isOn_7 rfl rfl ?_
    refine r_get C (k := 25) (v := .int (σ 25 0)) f_X0_9 (by decide) rfl rfl dX0_isOn_8 ?_
    refine r_iload_n C 1 dX0_isOn_11 rfl rfl ?_
    refine r_ishr C dX0_isOn_12 ?_
    refine r_nm (P := fun z => z = (σ 25 0 : Int32) >>> ((p : Int32) &&& 31)) rfl (fun z_5 hz_6 => ?_)
    refine r_iconst C (1) dX0_isOn_13 (by decide) ?_
    refine r_iand C dX0_isOn_14 ?_
    refine r_nm (P := fun z => z = (z_5 : Int32) &&& (1)) rfl (fun z_7 hz_8 => ?_)
    refine r_if_eq C 22 dX0_isOn_15 (by decide) (fun c_9 => ?_) (fun c_9 => ?_)
    · -- to 22
      refine r_iconst C (0) dX0_isOn_22 (by decide) ?_
      exact r_zret C T dX0_isOn_23 (by omega) ⟨rfl, by omega, fun h hh => by first | exact k_1 | (have t := ta_on hh; rw [hz_8, hz_6, h] at c_9; omega)⟩
    · -- to 18
      refine r_iconst C (1) dX0_isOn_18 (by decide) ?_
      refine r_goto C 23 dX0_isOn_19 (by decide) ?_
      exact r_zret C T dX0_isOn_23 (by omega) ⟨rfl, by omega, fun h hh => by first | exact k_1 | (have t := ta_on hh; rw [hz_8, hz_6, h] at c_9; omega)⟩
set_option maxHeartbeats 4000000 in
set_option maxRecDepth 100000 in
theorem c_X0_tellShift (E : Ev) (ad : Nat → Nat) (σ : Sg) (p : Int32) (q : Int32)  : CtV E ad yX0_tellShift cX0_tellShift 3 0 [.ref (ad 25), .int p, .int q] σ (fun τ => ∃ v, τ = sUp σ 25 0 v) := by
  have k_m1 : (-1 : Int32).toInt = -1 := by decide
  have k_1 : (1 : Int32).toInt = 1 := by decide
  refine ctv_of RX0 rfl (by decide +kernel) [(0, .ref (ad 25)), (1, .int (p)), (2, .int (q))] rfl (Nat.le_of_ble_eq_true rfl) (fun G C T => ?_)
  refine r_aload_n C 0 dX0_tellShift_0 rfl rfl ?_
  refine r_iload_n C 2 dX0_tellShift_1 rfl rfl ?_
  refine r_if_eq C 16 dX0_tellShift_2 (by decide) (fun c_1 => ?_) (fun c_1 => ?_)
  · -- to 16
    refine r_aload_n C 0 dX0_tellShift_16 rfl rfl ?_
    refine r_get C (k := 25) (v := .int (σ 25 0)) f_X0_9 (by decide) rfl rfl dX0_tellShift_17 ?_
    refine r_iconst C (1) dX0_tellShift_20 (by decide) ?_
    refine r_iload_n C 1 dX0_tellShift_21 rfl rfl ?_
    refine r_ishl C dX0_tellShift_22 ?_
    refine r_nm (P := fun z => z = (1 : Int32) <<< ((p : Int32) &&& 31)) rfl (fun z_2 hz_3 => ?_)
    refine r_iconst C (-1) dX0_tellShift_23 (by decide) ?_
    refine r_ixor C dX0_tellShift_24 ?_
    refine r_nm (P := fun z => z = (z_2 : Int32) ^^^ ((-1))) rfl (fun z_4 hz_5 => ?_)
    refine r_iand C dX0_tellShift_25 ?_
    refine r_nm (P := fun z => z = (σ 25 0 : Int32) &&& (z_4)) rfl (fun z_6 hz_7 => ?_)
    refine r_put C (k := 25) pf_X0_9 (by decide) rfl (Nat.le_of_ble_eq_true rfl) rfl dX0_tellShift_26 ?_
    exact r_vret C T dX0_tellShift_29 ⟨_, rfl⟩
  · -- to 5
    refine r_aload_n C 0 dX0_tellShift_5 rfl rfl ?_
    refine r_get C (k := 25) (v := .int (σ 25 0)) f_X0_9 (by decide) rfl rfl dX0_tellShift_6 ?_
    refine r_iconst C (1) dX0_tellShift_9 (by decide) ?_
    refine r_iload_n C 1 dX0_tellShift_10 rfl rfl ?_
    refine r_ishl C dX0_tellShift_11 ?_
    refine r_nm (P := fun z => z = (1 : Int32) <<< ((p : Int32) &&& 31)) rfl (fun z_8 hz_9 => ?_)
    refine r_ior C dX0_tellShift_12 ?_
    refine r_nm (P := fun z => z = (σ 25 0 : Int32) ||| (z_8)) rfl (fun z_10 hz_11 => ?_)
    refine r_goto C 26 dX0_tellShift_13 (by decide) ?_
    refine r_put C (k := 25) pf_X0_9 (by decide) rfl (Nat.le_of_ble_eq_true rfl) rfl dX0_tellShift_26 ?_
    exact r_vret C T dX0_tellShift_29 ⟨_, rfl⟩
set_option maxHeartbeats 4000000 in
set_option maxRecDepth 100000 in
theorem c_X0_insideFor (E : Ev) (ad : Nat → Nat) (σ : Sg) (p : Int32)  : Ct E ad yX0_insideFor cX0_insideFor 4 (some .int) 0 [.ref (ad 25), .int p] σ (fun r τ => τ = σ ∧ 0 ≤ r.toInt ∧ r.toInt ≤ 8 ∧ ((∀ j, j < 8 → (σ 26 j).toInt = -1) → p.toInt = -1 → r.toInt = 8)) := by
  have k_0 : (0 : Int32).toInt = 0 := by decide
  have k_1 : (1 : Int32).toInt = 1 := by decide
  have k_8 : (8 : Int32).toInt = 8 := by decide
  refine ct_of RX0 rfl (by decide +kernel) [(0, .ref (ad 25)), (1, .int (p))] rfl (Nat.le_of_ble_eq_true rfl) (fun G C T => ?_)
  refine r_iconst C (0) dX0_insideFor_0 (by decide) ?_
  refine r_istore_n C [(2, .int (0)), (0, .ref (ad 25)), (1, .int (p))] dX0_insideFor_1 rfl (by decide) rfl ?_
  refine r_iconst C (0) dX0_insideFor_2 (by decide) ?_
  refine r_istore_n C [(3, .int (0)), (2, .int (0)), (0, .ref (ad 25)), (1, .int (p))] dX0_insideFor_3 rfl (by decide) rfl ?_
  have L_4 : ∀ (n : Nat), ∀ (a : Int32) (i : Int32), (0 ≤ i.toInt ∧ i.toInt ≤ 8) → (0 ≤ a.toInt ∧ a.toInt ≤ i.toInt) → ((∀ j, j < 8 → (σ 26 j).toInt = -1) → p.toInt = -1 → a.toInt = i.toInt) → 8 - i.toInt < (n : Int) → At E ad G 4 4 [(3, .int (i)), (2, .int (a)), (0, .ref (ad 25)), (1, .int (p))] [] σ := by
    intro n
    induction n with
    | zero =>
      intro a i hi hb hf hm
      exact absurd hm (by omega)
    | succ n ih =>
      intro a i hi hb hf hm
      have ih_4 := ih
      clear ih
      refine r_iload_n C 0 dX0_insideFor_4 rfl rfl ?_
      refine r_bipush C (8) dX0_insideFor_5 (by decide) ?_
      refine r_icmp_ge C 34 dX0_insideFor_7 (by decide) (fun c_1 => ?_) (fun c_1 => ?_)
      · -- to 34
        refine r_iload_n C 1 dX0_insideFor_34 rfl rfl ?_
        exact r_iret C T dX0_insideFor_35 ⟨rfl, by omega, by omega, fun h1 h2 => by have t := hf h1 h2; omega⟩
      · -- to 10
        refine r_iload_n C 1 dX0_insideFor_10 rfl rfl ?_
        refine r_aload_n C 2 dX0_insideFor_11 rfl rfl ?_
        refine r_get C (k := 25) (v := .ref (ad 26)) f_X0_15 (by decide) rfl rfl dX0_insideFor_12 ?_
        refine r_iload_n C 0 dX0_insideFor_15 rfl rfl ?_
        refine r_iald C (k := 26) (by decide) rfl (by omega) (σ 26 ((i : Int32).toInt.toNat)) rfl dX0_insideFor_16 ?_
        refine r_iload_n C 3 dX0_insideFor_17 rfl rfl ?_
        refine r_icmp_ne C 25 dX0_insideFor_18 (by decide) (fun c_2 => ?_) (fun c_2 => ?_)
        · -- to 25
          refine r_iconst C (0) dX0_insideFor_25 (by decide) ?_
          refine r_iadd C dX0_insideFor_26 ?_
          refine r_nm (P := fun z => z.toInt = (a : Int32).toInt + (0 : Int32).toInt ∧ z = (a) + (0)) ⟨ta_add (by omega), rfl⟩ (fun z_3 hz_4 => ?_)
          refine r_istore_n C [(2, .int (z_3)), (3, .int (i)), (0, .ref (ad 25)), (1, .int (p))] dX0_insideFor_27 rfl (by decide) rfl ?_
          refine r_iinc C 1 (fun z => [(3, .int (z)), (2, .int (z_3)), (0, .ref (ad 25)), (1, .int (p))]) dX0_insideFor_28 rfl (by decide) (by decide) (by omega) (fun _ => rfl) (fun z_5 hz_6 => ?_)
          refine r_goto C 4 dX0_insideFor_31 (by decide) ?_
          exact At.sub [0, 1, 2, 3] rfl (ih_4 (z_3 : Int32) (z_5 : Int32) (by omega) (by omega) (fun h1 h2 => by have t := hf h1 h2; have t2 := h1 (i : Int32).toInt.toNat (by omega); omega) (by omega))
        · -- to 21
          refine r_iconst C (1) dX0_insideFor_21 (by decide) ?_
          refine r_goto C 26 dX0_insideFor_22 (by decide) ?_
          refine r_iadd C dX0_insideFor_26 ?_
          refine r_nm (P := fun z => z.toInt = (a : Int32).toInt + (1 : Int32).toInt ∧ z = (a) + (1)) ⟨ta_add (by omega), rfl⟩ (fun z_7 hz_8 => ?_)
          refine r_istore_n C [(2, .int (z_7)), (3, .int (i)), (0, .ref (ad 25)), (1, .int (p))] dX0_insideFor_27 rfl (by decide) rfl ?_
          refine r_iinc C 1 (fun z => [(3, .int (z)), (2, .int (z_7)), (0, .ref (ad 25)), (1, .int (p))]) dX0_insideFor_28 rfl (by decide) (by decide) (by omega) (fun _ => rfl) (fun z_9 hz_10 => ?_)
          refine r_goto C 4 dX0_insideFor_31 (by decide) ?_
          exact At.sub [0, 1, 2, 3] rfl (ih_4 (z_7 : Int32) (z_9 : Int32) (by omega) (by omega) (fun h1 h2 => by have t := hf h1 h2; have t2 := h1 (i : Int32).toInt.toNat (by omega); omega) (by omega))
  exact At.sub [0, 1, 2, 3] rfl (L_4 ((8 - (0 : Int32).toInt).toNat + 1) (0 : Int32) (0 : Int32) (by omega) (by omega) (fun _ _ => rfl) (by omega))
set_option maxHeartbeats 4000000 in
set_option maxRecDepth 100000 in
theorem c_X0_allInside (E : Ev) (ad : Nat → Nat) (σ : Sg)   : Ct E ad yX0_allInside cX0_allInside 1 (some .int) 1 [.ref (ad 25)] σ (fun r τ => τ = σ ∧ 0 ≤ r.toInt ∧ r.toInt ≤ 8 ∧ ((∀ j, j < 8 → (σ 26 j).toInt = -1) → r.toInt = 0)) := by
  have k_m1 : (-1 : Int32).toInt = -1 := by decide
  have k_8 : (8 : Int32).toInt = 8 := by decide
  refine ct_of RX0 rfl (by decide +kernel) [(0, .ref (ad 25))] rfl (Nat.le_of_ble_eq_true rfl) (fun G C T => ?_)
  refine r_bipush C (8) dX0_allInside_0 (by decide) ?_
  refine r_aload_n C 0 dX0_allInside_2 rfl rfl ?_
  refine r_iconst C (-1) dX0_allInside_3 (by decide) ?_
  refine r_callV C (k := 25) [.int ((-1))] [.int (8)] (c_X0_insideFor E ad σ  ((-1)) ) lv_X0_23 (by decide) rfl rfl (by decide) (by decide) rfl rfl (Nat.le_of_ble_eq_true rfl) dX0_allInside_4 (fun r_1 τ_2 h_3 => ?_)
  obtain ⟨eh_3, h_3⟩ := h_3
  obtain rfl := eh_3.symm
  refine r_isub C dX0_allInside_7 ?_
  refine r_nm (P := fun z => z.toInt = (8 : Int32).toInt - (r_1 : Int32).toInt ∧ z = (8) - (r_1)) ⟨ta_sub (by omega), rfl⟩ (fun z_4 hz_5 => ?_)
  exact r_iret C T dX0_allInside_8 ⟨rfl, by omega, by omega, fun h => by have t := h_3.2.2 h (by omega); omega⟩
set_option maxHeartbeats 4000000 in
set_option maxRecDepth 100000 in
theorem c_X0_comeOut (E : Ev) (ad : Nat → Nat) (σ : Sg)   : Ct E ad yX0_comeOut cX0_comeOut 3 (some .int) 2 [.ref (ad 25)] σ (fun r τ => Off [26] σ τ ∧ ((∀ j, j < 8 → (σ 26 j).toInt = -1) → r.toInt = 0)) := by
  have k_m1 : (-1 : Int32).toInt = -1 := by decide
  have k_0 : (0 : Int32).toInt = 0 := by decide
  have k_8 : (8 : Int32).toInt = 8 := by decide
  refine ct_of RX0 rfl (by decide +kernel) [(0, .ref (ad 25))] rfl (Nat.le_of_ble_eq_true rfl) (fun G C T => ?_)
  refine r_aload_n C 0 dX0_comeOut_0 rfl rfl ?_
  refine r_callV C (k := 25) [] [] (c_X0_allInside E ad σ   ) lv_X0_27 (by decide) rfl rfl (by decide) (by decide) rfl rfl (Nat.le_of_ble_eq_true rfl) dX0_comeOut_1 (fun r_1 τ_2 h_3 => ?_)
  obtain ⟨eh_3, h_3⟩ := h_3
  obtain rfl := eh_3.symm
  refine r_istore_n C [(1, .int (r_1)), (0, .ref (ad 25))] dX0_comeOut_4 rfl (by decide) rfl ?_
  refine r_iconst C (0) dX0_comeOut_5 (by decide) ?_
  refine r_istore_n C [(2, .int (0)), (1, .int (r_1)), (0, .ref (ad 25))] dX0_comeOut_6 rfl (by decide) rfl ?_
  have L_7 : ∀ (n : Nat), ∀ (τ1 : Sg) (i : Int32), (0 ≤ i.toInt ∧ i.toInt ≤ 8) → (Off [26] σ τ1) → 8 - i.toInt < (n : Int) → At E ad G 3 7 [(2, .int (i)), (1, .int (r_1)), (0, .ref (ad 25))] [] τ1 := by
    intro n
    induction n with
    | zero =>
      intro τ1 i hi ho hm
      exact absurd hm (by omega)
    | succ n ih =>
      intro τ1 i hi ho hm
      have ih_7 := ih
      clear ih
      refine r_iload_n C 0 dX0_comeOut_7 rfl rfl ?_
      refine r_bipush C (8) dX0_comeOut_8 (by decide) ?_
      refine r_icmp_ge C 26 dX0_comeOut_10 (by decide) (fun c_4 => ?_) (fun c_4 => ?_)
      · -- to 26
        refine r_iload_n C 1 dX0_comeOut_26 rfl rfl ?_
        exact r_iret C T dX0_comeOut_27 ⟨ho, fun h => (h_3).2.2 h⟩
      · -- to 13
        refine r_aload_n C 2 dX0_comeOut_13 rfl rfl ?_
        refine r_get C (k := 25) (v := .ref (ad 26)) f_X0_15 (by decide) rfl rfl dX0_comeOut_14 ?_
        refine r_iload_n C 0 dX0_comeOut_17 rfl rfl ?_
        refine r_iconst C (-1) dX0_comeOut_18 (by decide) ?_
        refine r_iast C (k := 26) (by decide) (fun _ => rfl) (by omega) dX0_comeOut_19 ?_
        refine r_iinc C 0 (fun z => [(2, .int (z)), (1, .int (r_1)), (0, .ref (ad 25))]) dX0_comeOut_20 rfl (by decide) (by decide) (by omega) (fun _ => rfl) (fun z_5 hz_6 => ?_)
        refine r_goto C 7 dX0_comeOut_23 (by decide) ?_
        exact At.sub [0, 1, 2] rfl (ih_7 (sUp τ1 26 ((i : Int32).toInt.toNat) ((-1))) (z_5 : Int32) (by omega) (ho.up (by decide)) (by omega))
  exact At.sub [0, 1, 2] rfl (L_7 ((8 - (0 : Int32).toInt).toNat + 1) σ (0 : Int32) (by omega) Off.rf (by omega))
set_option maxHeartbeats 4000000 in
set_option maxRecDepth 100000 in
theorem c_X1_keep (E : Ev) (ad : Nat → Nat) (σ : Sg) (p : Int32) (q : Int32) (u : Int32) (v : Int32) (hk : 0 ≤ p.toInt ∧ p.toInt ≤ 301 ∧ q.toInt ≤ 301) : CtV E ad yX1_keep cX1_keep 6 0 [.ref (ad 29), .int p, .int q, .int u, .int v] σ (fun τ => Off [30, 31] σ τ) := by
  refine ctv_of RX1 rfl (by decide +kernel) [(0, .ref (ad 29)), (1, .int (p)), (2, .int (q)), (3, .int (u)), (4, .int (v))] rfl (Nat.le_of_ble_eq_true rfl) (fun G C T => ?_)
  refine r_iload_n C 1 dX1_keep_0 rfl rfl ?_
  refine r_istore C [(5, .int (p)), (0, .ref (ad 29)), (1, .int (p)), (2, .int (q)), (3, .int (u)), (4, .int (v))] dX1_keep_1 (by decide) rfl ?_
  have L_3 : ∀ (n : Nat), ∀ (τ1 : Sg) (i : Int32), (0 ≤ i.toInt ∧ i.toInt ≤ 301) → (Off [30, 31] σ τ1) → 302 - i.toInt < (n : Int) → At E ad G 6 3 [(5, .int (i)), (0, .ref (ad 29)), (1, .int (p)), (2, .int (q)), (3, .int (u)), (4, .int (v))] [] τ1 := by
    intro n
    induction n with
    | zero =>
      intro τ1 i hi ho hm
      exact absurd hm (by omega)
    | succ n ih =>
      intro τ1 i hi ho hm
      have ih_3 := ih
      clear ih
      refine r_iload C 0 dX1_keep_3 rfl ?_
      refine r_iload_n C 3 dX1_keep_5 rfl rfl ?_
      refine r_icmp_ge C 32 dX1_keep_6 (by decide) (fun c_1 => ?_) (fun c_1 => ?_)
      · -- to 32
        exact r_vret C T dX1_keep_32 ho
      · -- to 9
        refine r_aload_n C 1 dX1_keep_9 rfl rfl ?_
        refine r_get C (k := 29) (v := .ref (ad 30)) f_X1_9 (by decide) rfl rfl dX1_keep_10 ?_
        refine r_iload C 0 dX1_keep_13 rfl ?_
        refine r_iload_n C 4 dX1_keep_15 rfl rfl ?_
        refine r_iast C (k := 30) (by decide) (fun _ => rfl) (by omega) dX1_keep_16 ?_
        refine r_aload_n C 1 dX1_keep_17 rfl rfl ?_
        refine r_get C (k := 29) (v := .ref (ad 31)) f_X1_15 (by decide) rfl rfl dX1_keep_18 ?_
        refine r_iload C 0 dX1_keep_21 rfl ?_
        refine r_iload C 5 dX1_keep_23 rfl ?_
        refine r_iast C (k := 31) (by decide) (fun _ => rfl) (by omega) dX1_keep_25 ?_
        refine r_iinc C 0 (fun z => [(5, .int (z)), (0, .ref (ad 29)), (1, .int (p)), (2, .int (q)), (3, .int (u)), (4, .int (v))]) dX1_keep_26 rfl (by decide) (by decide) (by omega) (fun _ => rfl) (fun z_2 hz_3 => ?_)
        refine r_goto C 3 dX1_keep_29 (by decide) ?_
        exact At.sub [0, 1, 2, 3, 4, 5] rfl (ih_3 (sUp (sUp τ1 30 ((i : Int32).toInt.toNat) (u)) 31 ((i : Int32).toInt.toNat) (v)) (z_2 : Int32) (by omega) ((ho.up (by decide)).up (by decide)) (by omega))
  exact At.sub [0, 1, 2, 3, 4, 5] rfl (L_3 ((302 - (p : Int32).toInt).toNat + 1) σ (p : Int32) (by omega) Off.rf (by omega))
set_option maxHeartbeats 4000000 in
set_option maxRecDepth 100000 in
theorem c_X6_has (E : Ev) (ad : Nat → Nat) (σ : Sg) (p : Int32)  : Ct E ad yX6_has cX6_has 2 (some .boolean) 0 [.ref (ad 9), .int p] σ (fun r τ => τ = σ ∧ ((r.toInt = 1 ∧ 0 ≤ p.toInt ∧ p.toInt < (σ 9 6).toInt) ∨ (r.toInt = 0 ∧ ¬ (0 ≤ p.toInt ∧ p.toInt < (σ 9 6).toInt)))) := by
  have k_0 : (0 : Int32).toInt = 0 := by decide
  have k_1 : (1 : Int32).toInt = 1 := by decide
  refine ct_of RX6 rfl (by decide +kernel) [(0, .ref (ad 9)), (1, .int (p))] rfl (Nat.le_of_ble_eq_true rfl) (fun G C T => ?_)
  refine r_iload_n C 1 dX6_has_0 rfl rfl ?_
  refine r_if_lt C 16 dX6_has_1 (by decide) (fun c_1 => ?_) (fun c_1 => ?_)
  · -- to 16
    refine r_iconst C (0) dX6_has_16 (by decide) ?_
    exact r_zret C T dX6_has_17 (by omega) ⟨rfl, by omega⟩
  · -- to 4
    refine r_iload_n C 1 dX6_has_4 rfl rfl ?_
    refine r_aload_n C 0 dX6_has_5 rfl rfl ?_
    refine r_get C (k := 9) (v := .int (σ 9 6)) f_X6_30 (by decide) rfl rfl dX6_has_6 ?_
    refine r_icmp_ge C 16 dX6_has_9 (by decide) (fun c_2 => ?_) (fun c_2 => ?_)
    · -- to 16
      refine r_iconst C (0) dX6_has_16 (by decide) ?_
      exact r_zret C T dX6_has_17 (by omega) ⟨rfl, by omega⟩
    · -- to 12
      refine r_iconst C (1) dX6_has_12 (by decide) ?_
      refine r_goto C 17 dX6_has_13 (by decide) ?_
      exact r_zret C T dX6_has_17 (by omega) ⟨rfl, by omega⟩
set_option maxHeartbeats 4000000 in
set_option maxRecDepth 100000 in
theorem c_X6_write (E : Ev) (ad : Nat → Nat) (σ : Sg) (q : Int32) (hc : 0 ≤ (σ 9 6).toInt ∧ (σ 9 6).toInt < 12) : Ct E ad yX6_write cX6_write 4 (some .int) 0 [.ref (ad 9), .ref (ad 27), .int q] σ (fun r τ => Off [9, 10, 11, 12, 13, 14, 15] σ τ ∧ (τ 9 6).toInt = (σ 9 6).toInt + 1) := by
  have k_m3 : (-3 : Int32).toInt = -3 := by decide
  have k_1 : (1 : Int32).toInt = 1 := by decide
  refine ct_of RX6 rfl (by decide +kernel) [(0, .ref (ad 9)), (1, .ref (ad 27)), (2, .int (q))] rfl (Nat.le_of_ble_eq_true rfl) (fun G C T => ?_)
  refine r_aload_n C 0 dX6_write_0 rfl rfl ?_
  refine r_get C (k := 9) (v := .int (σ 9 6)) f_X6_30 (by decide) rfl rfl dX6_write_1 ?_
  refine r_istore_n C [(3, .int (σ 9 6)), (0, .ref (ad 9)), (1, .ref (ad 27)), (2, .int (q))] dX6_write_4 rfl (by decide) rfl ?_
  refine r_aload_n C 1 dX6_write_5 rfl rfl ?_
  refine r_get C (k := 9) (v := .ref (ad 10)) f_X6_9 (by decide) rfl rfl dX6_write_6 ?_
  refine r_iload_n C 0 dX6_write_9 rfl rfl ?_
  refine r_aload_n C 2 dX6_write_10 rfl rfl ?_
  refine r_get C (k := 27) (v := .int (σ 27 2)) f_X6_34 (by decide) rfl rfl dX6_write_11 ?_
  refine r_iast C (k := 10) (by decide) (fun _ => rfl) (by omega) dX6_write_14 ?_
  refine r_aload_n C 1 dX6_write_15 rfl rfl ?_
  refine r_get C (k := 9) (v := .ref (ad 11)) f_X6_15 (by decide) rfl rfl dX6_write_16 ?_
  refine r_iload_n C 0 dX6_write_19 rfl rfl ?_
  refine r_aload_n C 2 dX6_write_20 rfl rfl ?_
  refine r_get C (k := 27) (v := .int (σ 27 3)) f_X6_38 (by decide) rfl rfl dX6_write_21 ?_
  refine r_iast C (k := 11) (by decide) (fun _ => rfl) (by omega) dX6_write_24 ?_
  refine r_aload_n C 1 dX6_write_25 rfl rfl ?_
  refine r_get C (k := 9) (v := .ref (ad 12)) f_X6_18 (by decide) rfl rfl dX6_write_26 ?_
  refine r_iload_n C 0 dX6_write_29 rfl rfl ?_
  refine r_aload_n C 2 dX6_write_30 rfl rfl ?_
  refine r_get C (k := 27) (v := .int (σ 27 4)) f_X6_40 (by decide) rfl rfl dX6_write_31 ?_
  refine r_iast C (k := 12) (by decide) (fun _ => rfl) (by omega) dX6_write_34 ?_
  refine r_aload_n C 1 dX6_write_35 rfl rfl ?_
  refine r_get C (k := 9) (v := .ref (ad 13)) f_X6_21 (by decide) rfl rfl dX6_write_36 ?_
  refine r_iload_n C 0 dX6_write_39 rfl rfl ?_
  refine r_aload_n C 2 dX6_write_40 rfl rfl ?_
  refine r_get C (k := 27) (v := .int (σ 27 5)) f_X6_42 (by decide) rfl rfl dX6_write_41 ?_
  refine r_iast C (k := 13) (by decide) (fun _ => rfl) (by omega) dX6_write_44 ?_
  refine r_aload_n C 1 dX6_write_45 rfl rfl ?_
  refine r_get C (k := 9) (v := .ref (ad 14)) f_X6_24 (by decide) rfl rfl dX6_write_46 ?_
  refine r_iload_n C 0 dX6_write_49 rfl rfl ?_
  refine r_iload_n C 3 dX6_write_50 rfl rfl ?_
  refine r_iast C (k := 14) (by decide) (fun _ => rfl) (by omega) dX6_write_51 ?_
  refine r_aload_n C 1 dX6_write_52 rfl rfl ?_
  refine r_get C (k := 9) (v := .ref (ad 15)) f_X6_27 (by decide) rfl rfl dX6_write_53 ?_
  refine r_iload_n C 0 dX6_write_56 rfl rfl ?_
  refine r_bipush C (-3) dX6_write_57 (by decide) ?_
  refine r_iast C (k := 15) (by decide) (fun _ => rfl) (by omega) dX6_write_59 ?_
  refine r_aload_n C 1 dX6_write_60 rfl rfl ?_
  refine r_dup C dX6_write_61 rfl ?_
  refine r_get C (k := 9) (v := .int (σ 9 6)) f_X6_30 (by decide) rfl rfl dX6_write_62 ?_
  refine r_iconst C (1) dX6_write_65 (by decide) ?_
  refine r_iadd C dX6_write_66 ?_
  refine r_nm (P := fun z => z.toInt = (σ 9 6 : Int32).toInt + (1 : Int32).toInt ∧ z = (σ 9 6) + (1)) ⟨ta_add (by omega), rfl⟩ (fun z_1 hz_2 => ?_)
  refine r_put C (k := 9) pf_X6_30 (by decide) rfl (Nat.le_of_ble_eq_true rfl) rfl dX6_write_67 ?_
  refine r_iload_n C 0 dX6_write_70 rfl rfl ?_
  exact r_iret C T dX6_write_71 ⟨(((((((Off.rf.up (by decide)).up (by decide)).up (by decide)).up (by decide)).up (by decide)).up (by decide)).up (by decide)), hz_2.1⟩
set_option maxHeartbeats 4000000 in
set_option maxRecDepth 100000 in
theorem c_X6_inForce (E : Ev) (ad : Nat → Nat) (σ : Sg) (p : Int32) (q : Int32) (hp : 0 ≤ p.toInt ∧ p.toInt < 12) : Ct E ad yX6_inForce cX6_inForce 3 (some .boolean) 0 [.ref (ad 9), .int p, .int q] σ (fun r τ => τ = σ ∧ (r.toInt = 0 ∨ r.toInt = 1)) := by
  have k_m3 : (-3 : Int32).toInt = -3 := by decide
  have k_0 : (0 : Int32).toInt = 0 := by decide
  have k_1 : (1 : Int32).toInt = 1 := by decide
  refine ct_of RX6 rfl (by decide +kernel) [(0, .ref (ad 9)), (1, .int (p)), (2, .int (q))] rfl (Nat.le_of_ble_eq_true rfl) (fun G C T => ?_)
  refine r_aload_n C 0 dX6_inForce_0 rfl rfl ?_
  refine r_get C (k := 9) (v := .ref (ad 14)) f_X6_24 (by decide) rfl rfl dX6_inForce_1 ?_
  refine r_iload_n C 1 dX6_inForce_4 rfl rfl ?_
  refine r_iald C (k := 14) (by decide) rfl (by omega) (σ 14 ((p : Int32).toInt.toNat)) rfl dX6_inForce_5 ?_
  refine r_iload_n C 2 dX6_inForce_6 rfl rfl ?_
  refine r_icmp_gt C 35 dX6_inForce_7 (by decide) (fun c_1 => ?_) (fun c_1 => ?_)
  · -- to 35
    refine r_iconst C (0) dX6_inForce_35 (by decide) ?_
    exact r_zret C T dX6_inForce_36 (by omega) ⟨rfl, by omega⟩
  · -- to 10
    refine r_aload_n C 0 dX6_inForce_10 rfl rfl ?_
    refine r_get C (k := 9) (v := .ref (ad 15)) f_X6_27 (by decide) rfl rfl dX6_inForce_11 ?_
    refine r_iload_n C 1 dX6_inForce_14 rfl rfl ?_
    refine r_iald C (k := 15) (by decide) rfl (by omega) (σ 15 ((p : Int32).toInt.toNat)) rfl dX6_inForce_15 ?_
    refine r_bipush C (-3) dX6_inForce_16 (by decide) ?_
    refine r_icmp_eq C 31 dX6_inForce_18 (by decide) (fun c_2 => ?_) (fun c_2 => ?_)
    · -- to 31
      refine r_iconst C (1) dX6_inForce_31 (by decide) ?_
      refine r_goto C 36 dX6_inForce_32 (by decide) ?_
      exact r_zret C T dX6_inForce_36 (by omega) ⟨rfl, by omega⟩
    · -- to 21
      refine r_iload_n C 2 dX6_inForce_21 rfl rfl ?_
      refine r_aload_n C 0 dX6_inForce_22 rfl rfl ?_
      refine r_get C (k := 9) (v := .ref (ad 15)) f_X6_27 (by decide) rfl rfl dX6_inForce_23 ?_
      refine r_iload_n C 1 dX6_inForce_26 rfl rfl ?_
      refine r_iald C (k := 15) (by decide) rfl (by omega) (σ 15 ((p : Int32).toInt.toNat)) rfl dX6_inForce_27 ?_
      refine r_icmp_ge C 35 dX6_inForce_28 (by decide) (fun c_3 => ?_) (fun c_3 => ?_)
      · -- to 35
        refine r_iconst C (0) dX6_inForce_35 (by decide) ?_
        exact r_zret C T dX6_inForce_36 (by omega) ⟨rfl, by omega⟩
      · -- to 31
        refine r_iconst C (1) dX6_inForce_31 (by decide) ?_
        refine r_goto C 36 dX6_inForce_32 (by decide) ?_
        exact r_zret C T dX6_inForce_36 (by omega) ⟨rfl, by omega⟩
set_option maxHeartbeats 4000000 in
set_option maxRecDepth 100000 in
theorem c_X6_speaksOf (E : Ev) (ad : Nat → Nat) (σ : Sg) (p : Int32) (q : Int32) (u : Int32) (v : Int32) (hp : 0 ≤ p.toInt ∧ p.toInt < 12) : Ct E ad yX6_speaksOf cX6_speaksOf 5 (some .boolean) 1 [.ref (ad 9), .int p, .int q, .int u, .int v] σ (fun r τ => τ = σ ∧ (r.toInt = 0 ∨ r.toInt = 1)) := by
  have k_0 : (0 : Int32).toInt = 0 := by decide
  have k_1 : (1 : Int32).toInt = 1 := by decide
  refine ct_of RX6 rfl (by decide +kernel) [(0, .ref (ad 9)), (1, .int (p)), (2, .int (q)), (3, .int (u)), (4, .int (v))] rfl (Nat.le_of_ble_eq_true rfl) (fun G C T => ?_)
  refine r_aload_n C 0 dX6_speaksOf_0 rfl rfl ?_
  refine r_get C (k := 9) (v := .ref (ad 10)) f_X6_9 (by decide) rfl rfl dX6_speaksOf_1 ?_
  refine r_iload_n C 1 dX6_speaksOf_4 rfl rfl ?_
  refine r_iald C (k := 10) (by decide) rfl (by omega) (σ 10 ((p : Int32).toInt.toNat)) rfl dX6_speaksOf_5 ?_
  refine r_iload_n C 2 dX6_speaksOf_6 rfl rfl ?_
  refine r_icmp_ne C 34 dX6_speaksOf_7 (by decide) (fun c_1 => ?_) (fun c_1 => ?_)
  · -- to 34
    refine r_iconst C (0) dX6_speaksOf_34 (by decide) ?_
    exact r_zret C T dX6_speaksOf_35 (by omega) ⟨rfl, by omega⟩
  · -- to 10
    refine r_aload_n C 0 dX6_speaksOf_10 rfl rfl ?_
    refine r_get C (k := 9) (v := .ref (ad 11)) f_X6_15 (by decide) rfl rfl dX6_speaksOf_11 ?_
    refine r_iload_n C 1 dX6_speaksOf_14 rfl rfl ?_
    refine r_iald C (k := 11) (by decide) rfl (by omega) (σ 11 ((p : Int32).toInt.toNat)) rfl dX6_speaksOf_15 ?_
    refine r_iload_n C 3 dX6_speaksOf_16 rfl rfl ?_
    refine r_icmp_ne C 34 dX6_speaksOf_17 (by decide) (fun c_2 => ?_) (fun c_2 => ?_)
    · -- to 34
      refine r_iconst C (0) dX6_speaksOf_34 (by decide) ?_
      exact r_zret C T dX6_speaksOf_35 (by omega) ⟨rfl, by omega⟩
    · -- to 20
      refine r_aload_n C 0 dX6_speaksOf_20 rfl rfl ?_
      refine r_iload_n C 1 dX6_speaksOf_21 rfl rfl ?_
      refine r_iload C 4 dX6_speaksOf_22 rfl ?_
      refine r_callV C (k := 9) [.int (p), .int (v)] [] (c_X6_inForce E ad σ  (p) (v) (by omega)) lv_X6_44 (by decide) rfl rfl (by decide) (by decide) rfl rfl (Nat.le_of_ble_eq_true rfl) dX6_speaksOf_24 (fun r_3 τ_4 h_5 => ?_)
      obtain ⟨eh_5, h_5⟩ := h_5
      obtain rfl := eh_5.symm
      refine r_if_eq C 34 dX6_speaksOf_27 (by decide) (fun c_6 => ?_) (fun c_6 => ?_)
      · -- to 34
        refine r_iconst C (0) dX6_speaksOf_34 (by decide) ?_
        exact r_zret C T dX6_speaksOf_35 (by omega) ⟨rfl, by omega⟩
      · -- to 30
        refine r_iconst C (1) dX6_speaksOf_30 (by decide) ?_
        refine r_goto C 35 dX6_speaksOf_31 (by decide) ?_
        exact r_zret C T dX6_speaksOf_35 (by omega) ⟨rfl, by omega⟩
set_option maxHeartbeats 4000000 in
set_option maxRecDepth 100000 in
theorem c_X6_doubledAt (E : Ev) (ad : Nat → Nat) (σ : Sg) (p : Int32) (hI : IC σ) : Ct E ad yX6_doubledAt cX6_doubledAt 4 (some .int) 1 [.ref (ad 9), .int p] σ (fun r τ => τ = σ ∧ True) := by
  have k_0 : (0 : Int32).toInt = 0 := by decide
  have k_1 : (1 : Int32).toInt = 1 := by decide
  have k_2 : (2 : Int32).toInt = 2 := by decide
  have hJ := hI
  unfold IC at hJ
  refine ct_of RX6 rfl (by decide +kernel) [(0, .ref (ad 9)), (1, .int (p))] rfl (Nat.le_of_ble_eq_true rfl) (fun G C T => ?_)
  refine r_iconst C (0) dX6_doubledAt_0 (by decide) ?_
  refine r_istore_n C [(2, .int (0)), (0, .ref (ad 9)), (1, .int (p))] dX6_doubledAt_1 rfl (by decide) rfl ?_
  refine r_iconst C (0) dX6_doubledAt_2 (by decide) ?_
  refine r_istore_n C [(3, .int (0)), (2, .int (0)), (0, .ref (ad 9)), (1, .int (p))] dX6_doubledAt_3 rfl (by decide) rfl ?_
  have L_4 : ∀ (n : Nat), ∀ (a : Int32) (i : Int32), (0 ≤ i.toInt ∧ i.toInt ≤ 12) → 12 - i.toInt < (n : Int) → At E ad G 4 4 [(3, .int (i)), (2, .int (a)), (0, .ref (ad 9)), (1, .int (p))] [] σ := by
    intro n
    induction n with
    | zero =>
      intro a i hi hm
      exact absurd hm (by omega)
    | succ n ih =>
      intro a i hi hm
      have ih_4 := ih
      clear ih
      refine r_iload_n C 0 dX6_doubledAt_4 rfl rfl ?_
      refine r_aload_n C 2 dX6_doubledAt_5 rfl rfl ?_
      refine r_get C (k := 9) (v := .int (σ 9 6)) f_X6_30 (by decide) rfl rfl dX6_doubledAt_6 ?_
      refine r_icmp_ge C 52 dX6_doubledAt_9 (by decide) (fun c_1 => ?_) (fun c_1 => ?_)
      · -- to 52
        refine r_iload_n C 1 dX6_doubledAt_52 rfl rfl ?_
        exact r_iret C T dX6_doubledAt_53 ⟨rfl, trivial⟩
      · -- to 12
        refine r_iload_n C 1 dX6_doubledAt_12 rfl rfl ?_
        refine r_aload_n C 2 dX6_doubledAt_13 rfl rfl ?_
        refine r_get C (k := 9) (v := .ref (ad 10)) f_X6_9 (by decide) rfl rfl dX6_doubledAt_14 ?_
        refine r_iload_n C 0 dX6_doubledAt_17 rfl rfl ?_
        refine r_iald C (k := 10) (by decide) rfl (by omega) (σ 10 ((i : Int32).toInt.toNat)) rfl dX6_doubledAt_18 ?_
        refine r_iconst C (2) dX6_doubledAt_19 (by decide) ?_
        refine r_icmp_ne C 43 dX6_doubledAt_20 (by decide) (fun c_2 => ?_) (fun c_2 => ?_)
        · -- to 43
          refine r_iconst C (0) dX6_doubledAt_43 (by decide) ?_
          refine r_ior C dX6_doubledAt_44 ?_
          refine r_nm (P := fun z => z = (a : Int32) ||| (0)) rfl (fun z_3 hz_4 => ?_)
          refine r_istore_n C [(2, .int (z_3)), (3, .int (i)), (0, .ref (ad 9)), (1, .int (p))] dX6_doubledAt_45 rfl (by decide) rfl ?_
          refine r_iinc C 1 (fun z => [(3, .int (z)), (2, .int (z_3)), (0, .ref (ad 9)), (1, .int (p))]) dX6_doubledAt_46 rfl (by decide) (by decide) (by omega) (fun _ => rfl) (fun z_5 hz_6 => ?_)
          refine r_goto C 4 dX6_doubledAt_49 (by decide) ?_
          exact At.sub [0, 1, 2, 3] rfl (ih_4 (z_3 : Int32) (z_5 : Int32) (by omega) (by omega))
        · -- to 23
          refine r_aload_n C 2 dX6_doubledAt_23 rfl rfl ?_
          refine r_iload_n C 0 dX6_doubledAt_24 rfl rfl ?_
          refine r_iload_n C 3 dX6_doubledAt_25 rfl rfl ?_
          refine r_callV C (k := 9) [.int (i), .int (p)] [.int (a)] (c_X6_inForce E ad σ  (i) (p) (by omega)) lv_X6_44 (by decide) rfl rfl (by decide) (by decide) rfl rfl (Nat.le_of_ble_eq_true rfl) dX6_doubledAt_26 (fun r_7 τ_8 h_9 => ?_)
          obtain ⟨eh_9, h_9⟩ := h_9
          obtain rfl := eh_9.symm
          refine r_if_eq C 43 dX6_doubledAt_29 (by decide) (fun c_10 => ?_) (fun c_10 => ?_)
          · -- to 43
            refine r_iconst C (0) dX6_doubledAt_43 (by decide) ?_
            refine r_ior C dX6_doubledAt_44 ?_
            refine r_nm (P := fun z => z = (a : Int32) ||| (0)) rfl (fun z_11 hz_12 => ?_)
            refine r_istore_n C [(2, .int (z_11)), (3, .int (i)), (0, .ref (ad 9)), (1, .int (p))] dX6_doubledAt_45 rfl (by decide) rfl ?_
            refine r_iinc C 1 (fun z => [(3, .int (z)), (2, .int (z_11)), (0, .ref (ad 9)), (1, .int (p))]) dX6_doubledAt_46 rfl (by decide) (by decide) (by omega) (fun _ => rfl) (fun z_13 hz_14 => ?_)
            refine r_goto C 4 dX6_doubledAt_49 (by decide) ?_
            exact At.sub [0, 1, 2, 3] rfl (ih_4 (z_11 : Int32) (z_13 : Int32) (by omega) (by omega))
          · -- to 32
            refine r_iconst C (1) dX6_doubledAt_32 (by decide) ?_
            refine r_aload_n C 2 dX6_doubledAt_33 rfl rfl ?_
            refine r_get C (k := 9) (v := .ref (ad 11)) f_X6_15 (by decide) rfl rfl dX6_doubledAt_34 ?_
            refine r_iload_n C 0 dX6_doubledAt_37 rfl rfl ?_
            refine r_iald C (k := 11) (by decide) rfl (by omega) (σ 11 ((i : Int32).toInt.toNat)) rfl dX6_doubledAt_38 ?_
            refine r_ishl C dX6_doubledAt_39 ?_
            refine r_nm (P := fun z => z = (1 : Int32) <<< ((σ 11 ((i : Int32).toInt.toNat) : Int32) &&& 31)) rfl (fun z_15 hz_16 => ?_)
            refine r_goto C 44 dX6_doubledAt_40 (by decide) ?_
            refine r_ior C dX6_doubledAt_44 ?_
            refine r_nm (P := fun z => z = (a : Int32) ||| (z_15)) rfl (fun z_17 hz_18 => ?_)
            refine r_istore_n C [(2, .int (z_17)), (3, .int (i)), (0, .ref (ad 9)), (1, .int (p))] dX6_doubledAt_45 rfl (by decide) rfl ?_
            refine r_iinc C 1 (fun z => [(3, .int (z)), (2, .int (z_17)), (0, .ref (ad 9)), (1, .int (p))]) dX6_doubledAt_46 rfl (by decide) (by decide) (by omega) (fun _ => rfl) (fun z_19 hz_20 => ?_)
            refine r_goto C 4 dX6_doubledAt_49 (by decide) ?_
            exact At.sub [0, 1, 2, 3] rfl (ih_4 (z_17 : Int32) (z_19 : Int32) (by omega) (by omega))
  exact At.sub [0, 1, 2, 3] rfl (L_4 ((12 - (0 : Int32).toInt).toNat + 1) (0 : Int32) (0 : Int32) (by omega) (by omega))
set_option maxHeartbeats 4000000 in
set_option maxRecDepth 100000 in
theorem c_X6_barsBoth (E : Ev) (ad : Nat → Nat) (σ : Sg) (p : Int32) (q : Int32) (u : Int32) (v : Int32) (hI : IC σ) : Ct E ad yX6_barsBoth cX6_barsBoth 7 (some .boolean) 1 [.ref (ad 9), .int p, .int q, .int u, .int v] σ (fun r τ => τ = σ ∧ (r.toInt = 0 ∨ r.toInt = 1)) := by
  have k_m3 : (-3 : Int32).toInt = -3 := by decide
  have k_0 : (0 : Int32).toInt = 0 := by decide
  have k_1 : (1 : Int32).toInt = 1 := by decide
  have hJ := hI
  unfold IC at hJ
  refine ct_of RX6 rfl (by decide +kernel) [(0, .ref (ad 9)), (1, .int (p)), (2, .int (q)), (3, .int (u)), (4, .int (v))] rfl (Nat.le_of_ble_eq_true rfl) (fun G C T => ?_)
  refine r_iload_n C 3 dX6_barsBoth_0 rfl rfl ?_
  refine r_bipush C (-3) dX6_barsBoth_1 (by decide) ?_
  refine r_icmp_ne C 8 dX6_barsBoth_3 (by decide) (fun c_1 => ?_) (fun c_1 => ?_)
  · -- to 8
    refine r_iconst C (0) dX6_barsBoth_8 (by decide) ?_
    refine r_istore C [(5, .int (0)), (0, .ref (ad 9)), (1, .int (p)), (2, .int (q)), (3, .int (u)), (4, .int (v))] dX6_barsBoth_9 (by decide) rfl ?_
    have L_11 : ∀ (n : Nat), ∀ (i : Int32), (0 ≤ i.toInt ∧ i.toInt ≤ 12) → 12 - i.toInt < (n : Int) → At E ad G 7 11 [(5, .int (i)), (0, .ref (ad 9)), (1, .int (p)), (2, .int (q)), (3, .int (u)), (4, .int (v))] [] σ := by
      intro n
      induction n with
      | zero =>
        intro i hi hm
        exact absurd hm (by omega)
      | succ n ih =>
        intro i hi hm
        have ih_11 := ih
        clear ih
        refine r_iload C 0 dX6_barsBoth_11 rfl ?_
        refine r_aload_n C 1 dX6_barsBoth_13 rfl rfl ?_
        refine r_get C (k := 9) (v := .int (σ 9 6)) f_X6_30 (by decide) rfl rfl dX6_barsBoth_14 ?_
        refine r_icmp_ge C 117 dX6_barsBoth_17 (by decide) (fun c_2 => ?_) (fun c_2 => ?_)
        · -- to 117
          refine r_iconst C (0) dX6_barsBoth_117 (by decide) ?_
          exact r_zret C T dX6_barsBoth_118 (by omega) ⟨rfl, by omega⟩
        · -- to 20
          have L_69 : ∀ (b : Int32), At E ad G 7 69 [(5, .int (i)), (0, .ref (ad 9)), (1, .int (p)), (2, .int (q)), (3, .int (u)), (4, .int (v))] [.int (b)] σ := by
            intro b
            refine r_istore C [(6, .int (b)), (5, .int (i)), (0, .ref (ad 9)), (1, .int (p)), (2, .int (q)), (3, .int (u)), (4, .int (v))] dX6_barsBoth_69 (by decide) rfl ?_
            refine r_aload_n C 2 dX6_barsBoth_71 rfl rfl ?_
            refine r_get C (k := 9) (v := .ref (ad 10)) f_X6_9 (by decide) rfl rfl dX6_barsBoth_72 ?_
            refine r_iload C 1 dX6_barsBoth_75 rfl ?_
            refine r_iald C (k := 10) (by decide) rfl (by omega) (σ 10 ((i : Int32).toInt.toNat)) rfl dX6_barsBoth_77 ?_
            refine r_iconst C (1) dX6_barsBoth_78 (by decide) ?_
            refine r_icmp_ne C 111 dX6_barsBoth_79 (by decide) (fun c_3 => ?_) (fun c_3 => ?_)
            · -- to 111
              refine r_iinc C 1 (fun z => [(5, .int (z)), (6, .int (b)), (0, .ref (ad 9)), (1, .int (p)), (2, .int (q)), (3, .int (u)), (4, .int (v))]) dX6_barsBoth_111 rfl (by decide) (by decide) (by omega) (fun _ => rfl) (fun z_4 hz_5 => ?_)
              refine r_goto C 11 dX6_barsBoth_114 (by decide) ?_
              exact At.sub [0, 2, 3, 4, 5, 6] rfl (ih_11 (z_4 : Int32) (by omega) (by omega))
            · -- to 82
              refine r_iload C 0 dX6_barsBoth_82 rfl ?_
              refine r_if_eq C 111 dX6_barsBoth_84 (by decide) (fun c_6 => ?_) (fun c_6 => ?_)
              · -- to 111
                refine r_iinc C 1 (fun z => [(5, .int (z)), (6, .int (b)), (0, .ref (ad 9)), (1, .int (p)), (2, .int (q)), (3, .int (u)), (4, .int (v))]) dX6_barsBoth_111 rfl (by decide) (by decide) (by omega) (fun _ => rfl) (fun z_7 hz_8 => ?_)
                refine r_goto C 11 dX6_barsBoth_114 (by decide) ?_
                exact At.sub [0, 2, 3, 4, 5, 6] rfl (ih_11 (z_7 : Int32) (by omega) (by omega))
              · -- to 87
                refine r_iload_n C 5 dX6_barsBoth_87 rfl rfl ?_
                refine r_aload_n C 2 dX6_barsBoth_88 rfl rfl ?_
                refine r_get C (k := 9) (v := .ref (ad 13)) f_X6_21 (by decide) rfl rfl dX6_barsBoth_89 ?_
                refine r_iload C 1 dX6_barsBoth_92 rfl ?_
                refine r_iald C (k := 13) (by decide) rfl (by omega) (σ 13 ((i : Int32).toInt.toNat)) rfl dX6_barsBoth_94 ?_
                refine r_icmp_gt C 111 dX6_barsBoth_95 (by decide) (fun c_9 => ?_) (fun c_9 => ?_)
                · -- to 111
                  refine r_iinc C 1 (fun z => [(5, .int (z)), (6, .int (b)), (0, .ref (ad 9)), (1, .int (p)), (2, .int (q)), (3, .int (u)), (4, .int (v))]) dX6_barsBoth_111 rfl (by decide) (by decide) (by omega) (fun _ => rfl) (fun z_10 hz_11 => ?_)
                  refine r_goto C 11 dX6_barsBoth_114 (by decide) ?_
                  exact At.sub [0, 2, 3, 4, 5, 6] rfl (ih_11 (z_10 : Int32) (by omega) (by omega))
                · -- to 98
                  refine r_aload_n C 2 dX6_barsBoth_98 rfl rfl ?_
                  refine r_iload C 1 dX6_barsBoth_99 rfl ?_
                  refine r_iload C 6 dX6_barsBoth_101 rfl ?_
                  refine r_callV C (k := 9) [.int (i), .int (v)] [] (c_X6_inForce E ad σ  (i) (v) (by omega)) lv_X6_44 (by decide) rfl rfl (by decide) (by decide) rfl rfl (Nat.le_of_ble_eq_true rfl) dX6_barsBoth_103 (fun r_12 τ_13 h_14 => ?_)
                  obtain ⟨eh_14, h_14⟩ := h_14
                  obtain rfl := eh_14.symm
                  refine r_if_eq C 111 dX6_barsBoth_106 (by decide) (fun c_15 => ?_) (fun c_15 => ?_)
                  · -- to 111
                    refine r_iinc C 1 (fun z => [(5, .int (z)), (6, .int (b)), (0, .ref (ad 9)), (1, .int (p)), (2, .int (q)), (3, .int (u)), (4, .int (v))]) dX6_barsBoth_111 rfl (by decide) (by decide) (by omega) (fun _ => rfl) (fun z_16 hz_17 => ?_)
                    refine r_goto C 11 dX6_barsBoth_114 (by decide) ?_
                    exact At.sub [0, 2, 3, 4, 5, 6] rfl (ih_11 (z_16 : Int32) (by omega) (by omega))
                  · -- to 109
                    refine r_iconst C (1) dX6_barsBoth_109 (by decide) ?_
                    exact r_zret C T dX6_barsBoth_110 (by omega) ⟨rfl, by omega⟩
          refine r_aload_n C 1 dX6_barsBoth_20 rfl rfl ?_
          refine r_get C (k := 9) (v := .ref (ad 11)) f_X6_15 (by decide) rfl rfl dX6_barsBoth_21 ?_
          refine r_iload C 0 dX6_barsBoth_24 rfl ?_
          refine r_iald C (k := 11) (by decide) rfl (by omega) (σ 11 ((i : Int32).toInt.toNat)) rfl dX6_barsBoth_26 ?_
          refine r_iload_n C 2 dX6_barsBoth_27 rfl rfl ?_
          refine r_icmp_ne C 42 dX6_barsBoth_28 (by decide) (fun c_18 => ?_) (fun c_18 => ?_)
          · -- to 42
            refine r_aload_n C 1 dX6_barsBoth_42 rfl rfl ?_
            refine r_get C (k := 9) (v := .ref (ad 11)) f_X6_15 (by decide) rfl rfl dX6_barsBoth_43 ?_
            refine r_iload C 0 dX6_barsBoth_46 rfl ?_
            refine r_iald C (k := 11) (by decide) rfl (by omega) (σ 11 ((i : Int32).toInt.toNat)) rfl dX6_barsBoth_48 ?_
            refine r_iload_n C 3 dX6_barsBoth_49 rfl rfl ?_
            refine r_icmp_ne C 68 dX6_barsBoth_50 (by decide) (fun c_19 => ?_) (fun c_19 => ?_)
            · -- to 68
              refine r_iconst C (0) dX6_barsBoth_68 (by decide) ?_
              exact At.sub [0, 1, 2, 3, 4, 5] rfl (L_69 (0 : Int32) )
            · -- to 53
              refine r_aload_n C 1 dX6_barsBoth_53 rfl rfl ?_
              refine r_get C (k := 9) (v := .ref (ad 12)) f_X6_18 (by decide) rfl rfl dX6_barsBoth_54 ?_
              refine r_iload C 0 dX6_barsBoth_57 rfl ?_
              refine r_iald C (k := 12) (by decide) rfl (by omega) (σ 12 ((i : Int32).toInt.toNat)) rfl dX6_barsBoth_59 ?_
              refine r_iload_n C 2 dX6_barsBoth_60 rfl rfl ?_
              refine r_icmp_ne C 68 dX6_barsBoth_61 (by decide) (fun c_20 => ?_) (fun c_20 => ?_)
              · -- to 68
                refine r_iconst C (0) dX6_barsBoth_68 (by decide) ?_
                exact At.sub [0, 1, 2, 3, 4, 5] rfl (L_69 (0 : Int32) )
              · -- to 64
                refine r_iconst C (1) dX6_barsBoth_64 (by decide) ?_
                refine r_goto C 69 dX6_barsBoth_65 (by decide) ?_
                exact At.sub [0, 1, 2, 3, 4, 5] rfl (L_69 (1 : Int32) )
          · -- to 31
            refine r_aload_n C 1 dX6_barsBoth_31 rfl rfl ?_
            refine r_get C (k := 9) (v := .ref (ad 12)) f_X6_18 (by decide) rfl rfl dX6_barsBoth_32 ?_
            refine r_iload C 0 dX6_barsBoth_35 rfl ?_
            refine r_iald C (k := 12) (by decide) rfl (by omega) (σ 12 ((i : Int32).toInt.toNat)) rfl dX6_barsBoth_37 ?_
            refine r_iload_n C 3 dX6_barsBoth_38 rfl rfl ?_
            refine r_icmp_eq C 64 dX6_barsBoth_39 (by decide) (fun c_21 => ?_) (fun c_21 => ?_)
            · -- to 64
              refine r_iconst C (1) dX6_barsBoth_64 (by decide) ?_
              refine r_goto C 69 dX6_barsBoth_65 (by decide) ?_
              exact At.sub [0, 1, 2, 3, 4, 5] rfl (L_69 (1 : Int32) )
            · -- to 42
              refine r_aload_n C 1 dX6_barsBoth_42 rfl rfl ?_
              refine r_get C (k := 9) (v := .ref (ad 11)) f_X6_15 (by decide) rfl rfl dX6_barsBoth_43 ?_
              refine r_iload C 0 dX6_barsBoth_46 rfl ?_
              refine r_iald C (k := 11) (by decide) rfl (by omega) (σ 11 ((i : Int32).toInt.toNat)) rfl dX6_barsBoth_48 ?_
              refine r_iload_n C 3 dX6_barsBoth_49 rfl rfl ?_
              refine r_icmp_ne C 68 dX6_barsBoth_50 (by decide) (fun c_22 => ?_) (fun c_22 => ?_)
              · -- to 68
                refine r_iconst C (0) dX6_barsBoth_68 (by decide) ?_
                exact At.sub [0, 1, 2, 3, 4, 5] rfl (L_69 (0 : Int32) )
              · -- to 53
                refine r_aload_n C 1 dX6_barsBoth_53 rfl rfl ?_
                refine r_get C (k := 9) (v := .ref (ad 12)) f_X6_18 (by decide) rfl rfl dX6_barsBoth_54 ?_
                refine r_iload C 0 dX6_barsBoth_57 rfl ?_
                refine r_iald C (k := 12) (by decide) rfl (by omega) (σ 12 ((i : Int32).toInt.toNat)) rfl dX6_barsBoth_59 ?_
                refine r_iload_n C 2 dX6_barsBoth_60 rfl rfl ?_
                refine r_icmp_ne C 68 dX6_barsBoth_61 (by decide) (fun c_23 => ?_) (fun c_23 => ?_)
                · -- to 68
                  refine r_iconst C (0) dX6_barsBoth_68 (by decide) ?_
                  exact At.sub [0, 1, 2, 3, 4, 5] rfl (L_69 (0 : Int32) )
                · -- to 64
                  refine r_iconst C (1) dX6_barsBoth_64 (by decide) ?_
                  refine r_goto C 69 dX6_barsBoth_65 (by decide) ?_
                  exact At.sub [0, 1, 2, 3, 4, 5] rfl (L_69 (1 : Int32) )
    exact At.sub [0, 1, 2, 3, 4, 5] rfl (L_11 ((12 - (0 : Int32).toInt).toNat + 1) (0 : Int32) (by omega) (by omega))
  · -- to 6
    refine r_iconst C (0) dX6_barsBoth_6 (by decide) ?_
    exact r_zret C T dX6_barsBoth_7 (by omega) ⟨rfl, by omega⟩
end
section
/-- YOUR PART: from the entry, for every script of at most 4 ints, the law comes to its end with true -/
theorem whole_start {p : Program} {e : Env} {s : State} {m : MethodId} {below : List Frame} {meth : Method} {c : Code} (l : Launch) {b L : Nat} {xs : Nat → Int32} (hL : L ≤ 4) (C0 : lw_At p s m meth c b L xs) : W p l e room_1 s m #[Value.ref b] below meth c s.heap [] 0 0 (lw_Z below #[Value.ref b] s) (entryFrame m ([Value.ref b] : List Value).toArray 4) := by
  sorry
set_option maxHeartbeats 4000000 in
theorem lw_walk (l : Launch) (b : Addr) (xs : List Int32) : MetFree l x (headSpec (Jvm.Cond.code x code maxLocals ret :: tables_1) room_1) (lw_P b xs) (fun _ _ _ _ _ => True) lw_Q := by
  refine MetFree.of_bodyS (code := code) (maxLocals := maxLocals) (ret := ret) (by decide) ?_ ?_
  · intro args s m h hn
    obtain ⟨meth, c, h1, h2, h3, h4, h5, h6, -, -⟩ := Cond.code_spec hn (atoms_spec (ws := Jvm.Cond.code x code maxLocals ret :: tables_1) h _ List.mem_cons_self)
    exact ⟨meth, c, h1, h2, h3, h4, h5, h6⟩
  · intro p e s m args below meth c s₁ B hml0 hP _
    obtain ⟨rfl, hx, hbd, hgv⟩ := hP
    obtain ⟨scr, harrAt, hlist, hof, hsmall⟩ := hx
    obtain ⟨hcb, hkn, -, -⟩ := State.arrayAt?_spec harrAt
    have hown : s.vm.findClass R_law = some m.cls := findClass_of_methodNamed B.named
    have hts0 : ∀ c ∈ (Jvm.Cond.code x code maxLocals ret :: tables_1), c.before #[Value.ref b] s = true := atoms_spec (ws := Jvm.Cond.code x code maxLocals ret :: tables_1) B.pre
    have hts : ∀ w ∈ lw_tbl, w.before #[Value.ref b] s = true := k2_hts_sels lw_privs (fun w hw => hts0 w (List.mem_cons_of_mem _ hw)) lw_privs_ok
    have hml : c.maxLocals = 4 := B.maxLocals_eq (hts0 _ List.mem_cons_self)
    have X₀ : Stand p l e room_1 s m #[Value.ref b] below meth c s₁ [] 0 0 := Stand.of_body B
    have hh0 : s₁.heap = s.heap := by rw [B.state]; rfl
    have hsz : scr.slots.size = xs.length := by rw [← Array.length_toList, hlist, List.length_map]
    have hval : ∀ j : Nat, j < xs.length → scr.slots[j]? = some (.int (xs.getD j 0)) := fun j hj => by
      rw [← Array.getElem?_toList, hlist]
      simp [hj]
    have hbl : b < s.heap.size := (Array.getElem?_eq_some_iff.mp hcb).1
    have hX : va_X b xs.length (fun j => xs.getD j 0) s s.heap := ⟨scr, hcb, hof, hkn, hsz, hval⟩
    have K : W p l e room_1 s m #[Value.ref b] below meth c s₁.heap [] 0 0 (lw_Z below #[Value.ref b] s) (entryFrame m ([Value.ref b] : List Value).toArray 4) := by
      rw [hh0]
      exact whole_start l hbd ⟨B.exec, B.bytes, B.returns, hml, hown, hts, hX, hbl, B.notSynchronized, hgv⟩
    obtain ⟨t, a1, o, b1, b2, b3⟩ := K s₁ rfl X₀
    exact ⟨t, o, a1, b1, b2, b3⟩
theorem lw_pre_spec {args : Array Value} {s : State} (h : (Jvm.Cond.and given_1 narrow_1).before args s = true) (hr : rest_1_c.before args s = true) : ∃ (b : Addr) (xs : List Int32), lw_P b xs args s := by
  have hs := flat_of_before _ h
  have hq := flat_of_before _ hr
  have hc : (Cond.count 1).before args s = true := hs _ (by decide +kernel)
  have harr : (Cond.arrayOf (.arg 0) .int).before args s = true := hs _ (by decide +kernel)
  have hle : (Cond.le (.length (.arg 0)) (.int 4)).before args s = true := hs _ (by decide +kernel)
  have hlen : (Cond.isInt (.length (.arg 0))).before args s = true := hq _ (by decide +kernel)
  have hall : (Cond.all (.arg 0) (.isInt (.elem (.arg 0) (.index 0)))).before args s = true := hq _ (by decide +kernel)
  obtain ⟨b, xs, hb, hx⟩ := State.ints_of_pre rfl harr hlen hall
  have hsm : xs.length < 2 ^ 31 := hx.choose_spec.2.2.2
  have hev : (Term.length (.arg 0)).eval args s none [] s = some (.int xs.length.toInt32) := hx.length_eval hb
  have hv := Cond.le_ints hev (show (Term.int 4).eval args s none [] s = some (.int 4) from rfl)
  have hd : xs.length.toInt32 ≤ 4 := by
    simpa [Cond.before, Cond.holds, hv] using hle
  have hN : xs.length ≤ 4 := (Int32.ofNat_le_ofNat hsm (by decide)).mp (show Int32.ofNat xs.length ≤ Int32.ofNat 4 from hd)
  exact ⟨b, xs, Cond.one_arg hc (show args[0]? = some (.ref b) from hb), hx, hN, h⟩
theorem lw_comes (l : Launch) : Comes l x (Jvm.Cond.code x code maxLocals ret :: tables_1) room_1 (fun tb e args s => Calls_1 tb e args s ∧ rest_1 tb e args s ∧ Pre_1 tb e args s)
    (fun _ _ args s o t => lw_Q args s o t) := by
  intro p e ha hc hk s m args below hf hfit hheap happ hpre
  obtain ⟨b, xs, hP⟩ := lw_pre_spec hpre.2.2 hpre.2.1
  obtain ⟨k, o, h1, h2, h3, hQ⟩ := lw_walk l b xs p e ha hc hk s m args below hf ((Spec.applies_iff_loose hf).mp happ).1 hP trivial
  exact ⟨k, o, h1, h2, h3, hQ⟩
theorem lw_frame {s t : State} {o : Outcome} {args : Array Value} (h : Framed s o t [] 600000 7302249) :
    Framed s o t (fieldLocs frame_1_writes args s ++ arrayLocs frame_1_arrays args s ++ staticLocs frame_1_statics s) 600000 7302249 := h
theorem lw_limb (L : Cond) (hL : ∀ (args : Array Value) (s t : State), L.after args s (.returned (some (.int 1))) t = true) :
    ArmFor flags0 classFile x code maxLocals ret World_1 tables_1 room_1 Calls_1 rest_1 Pre_1
      (fun tb e a s o t => postC L tb e a s o t ∧ Framed s o t (fieldLocs frame_1_writes a s ++ arrayLocs frame_1_arrays a s ++ staticLocs frame_1_statics s) 600000 7302249) := by
  intro l _ _ _ p e ha hc hk s m args below hf hfit hheap happ hpre
  obtain ⟨k, o, h1, h2, h3, rfl, hF⟩ := lw_comes l p e ha hc hk s m args below hf hfit hheap happ hpre
  exact ⟨k, _, h1, h2, h3, hL args s _, lw_frame hF⟩
theorem i_vc : Claimed_1_1 ∧ Claimed_1_2 := ⟨lw_limb limb_1_1 (fun args s t => by simp [limb_1_1, Cond.after, Cond.holds, Cond.value]), lw_limb limb_1_2 (fun args s t => Cond.after_iff.mpr (by
  first | (rw [show limb_1_2 = Cond.eq .result (.int 1) from rfl, Cond.eq_ints (x := 1) (y := 1) rfl rfl]; simp; done) | (simp [limb_1_2, Cond.value, Term.eval]; done)))⟩
end
