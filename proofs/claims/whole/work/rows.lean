section
-- ===== PART A: goes FIRST, ahead of the names: the tables' words, and 'selects' of the private methods out of them =====
/-- a private method of a class that the tables say can be made, by its rows of tables_1 -/
def lw_okq (q : MethodName × Nat) : Prop := (q.1.cls ≠ "java/lang/invoke/MethodHandle" ∧ q.1.cls ≠ "java/lang/invoke/VarHandle") ∧ Cond.instantiable q.1.cls q.2 ∈ tables_1 ∧ Cond.privateMethod q.1 ∈ tables_1 ∧ Cond.instanceMethod q.1 ∈ tables_1
theorem lw_p0 : lw_okq (⟨"VisitHall$Gate", "reasonOfPeople", "(LVisitHall$Visit;)I"⟩, 6) := ⟨⟨by decide +kernel, by decide +kernel⟩, List.mem_of_getElem? (i := 140) (by decide +kernel), List.mem_of_getElem? (i := 381) (by decide +kernel), List.mem_of_getElem? (i := 382) (by decide +kernel)⟩
theorem lw_p1 : lw_okq (⟨"VisitHall$Gate", "reasonOfRight", "(LVisitHall$Visit;)I"⟩, 6) := ⟨⟨by decide +kernel, by decide +kernel⟩, List.mem_of_getElem? (i := 140) (by decide +kernel), List.mem_of_getElem? (i := 398) (by decide +kernel), List.mem_of_getElem? (i := 399) (by decide +kernel)⟩
theorem lw_p2 : lw_okq (⟨"VisitHall$Gate", "mostInSpan", "(LVisitHall$Visit;I)I"⟩, 6) := ⟨⟨by decide +kernel, by decide +kernel⟩, List.mem_of_getElem? (i := 140) (by decide +kernel), List.mem_of_getElem? (i := 412) (by decide +kernel), List.mem_of_getElem? (i := 413) (by decide +kernel)⟩
theorem lw_p3 : lw_okq (⟨"VisitHall$Gate", "tallyAround", "(LVisitHall$Visit;I)V"⟩, 6) := ⟨⟨by decide +kernel, by decide +kernel⟩, List.mem_of_getElem? (i := 140) (by decide +kernel), List.mem_of_getElem? (i := 416) (by decide +kernel), List.mem_of_getElem? (i := 417) (by decide +kernel)⟩
theorem lw_p4 : lw_okq (⟨"VisitHall$Gate", "reasonOfHall", "(LVisitHall$Visit;)I"⟩, 6) := ⟨⟨by decide +kernel, by decide +kernel⟩, List.mem_of_getElem? (i := 140) (by decide +kernel), List.mem_of_getElem? (i := 428) (by decide +kernel), List.mem_of_getElem? (i := 429) (by decide +kernel)⟩
theorem lw_p5 : lw_okq (⟨"VisitHall$Gate", "meetsRivals", "(LVisitHall$Visit;)Z"⟩, 6) := ⟨⟨by decide +kernel, by decide +kernel⟩, List.mem_of_getElem? (i := 140) (by decide +kernel), List.mem_of_getElem? (i := 444) (by decide +kernel), List.mem_of_getElem? (i := 445) (by decide +kernel)⟩
theorem lw_p6 : lw_okq (⟨"VisitHall$Gate", "marksRoom", "(LVisitHall$Visit;)Z"⟩, 6) := ⟨⟨by decide +kernel, by decide +kernel⟩, List.mem_of_getElem? (i := 140) (by decide +kernel), List.mem_of_getElem? (i := 470) (by decide +kernel), List.mem_of_getElem? (i := 471) (by decide +kernel)⟩
theorem lw_p7 : lw_okq (⟨"VisitHall$RightReader", "nextNumber", "(II)I"⟩, 4) := ⟨⟨by decide +kernel, by decide +kernel⟩, List.mem_of_getElem? (i := 76) (by decide +kernel), List.mem_of_getElem? (i := 576) (by decide +kernel), List.mem_of_getElem? (i := 577) (by decide +kernel)⟩
theorem lw_p8 : lw_okq (⟨"VisitHall$RightReader", "next", "()V"⟩, 4) := ⟨⟨by decide +kernel, by decide +kernel⟩, List.mem_of_getElem? (i := 76) (by decide +kernel), List.mem_of_getElem? (i := 580) (by decide +kernel), List.mem_of_getElem? (i := 581) (by decide +kernel)⟩
theorem lw_p9 : lw_okq (⟨"VisitHall$RightReader", "wordAsNumber", "()I"⟩, 4) := ⟨⟨by decide +kernel, by decide +kernel⟩, List.mem_of_getElem? (i := 76) (by decide +kernel), List.mem_of_getElem? (i := 588) (by decide +kernel), List.mem_of_getElem? (i := 589) (by decide +kernel)⟩
theorem lw_p10 : lw_okq (⟨"VisitHall$RightReader", "refuse", "()V"⟩, 4) := ⟨⟨by decide +kernel, by decide +kernel⟩, List.mem_of_getElem? (i := 76) (by decide +kernel), List.mem_of_getElem? (i := 596) (by decide +kernel), List.mem_of_getElem? (i := 597) (by decide +kernel)⟩
theorem lw_p11 : lw_okq (⟨"VisitHall$RightReader", "nextMustBe", "(Ljava/lang/String;)V"⟩, 4) := ⟨⟨by decide +kernel, by decide +kernel⟩, List.mem_of_getElem? (i := 76) (by decide +kernel), List.mem_of_getElem? (i := 601) (by decide +kernel), List.mem_of_getElem? (i := 602) (by decide +kernel)⟩
theorem lw_p12 : lw_okq (⟨"VisitHall$RightReader", "isWord", "(Ljava/lang/String;)Z"⟩, 4) := ⟨⟨by decide +kernel, by decide +kernel⟩, List.mem_of_getElem? (i := 76) (by decide +kernel), List.mem_of_getElem? (i := 605) (by decide +kernel), List.mem_of_getElem? (i := 606) (by decide +kernel)⟩
theorem lw_p13 : lw_okq (⟨"VisitHall$RightReader", "readFar", "(LVisitHall$Right;)V"⟩, 4) := ⟨⟨by decide +kernel, by decide +kernel⟩, List.mem_of_getElem? (i := 76) (by decide +kernel), List.mem_of_getElem? (i := 657) (by decide +kernel), List.mem_of_getElem? (i := 658) (by decide +kernel)⟩
theorem lw_p14 : lw_okq (⟨"VisitHall$RightReader", "readLong", "(LVisitHall$Right;)V"⟩, 4) := ⟨⟨by decide +kernel, by decide +kernel⟩, List.mem_of_getElem? (i := 76) (by decide +kernel), List.mem_of_getElem? (i := 663) (by decide +kernel), List.mem_of_getElem? (i := 664) (by decide +kernel)⟩
theorem lw_p15 : lw_okq (⟨"VisitHall$RightReader", "readNot", "(LVisitHall$Right;)V"⟩, 4) := ⟨⟨by decide +kernel, by decide +kernel⟩, List.mem_of_getElem? (i := 76) (by decide +kernel), List.mem_of_getElem? (i := 668) (by decide +kernel), List.mem_of_getElem? (i := 669) (by decide +kernel)⟩
def lw_privs_1 : List (MethodName × Nat) := [(⟨"VisitHall$Gate", "reasonOfPeople", "(LVisitHall$Visit;)I"⟩, 6), (⟨"VisitHall$Gate", "reasonOfRight", "(LVisitHall$Visit;)I"⟩, 6), (⟨"VisitHall$Gate", "mostInSpan", "(LVisitHall$Visit;I)I"⟩, 6), (⟨"VisitHall$Gate", "tallyAround", "(LVisitHall$Visit;I)V"⟩, 6), (⟨"VisitHall$Gate", "reasonOfHall", "(LVisitHall$Visit;)I"⟩, 6), (⟨"VisitHall$Gate", "meetsRivals", "(LVisitHall$Visit;)Z"⟩, 6), (⟨"VisitHall$Gate", "marksRoom", "(LVisitHall$Visit;)Z"⟩, 6), (⟨"VisitHall$RightReader", "nextNumber", "(II)I"⟩, 4), (⟨"VisitHall$RightReader", "next", "()V"⟩, 4), (⟨"VisitHall$RightReader", "wordAsNumber", "()I"⟩, 4), (⟨"VisitHall$RightReader", "refuse", "()V"⟩, 4), (⟨"VisitHall$RightReader", "nextMustBe", "(Ljava/lang/String;)V"⟩, 4), (⟨"VisitHall$RightReader", "isWord", "(Ljava/lang/String;)Z"⟩, 4), (⟨"VisitHall$RightReader", "readFar", "(LVisitHall$Right;)V"⟩, 4), (⟨"VisitHall$RightReader", "readLong", "(LVisitHall$Right;)V"⟩, 4), (⟨"VisitHall$RightReader", "readNot", "(LVisitHall$Right;)V"⟩, 4)]
theorem lw_r1 : ∀ q ∈ lw_privs_1, lw_okq q := List.forall_mem_cons.mpr ⟨lw_p0, List.forall_mem_cons.mpr ⟨lw_p1, List.forall_mem_cons.mpr ⟨lw_p2, List.forall_mem_cons.mpr ⟨lw_p3, List.forall_mem_cons.mpr ⟨lw_p4, List.forall_mem_cons.mpr ⟨lw_p5, List.forall_mem_cons.mpr ⟨lw_p6, List.forall_mem_cons.mpr ⟨lw_p7, List.forall_mem_cons.mpr ⟨lw_p8, List.forall_mem_cons.mpr ⟨lw_p9, List.forall_mem_cons.mpr ⟨lw_p10, List.forall_mem_cons.mpr ⟨lw_p11, List.forall_mem_cons.mpr ⟨lw_p12, List.forall_mem_cons.mpr ⟨lw_p13, List.forall_mem_cons.mpr ⟨lw_p14, List.forall_mem_cons.mpr ⟨lw_p15, fun _ h => absurd h List.not_mem_nil⟩⟩⟩⟩⟩⟩⟩⟩⟩⟩⟩⟩⟩⟩⟩⟩
theorem lw_p16 : lw_okq (⟨"VisitHall", "canBeAsked", "(IIII)Z"⟩, 9) := ⟨⟨by decide +kernel, by decide +kernel⟩, List.mem_of_getElem? (i := 22) (by decide +kernel), List.mem_of_getElem? (i := 683) (by decide +kernel), List.mem_of_getElem? (i := 684) (by decide +kernel)⟩
theorem lw_p17 : lw_okq (⟨"VisitHallModel", "isVisitor", "(I)Z"⟩, 44) := ⟨⟨by decide +kernel, by decide +kernel⟩, List.mem_of_getElem? (i := 832) (by decide +kernel), List.mem_of_getElem? (i := 989) (by decide +kernel), List.mem_of_getElem? (i := 990) (by decide +kernel)⟩
theorem lw_p18 : lw_okq (⟨"VisitHallModel", "isPrisoner", "(I)Z"⟩, 44) := ⟨⟨by decide +kernel, by decide +kernel⟩, List.mem_of_getElem? (i := 832) (by decide +kernel), List.mem_of_getElem? (i := 997) (by decide +kernel), List.mem_of_getElem? (i := 998) (by decide +kernel)⟩
theorem lw_p19 : lw_okq (⟨"VisitHallModel", "walk", "()I"⟩, 44) := ⟨⟨by decide +kernel, by decide +kernel⟩, List.mem_of_getElem? (i := 832) (by decide +kernel), List.mem_of_getElem? (i := 1013) (by decide +kernel), List.mem_of_getElem? (i := 1014) (by decide +kernel)⟩
theorem lw_p20 : lw_okq (⟨"VisitHallModel", "refusal", "(IIIIIZ)I"⟩, 44) := ⟨⟨by decide +kernel, by decide +kernel⟩, List.mem_of_getElem? (i := 832) (by decide +kernel), List.mem_of_getElem? (i := 1017) (by decide +kernel), List.mem_of_getElem? (i := 1018) (by decide +kernel)⟩
theorem lw_p21 : lw_okq (⟨"VisitHallModel", "reason", "(IIIII)I"⟩, 44) := ⟨⟨by decide +kernel, by decide +kernel⟩, List.mem_of_getElem? (i := 832) (by decide +kernel), List.mem_of_getElem? (i := 1021) (by decide +kernel), List.mem_of_getElem? (i := 1022) (by decide +kernel)⟩
theorem lw_p22 : lw_okq (⟨"VisitHallModel", "isUnlisted", "(II)Z"⟩, 44) := ⟨⟨by decide +kernel, by decide +kernel⟩, List.mem_of_getElem? (i := 832) (by decide +kernel), List.mem_of_getElem? (i := 1025) (by decide +kernel), List.mem_of_getElem? (i := 1026) (by decide +kernel)⟩
theorem lw_p23 : lw_okq (⟨"VisitHallModel", "isBarred", "(III)Z"⟩, 44) := ⟨⟨by decide +kernel, by decide +kernel⟩, List.mem_of_getElem? (i := 832) (by decide +kernel), List.mem_of_getElem? (i := 1029) (by decide +kernel), List.mem_of_getElem? (i := 1030) (by decide +kernel)⟩
theorem lw_p24 : lw_okq (⟨"VisitHallModel", "isChildAlone", "(I)Z"⟩, 44) := ⟨⟨by decide +kernel, by decide +kernel⟩, List.mem_of_getElem? (i := 832) (by decide +kernel), List.mem_of_getElem? (i := 1033) (by decide +kernel), List.mem_of_getElem? (i := 1034) (by decide +kernel)⟩
theorem lw_p25 : lw_okq (⟨"VisitHallModel", "isLawyers", "(I)Z"⟩, 44) := ⟨⟨by decide +kernel, by decide +kernel⟩, List.mem_of_getElem? (i := 832) (by decide +kernel), List.mem_of_getElem? (i := 1037) (by decide +kernel), List.mem_of_getElem? (i := 1038) (by decide +kernel)⟩
theorem lw_p26 : lw_okq (⟨"VisitHallModel", "isTooMany", "(III)Z"⟩, 44) := ⟨⟨by decide +kernel, by decide +kernel⟩, List.mem_of_getElem? (i := 832) (by decide +kernel), List.mem_of_getElem? (i := 1041) (by decide +kernel), List.mem_of_getElem? (i := 1042) (by decide +kernel)⟩
theorem lw_p27 : lw_okq (⟨"VisitHallModel", "meets", "(IIII)Z"⟩, 44) := ⟨⟨by decide +kernel, by decide +kernel⟩, List.mem_of_getElem? (i := 832) (by decide +kernel), List.mem_of_getElem? (i := 1046) (by decide +kernel), List.mem_of_getElem? (i := 1047) (by decide +kernel)⟩
theorem lw_p28 : lw_okq (⟨"VisitHallModel", "letAt", "(II)I"⟩, 44) := ⟨⟨by decide +kernel, by decide +kernel⟩, List.mem_of_getElem? (i := 832) (by decide +kernel), List.mem_of_getElem? (i := 1050) (by decide +kernel), List.mem_of_getElem? (i := 1051) (by decide +kernel)⟩
theorem lw_p29 : lw_okq (⟨"VisitHallModel", "isAt", "(III)Z"⟩, 44) := ⟨⟨by decide +kernel, by decide +kernel⟩, List.mem_of_getElem? (i := 832) (by decide +kernel), List.mem_of_getElem? (i := 1054) (by decide +kernel), List.mem_of_getElem? (i := 1055) (by decide +kernel)⟩
theorem lw_p30 : lw_okq (⟨"VisitHallModel", "tablesOn", "(I)I"⟩, 44) := ⟨⟨by decide +kernel, by decide +kernel⟩, List.mem_of_getElem? (i := 832) (by decide +kernel), List.mem_of_getElem? (i := 1058) (by decide +kernel), List.mem_of_getElem? (i := 1059) (by decide +kernel)⟩
theorem lw_p31 : lw_okq (⟨"VisitHallModel", "makesRoom", "(IIIZ)Z"⟩, 44) := ⟨⟨by decide +kernel, by decide +kernel⟩, List.mem_of_getElem? (i := 832) (by decide +kernel), List.mem_of_getElem? (i := 1062) (by decide +kernel), List.mem_of_getElem? (i := 1063) (by decide +kernel)⟩
def lw_privs_2 : List (MethodName × Nat) := [(⟨"VisitHall", "canBeAsked", "(IIII)Z"⟩, 9), (⟨"VisitHallModel", "isVisitor", "(I)Z"⟩, 44), (⟨"VisitHallModel", "isPrisoner", "(I)Z"⟩, 44), (⟨"VisitHallModel", "walk", "()I"⟩, 44), (⟨"VisitHallModel", "refusal", "(IIIIIZ)I"⟩, 44), (⟨"VisitHallModel", "reason", "(IIIII)I"⟩, 44), (⟨"VisitHallModel", "isUnlisted", "(II)Z"⟩, 44), (⟨"VisitHallModel", "isBarred", "(III)Z"⟩, 44), (⟨"VisitHallModel", "isChildAlone", "(I)Z"⟩, 44), (⟨"VisitHallModel", "isLawyers", "(I)Z"⟩, 44), (⟨"VisitHallModel", "isTooMany", "(III)Z"⟩, 44), (⟨"VisitHallModel", "meets", "(IIII)Z"⟩, 44), (⟨"VisitHallModel", "letAt", "(II)I"⟩, 44), (⟨"VisitHallModel", "isAt", "(III)Z"⟩, 44), (⟨"VisitHallModel", "tablesOn", "(I)I"⟩, 44), (⟨"VisitHallModel", "makesRoom", "(IIIZ)Z"⟩, 44)]
theorem lw_r2 : ∀ q ∈ lw_privs_2, lw_okq q := List.forall_mem_cons.mpr ⟨lw_p16, List.forall_mem_cons.mpr ⟨lw_p17, List.forall_mem_cons.mpr ⟨lw_p18, List.forall_mem_cons.mpr ⟨lw_p19, List.forall_mem_cons.mpr ⟨lw_p20, List.forall_mem_cons.mpr ⟨lw_p21, List.forall_mem_cons.mpr ⟨lw_p22, List.forall_mem_cons.mpr ⟨lw_p23, List.forall_mem_cons.mpr ⟨lw_p24, List.forall_mem_cons.mpr ⟨lw_p25, List.forall_mem_cons.mpr ⟨lw_p26, List.forall_mem_cons.mpr ⟨lw_p27, List.forall_mem_cons.mpr ⟨lw_p28, List.forall_mem_cons.mpr ⟨lw_p29, List.forall_mem_cons.mpr ⟨lw_p30, List.forall_mem_cons.mpr ⟨lw_p31, fun _ h => absurd h List.not_mem_nil⟩⟩⟩⟩⟩⟩⟩⟩⟩⟩⟩⟩⟩⟩⟩⟩
theorem lw_p32 : lw_okq (⟨"VisitHallModel", "four", "(I)V"⟩, 44) := ⟨⟨by decide +kernel, by decide +kernel⟩, List.mem_of_getElem? (i := 832) (by decide +kernel), List.mem_of_getElem? (i := 1082) (by decide +kernel), List.mem_of_getElem? (i := 1083) (by decide +kernel)⟩
theorem lw_p33 : lw_okq (⟨"VisitHallModel", "readRight", "()I"⟩, 44) := ⟨⟨by decide +kernel, by decide +kernel⟩, List.mem_of_getElem? (i := 832) (by decide +kernel), List.mem_of_getElem? (i := 1094) (by decide +kernel), List.mem_of_getElem? (i := 1095) (by decide +kernel)⟩
theorem lw_p34 : lw_okq (⟨"VisitHallModel", "next", "()V"⟩, 44) := ⟨⟨by decide +kernel, by decide +kernel⟩, List.mem_of_getElem? (i := 832) (by decide +kernel), List.mem_of_getElem? (i := 1098) (by decide +kernel), List.mem_of_getElem? (i := 1099) (by decide +kernel)⟩
theorem lw_p35 : lw_okq (⟨"VisitHallModel", "number", "()I"⟩, 44) := ⟨⟨by decide +kernel, by decide +kernel⟩, List.mem_of_getElem? (i := 832) (by decide +kernel), List.mem_of_getElem? (i := 1102) (by decide +kernel), List.mem_of_getElem? (i := 1103) (by decide +kernel)⟩
theorem lw_p36 : lw_okq (⟨"VisitHallModel", "here", "()I"⟩, 44) := ⟨⟨by decide +kernel, by decide +kernel⟩, List.mem_of_getElem? (i := 832) (by decide +kernel), List.mem_of_getElem? (i := 1106) (by decide +kernel), List.mem_of_getElem? (i := 1107) (by decide +kernel)⟩
theorem lw_p37 : lw_okq (⟨"VisitHallModel", "isWord", "(IIII)Z"⟩, 44) := ⟨⟨by decide +kernel, by decide +kernel⟩, List.mem_of_getElem? (i := 832) (by decide +kernel), List.mem_of_getElem? (i := 1110) (by decide +kernel), List.mem_of_getElem? (i := 1111) (by decide +kernel)⟩
theorem lw_p38 : lw_okq (⟨"VisitHallModel", "isAsked", "(IIII)Z"⟩, 44) := ⟨⟨by decide +kernel, by decide +kernel⟩, List.mem_of_getElem? (i := 832) (by decide +kernel), List.mem_of_getElem? (i := 1122) (by decide +kernel), List.mem_of_getElem? (i := 1123) (by decide +kernel)⟩
theorem lw_p39 : lw_okq (⟨"VisitHallModel", "isVisit", "(I)Z"⟩, 44) := ⟨⟨by decide +kernel, by decide +kernel⟩, List.mem_of_getElem? (i := 832) (by decide +kernel), List.mem_of_getElem? (i := 1137) (by decide +kernel), List.mem_of_getElem? (i := 1138) (by decide +kernel)⟩
def lw_privs_3 : List (MethodName × Nat) := [(⟨"VisitHallModel", "four", "(I)V"⟩, 44), (⟨"VisitHallModel", "readRight", "()I"⟩, 44), (⟨"VisitHallModel", "next", "()V"⟩, 44), (⟨"VisitHallModel", "number", "()I"⟩, 44), (⟨"VisitHallModel", "here", "()I"⟩, 44), (⟨"VisitHallModel", "isWord", "(IIII)Z"⟩, 44), (⟨"VisitHallModel", "isAsked", "(IIII)Z"⟩, 44), (⟨"VisitHallModel", "isVisit", "(I)Z"⟩, 44)]
theorem lw_r3 : ∀ q ∈ lw_privs_3, lw_okq q := List.forall_mem_cons.mpr ⟨lw_p32, List.forall_mem_cons.mpr ⟨lw_p33, List.forall_mem_cons.mpr ⟨lw_p34, List.forall_mem_cons.mpr ⟨lw_p35, List.forall_mem_cons.mpr ⟨lw_p36, List.forall_mem_cons.mpr ⟨lw_p37, List.forall_mem_cons.mpr ⟨lw_p38, List.forall_mem_cons.mpr ⟨lw_p39, fun _ h => absurd h List.not_mem_nil⟩⟩⟩⟩⟩⟩⟩⟩
def lw_privs : List (MethodName × Nat) := lw_privs_1 ++ (lw_privs_2 ++ (lw_privs_3))
def lw_tbl : List Cond := k2_sels lw_privs ++ tables_1
theorem lw_privs_ok : ∀ q ∈ lw_privs, lw_okq q := by
  show ∀ q ∈ lw_privs_1 ++ (lw_privs_2 ++ (lw_privs_3)), lw_okq q
  exact List.forall_mem_append.mpr ⟨lw_r1, List.forall_mem_append.mpr ⟨lw_r2, lw_r3⟩⟩
end
section
def RX0 : String := "VisitHall$Book"
def TX0 : u_T := fun k => match k with
  | 0 => ("VisitHall$Book", "visits", "[LVisitHall$Visit;", true)
  | 1 => ("VisitHall$Book", "size", "I", false)
  | _ => ("VisitHall$Book", "today", "I", false)
def tyX0 : Nat → FieldType := fun k => match k with
  | 0 => .array (.object "VisitHall$Visit")
  | 1 => .int
  | _ => .int
abbrev wsX00 : List Cond := u_ws RX0 TX0 3
theorem nmX0 : ∀ a, a < 3 → ∀ b, b < 3 → a ≠ b → (TX0 a).2.1 ≠ (TX0 b).2.1 := by decide +kernel
theorem tyX0_ok : ∀ k, k < 3 → parseFieldDescriptor (TX0 k).2.2.1 = some (tyX0 k) := by decide +kernel
abbrev cX0_init : ByteArray := prog_2_method_1_code
def yX0_init : MethodName := ⟨RX0, "<init>", "()V"⟩
abbrev cX0_isFull : ByteArray := prog_2_method_2_code
def yX0_isFull : MethodName := ⟨RX0, "isFull", "()Z"⟩
abbrev cX0_enter : ByteArray := prog_2_method_3_code
def yX0_enter : MethodName := ⟨RX0, "enter", "(LVisitHall$Visit;)I"⟩
abbrev cX0_at : ByteArray := prog_2_method_4_code
def yX0_at : MethodName := ⟨RX0, "at", "(I)LVisitHall$Visit;"⟩
abbrev cX0_inState : ByteArray := prog_2_method_5_code
def yX0_inState : MethodName := ⟨RX0, "inState", "(I)I"⟩
abbrev cX0_letAhead : ByteArray := prog_2_method_6_code
def yX0_letAhead : MethodName := ⟨RX0, "letAhead", "(I)I"⟩
abbrev cX0_letAt : ByteArray := prog_2_method_7_code
def yX0_letAt : MethodName := ⟨RX0, "letAt", "(II)I"⟩
abbrev cX0_lastThatYields : ByteArray := prog_2_method_8_code
def yX0_lastThatYields : MethodName := ⟨RX0, "lastThatYields", "(II)LVisitHall$Visit;"⟩
abbrev cX0_giveBackAll : ByteArray := prog_2_method_9_code
def yX0_giveBackAll : MethodName := ⟨RX0, "giveBackAll", "(III)I"⟩
abbrev cX0_hasMeetingOfSamePeople : ByteArray := prog_2_method_10_code
def yX0_hasMeetingOfSamePeople : MethodName := ⟨RX0, "hasMeetingOfSamePeople", "(LVisitHall$Visit;)Z"⟩
abbrev cX0_keepAll : ByteArray := prog_2_method_11_code
def yX0_keepAll : MethodName := ⟨RX0, "keepAll", "()V"⟩
abbrev cX0_sendLeaversToWait : ByteArray := prog_2_method_12_code
def yX0_sendLeaversToWait : MethodName := ⟨RX0, "sendLeaversToWait", "()V"⟩
def RX1 : String := "VisitHall$Gate"
def TX1 : u_T := fun k => match k with
  | 0 => ("VisitHall$Gate", "people", "LVisitHall$People;", true)
  | 1 => ("VisitHall$Gate", "rights", "[LVisitHall$Right;", true)
  | 2 => ("VisitHall$Gate", "book", "LVisitHall$Book;", true)
  | 3 => ("VisitHall$Gate", "tablesByDay", "LVisitHall$Sheet;", true)
  | 4 => ("VisitHall$Gate", "tables", "I", false)
  | _ => ("VisitHall$Gate", "tally", "[I", true)
def tyX1 : Nat → FieldType := fun k => match k with
  | 0 => .object "VisitHall$People"
  | 1 => .array (.object "VisitHall$Right")
  | 2 => .object "VisitHall$Book"
  | 3 => .object "VisitHall$Sheet"
  | 4 => .int
  | _ => .array .int
abbrev wsX10 : List Cond := u_ws RX1 TX1 6
theorem nmX1 : ∀ a, a < 6 → ∀ b, b < 6 → a ≠ b → (TX1 a).2.1 ≠ (TX1 b).2.1 := by decide +kernel
theorem tyX1_ok : ∀ k, k < 6 → parseFieldDescriptor (TX1 k).2.2.1 = some (tyX1 k) := by decide +kernel
abbrev cX1_init : ByteArray := prog_3_method_1_code
def yX1_init : MethodName := ⟨RX1, "<init>", "(LVisitHall$People;[LVisitHall$Right;LVisitHall$Book;LVisitHall$Sheet;)V"⟩
abbrev cX1_tablesOn : ByteArray := prog_3_method_2_code
def yX1_tablesOn : MethodName := ⟨RX1, "tablesOn", "(I)I"⟩
abbrev cX1_reason : ByteArray := prog_3_method_3_code
def yX1_reason : MethodName := ⟨RX1, "reason", "(LVisitHall$Visit;)I"⟩
abbrev cX1_admit : ByteArray := prog_3_method_4_code
def nmX1_admit : String := match (lw_tbl[521]? : Option Cond) with
  | some (Cond.methodLink _ _ m) => m.name
  | _ => ""
def yX1_admit : MethodName := ⟨RX1, nmX1_admit, "(LVisitHall$Visit;)V"⟩
abbrev cX1_letWaiting : ByteArray := prog_3_method_5_code
def yX1_letWaiting : MethodName := ⟨RX1, "letWaiting", "()I"⟩
abbrev cX1_reasonOfPeople : ByteArray := prog_3_method_6_code
def yX1_reasonOfPeople : MethodName := ⟨RX1, "reasonOfPeople", "(LVisitHall$Visit;)I"⟩
abbrev cX1_reasonOfRight : ByteArray := prog_3_method_7_code
def yX1_reasonOfRight : MethodName := ⟨RX1, "reasonOfRight", "(LVisitHall$Visit;)I"⟩
abbrev cX1_mostInSpan : ByteArray := prog_3_method_8_code
def yX1_mostInSpan : MethodName := ⟨RX1, "mostInSpan", "(LVisitHall$Visit;I)I"⟩
abbrev cX1_tallyAround : ByteArray := prog_3_method_9_code
def yX1_tallyAround : MethodName := ⟨RX1, "tallyAround", "(LVisitHall$Visit;I)V"⟩
abbrev cX1_reasonOfHall : ByteArray := prog_3_method_10_code
def yX1_reasonOfHall : MethodName := ⟨RX1, "reasonOfHall", "(LVisitHall$Visit;)I"⟩
abbrev cX1_meetsRivals : ByteArray := prog_3_method_11_code
def yX1_meetsRivals : MethodName := ⟨RX1, "meetsRivals", "(LVisitHall$Visit;)Z"⟩
abbrev cX1_marksRoom : ByteArray := prog_3_method_12_code
def yX1_marksRoom : MethodName := ⟨RX1, "marksRoom", "(LVisitHall$Visit;)Z"⟩
def RX2 : String := "VisitHall$People"
def TX2 : u_T := fun k => match k with
  | 0 => ("VisitHall$People", "prisoners", "[LVisitHall$Prisoner;", true)
  | 1 => ("VisitHall$People", "prisonerCount", "I", false)
  | 2 => ("VisitHall$People", "bitsOfKind", "[I", true)
  | 3 => ("VisitHall$People", "ways", "[I", true)
  | 4 => ("VisitHall$People", "visitorCount", "I", false)
  | _ => ("VisitHall$People", "rivalBits", "[I", true)
def tyX2 : Nat → FieldType := fun k => match k with
  | 0 => .array (.object "VisitHall$Prisoner")
  | 1 => .int
  | 2 => .array .int
  | 3 => .array .int
  | 4 => .int
  | _ => .array .int
abbrev wsX20 : List Cond := u_ws RX2 TX2 6
theorem nmX2 : ∀ a, a < 6 → ∀ b, b < 6 → a ≠ b → (TX2 a).2.1 ≠ (TX2 b).2.1 := by decide +kernel
theorem tyX2_ok : ∀ k, k < 6 → parseFieldDescriptor (TX2 k).2.2.1 = some (tyX2 k) := by decide +kernel
abbrev cX2_init : ByteArray := prog_4_method_1_code
def yX2_init : MethodName := ⟨RX2, "<init>", "()V"⟩
abbrev cX2_addPrisoner : ByteArray := prog_4_method_2_code
def yX2_addPrisoner : MethodName := ⟨RX2, "addPrisoner", "(II)I"⟩
abbrev cX2_prisonerAt : ByteArray := prog_4_method_3_code
def yX2_prisonerAt : MethodName := ⟨RX2, "prisonerAt", "(I)LVisitHall$Prisoner;"⟩
abbrev cX2_addVisitor : ByteArray := prog_4_method_4_code
def yX2_addVisitor : MethodName := ⟨RX2, "addVisitor", "(II)I"⟩
abbrev cX2_isVisitor : ByteArray := prog_4_method_5_code
def yX2_isVisitor : MethodName := ⟨RX2, "isVisitor", "(I)Z"⟩
abbrev cX2_ofKind : ByteArray := prog_4_method_6_code
def yX2_ofKind : MethodName := ⟨RX2, "ofKind", "(I)I"⟩
abbrev cX2_isParty : ByteArray := prog_4_method_7_code
def yX2_isParty : MethodName := ⟨RX2, "isParty", "(I)Z"⟩
abbrev cX2_areLawyers : ByteArray := prog_4_method_8_code
def yX2_areLawyers : MethodName := ⟨RX2, "areLawyers", "(I)Z"⟩
abbrev cX2_needsKin : ByteArray := prog_4_method_9_code
def yX2_needsKin : MethodName := ⟨RX2, "needsKin", "(I)Z"⟩
abbrev cX2_areListed : ByteArray := prog_4_method_10_code
def yX2_areListed : MethodName := ⟨RX2, "areListed", "(LVisitHall$Prisoner;I)Z"⟩
abbrev cX2_isChild : ByteArray := prog_4_method_11_code
def yX2_isChild : MethodName := ⟨RX2, "isChild", "(I)Z"⟩
abbrev cX2_comesFrom : ByteArray := prog_4_method_12_code
def yX2_comesFrom : MethodName := ⟨RX2, "comesFrom", "(II)Z"⟩
abbrev cX2_areRivals : ByteArray := prog_4_method_13_code
def yX2_areRivals : MethodName := ⟨RX2, "areRivals", "(II)Z"⟩
abbrev cX2_setRivals : ByteArray := prog_4_method_14_code
def yX2_setRivals : MethodName := ⟨RX2, "setRivals", "(III)V"⟩
abbrev cX2_rivalPairs : ByteArray := prog_4_method_15_code
def yX2_rivalPairs : MethodName := ⟨RX2, "rivalPairs", "()I"⟩
abbrev cX2_prisonersHere : ByteArray := prog_4_method_16_code
def yX2_prisonersHere : MethodName := ⟨RX2, "prisonersHere", "()I"⟩
abbrev cX2_orderCount : ByteArray := prog_4_method_17_code
def yX2_orderCount : MethodName := ⟨RX2, "orderCount", "()I"⟩
def RX3 : String := "VisitHall$Prisoner"
def TX3 : u_T := fun k => match k with
  | 0 => ("VisitHall$Prisoner", "aClass", "I", true)
  | 1 => ("VisitHall$Prisoner", "family", "I", true)
  | 2 => ("VisitHall$Prisoner", "here", "Z", false)
  | 3 => ("VisitHall$Prisoner", "listed", "I", false)
  | _ => ("VisitHall$Prisoner", "orders", "[I", true)
def tyX3 : Nat → FieldType := fun k => match k with
  | 0 => .int
  | 1 => .int
  | 2 => .boolean
  | 3 => .int
  | _ => .array .int
abbrev wsX30 : List Cond := u_ws RX3 TX3 5
theorem nmX3 : ∀ a, a < 5 → ∀ b, b < 5 → a ≠ b → (TX3 a).2.1 ≠ (TX3 b).2.1 := by decide +kernel
theorem tyX3_ok : ∀ k, k < 5 → parseFieldDescriptor (TX3 k).2.2.1 = some (tyX3 k) := by decide +kernel
abbrev cX3_init : ByteArray := prog_5_method_1_code
def yX3_init : MethodName := ⟨RX3, "<init>", "(II)V"⟩
abbrev cX3_barredFrom : ByteArray := prog_5_method_2_code
def yX3_barredFrom : MethodName := ⟨RX3, "barredFrom", "(I)I"⟩
abbrev cX3_barFrom : ByteArray := prog_5_method_3_code
def yX3_barFrom : MethodName := ⟨RX3, "barFrom", "(II)V"⟩
abbrev cX3_isBarred : ByteArray := prog_5_method_4_code
def yX3_isBarred : MethodName := ⟨RX3, "isBarred", "(II)Z"⟩
abbrev cX3_ordersThere : ByteArray := prog_5_method_5_code
def yX3_ordersThere : MethodName := ⟨RX3, "ordersThere", "()I"⟩
def RX4 : String := "VisitHall$Right"
def TX4 : u_T := fun k => match k with
  | 0 => ("VisitHall$Right", "visits", "I", false)
  | 1 => ("VisitHall$Right", "span", "I", false)
  | 2 => ("VisitHall$Right", "far", "I", false)
  | 3 => ("VisitHall$Right", "more", "I", false)
  | 4 => ("VisitHall$Right", "longest", "I", false)
  | _ => ("VisitHall$Right", "closed", "I", false)
def tyX4 : Nat → FieldType := fun k => match k with
  | 0 => .int
  | 1 => .int
  | 2 => .int
  | 3 => .int
  | 4 => .int
  | _ => .int
abbrev wsX40 : List Cond := u_ws RX4 TX4 6
theorem nmX4 : ∀ a, a < 6 → ∀ b, b < 6 → a ≠ b → (TX4 a).2.1 ≠ (TX4 b).2.1 := by decide +kernel
theorem tyX4_ok : ∀ k, k < 6 → parseFieldDescriptor (TX4 k).2.2.1 = some (tyX4 k) := by decide +kernel
abbrev cX4_init : ByteArray := prog_6_method_1_code
def yX4_init : MethodName := ⟨RX4, "<init>", "()V"⟩
abbrev cX4_allows : ByteArray := prog_6_method_2_code
def yX4_allows : MethodName := ⟨RX4, "allows", "(LVisitHall$Visit;)Z"⟩
abbrev cX4_gives : ByteArray := prog_6_method_3_code
def yX4_gives : MethodName := ⟨RX4, "gives", "(Z)I"⟩
def RX5 : String := "VisitHall$RightReader"
def TX5 : u_T := fun k => match k with
  | 0 => ("VisitHall$RightReader", "tape", "LVisitHall$Tape;", true)
  | 1 => ("VisitHall$RightReader", "start", "I", false)
  | 2 => ("VisitHall$RightReader", "end", "I", false)
  | _ => ("VisitHall$RightReader", "fault", "I", false)
def tyX5 : Nat → FieldType := fun k => match k with
  | 0 => .object "VisitHall$Tape"
  | 1 => .int
  | 2 => .int
  | _ => .int
abbrev wsX50 : List Cond := u_ws RX5 TX5 4
theorem nmX5 : ∀ a, a < 4 → ∀ b, b < 4 → a ≠ b → (TX5 a).2.1 ≠ (TX5 b).2.1 := by decide +kernel
theorem tyX5_ok : ∀ k, k < 4 → parseFieldDescriptor (TX5 k).2.2.1 = some (tyX5 k) := by decide +kernel
abbrev cX5_init : ByteArray := prog_7_method_1_code
def yX5_init : MethodName := ⟨RX5, "<init>", "(LVisitHall$Tape;)V"⟩
abbrev cX5_hasFault : ByteArray := prog_7_method_2_code
def yX5_hasFault : MethodName := ⟨RX5, "hasFault", "()Z"⟩
abbrev cX5_read : ByteArray := prog_7_method_3_code
def yX5_read : MethodName := ⟨RX5, "read", "()LVisitHall$Right;"⟩
abbrev cX5_readFar : ByteArray := prog_7_method_4_code
def yX5_readFar : MethodName := ⟨RX5, "readFar", "(LVisitHall$Right;)V"⟩
abbrev cX5_readLong : ByteArray := prog_7_method_5_code
def yX5_readLong : MethodName := ⟨RX5, "readLong", "(LVisitHall$Right;)V"⟩
abbrev cX5_readNot : ByteArray := prog_7_method_6_code
def yX5_readNot : MethodName := ⟨RX5, "readNot", "(LVisitHall$Right;)V"⟩
abbrev cX5_refuse : ByteArray := prog_7_method_7_code
def yX5_refuse : MethodName := ⟨RX5, "refuse", "()V"⟩
abbrev cX5_next : ByteArray := prog_7_method_8_code
def yX5_next : MethodName := ⟨RX5, "next", "()V"⟩
abbrev cX5_isWord : ByteArray := prog_7_method_9_code
def yX5_isWord : MethodName := ⟨RX5, "isWord", "(Ljava/lang/String;)Z"⟩
abbrev cX5_nextMustBe : ByteArray := prog_7_method_10_code
def yX5_nextMustBe : MethodName := ⟨RX5, "nextMustBe", "(Ljava/lang/String;)V"⟩
abbrev cX5_nextNumber : ByteArray := prog_7_method_11_code
def yX5_nextNumber : MethodName := ⟨RX5, "nextNumber", "(II)I"⟩
abbrev cX5_wordAsNumber : ByteArray := prog_7_method_12_code
def yX5_wordAsNumber : MethodName := ⟨RX5, "wordAsNumber", "()I"⟩
def RX6 : String := "VisitHall$Searches"
def TX6 : u_T := fun k => match k with
  | 0 => ("VisitHall$Searches", "oneIn", "I", false)
  | 1 => ("VisitHall$Searches", "seed", "I", false)
  | 2 => ("VisitHall$Searches", "come", "I", false)
  | _ => ("VisitHall$Searches", "searched", "I", false)
def tyX6 : Nat → FieldType := fun k => match k with
  | 0 => .int
  | 1 => .int
  | 2 => .int
  | _ => .int
abbrev wsX60 : List Cond := u_ws RX6 TX6 4
theorem nmX6 : ∀ a, a < 4 → ∀ b, b < 4 → a ≠ b → (TX6 a).2.1 ≠ (TX6 b).2.1 := by decide +kernel
theorem tyX6_ok : ∀ k, k < 4 → parseFieldDescriptor (TX6 k).2.2.1 = some (tyX6 k) := by decide +kernel
abbrev cX6_init : ByteArray := prog_8_method_1_code
def yX6_init : MethodName := ⟨RX6, "<init>", "()V"⟩
abbrev cX6_draw : ByteArray := prog_8_method_2_code
def yX6_draw : MethodName := ⟨RX6, "draw", "(LVisitHall$Book;LVisitHall$People;I)V"⟩
def RX7 : String := "VisitHall$Sheet"
def TX7 : u_T := fun k => match k with
  | 0 => ("VisitHall$Sheet", "places", "[B", true)
  | _ => ("VisitHall$Sheet", "size", "I", false)
def tyX7 : Nat → FieldType := fun k => match k with
  | 0 => .array .byte
  | _ => .int
abbrev wsX70 : List Cond := u_ws RX7 TX7 2
theorem nmX7 : ∀ a, a < 2 → ∀ b, b < 2 → a ≠ b → (TX7 a).2.1 ≠ (TX7 b).2.1 := by decide +kernel
theorem tyX7_ok : ∀ k, k < 2 → parseFieldDescriptor (TX7 k).2.2.1 = some (tyX7 k) := by decide +kernel
abbrev cX7_init : ByteArray := prog_9_method_1_code
def yX7_init : MethodName := ⟨RX7, "<init>", "()V"⟩
abbrev cX7_isMissing : ByteArray := prog_9_method_2_code
def yX7_isMissing : MethodName := ⟨RX7, "isMissing", "()Z"⟩
abbrev cX7_clear : ByteArray := prog_9_method_3_code
def yX7_clear : MethodName := ⟨RX7, "clear", "(I)V"⟩
abbrev cX7_has : ByteArray := prog_9_method_4_code
def yX7_has : MethodName := ⟨RX7, "has", "(I)Z"⟩
abbrev cX7_hasRun : ByteArray := prog_9_method_5_code
def yX7_hasRun : MethodName := ⟨RX7, "hasRun", "(II)Z"⟩
def RX8 : String := "VisitHall$Tape"
def TX8 : u_T := fun k => match k with
  | 0 => ("VisitHall$Tape", "bytes", "[B", true)
  | _ => ("VisitHall$Tape", "size", "I", false)
def tyX8 : Nat → FieldType := fun k => match k with
  | 0 => .array .byte
  | _ => .int
abbrev wsX80 : List Cond := u_ws RX8 TX8 2
theorem nmX8 : ∀ a, a < 2 → ∀ b, b < 2 → a ≠ b → (TX8 a).2.1 ≠ (TX8 b).2.1 := by decide +kernel
theorem tyX8_ok : ∀ k, k < 2 → parseFieldDescriptor (TX8 k).2.2.1 = some (tyX8 k) := by decide +kernel
abbrev cX8_init : ByteArray := prog_10_method_1_code
def yX8_init : MethodName := ⟨RX8, "<init>", "()V"⟩
abbrev cX8_hasRoom : ByteArray := prog_10_method_2_code
def yX8_hasRoom : MethodName := ⟨RX8, "hasRoom", "()Z"⟩
abbrev cX8_add : ByteArray := prog_10_method_3_code
def yX8_add : MethodName := ⟨RX8, "add", "(I)V"⟩
def RX9 : String := "VisitHall$Visit"
def TX9 : u_T := fun k => match k with
  | 0 => ("VisitHall$Visit", "prisoner", "I", false)
  | 1 => ("VisitHall$Visit", "visitors", "I", false)
  | 2 => ("VisitHall$Visit", "day", "I", false)
  | 3 => ("VisitHall$Visit", "first", "I", false)
  | 4 => ("VisitHall$Visit", "many", "I", false)
  | 5 => ("VisitHall$Visit", "lawyers", "Z", false)
  | 6 => ("VisitHall$Visit", "state", "I", false)
  | _ => ("VisitHall$Visit", "leaves", "Z", false)
def tyX9 : Nat → FieldType := fun k => match k with
  | 0 => .int
  | 1 => .int
  | 2 => .int
  | 3 => .int
  | 4 => .int
  | 5 => .boolean
  | 6 => .int
  | _ => .boolean
abbrev wsX90 : List Cond := u_ws RX9 TX9 8
theorem nmX9 : ∀ a, a < 8 → ∀ b, b < 8 → a ≠ b → (TX9 a).2.1 ≠ (TX9 b).2.1 := by decide +kernel
theorem tyX9_ok : ∀ k, k < 8 → parseFieldDescriptor (TX9 k).2.2.1 = some (tyX9 k) := by decide +kernel
abbrev cX9_init : ByteArray := prog_11_method_1_code
def yX9_init : MethodName := ⟨RX9, "<init>", "()V"⟩
abbrev cX9_fill : ByteArray := prog_11_method_2_code
def yX9_fill : MethodName := ⟨RX9, "fill", "(IIIIZ)V"⟩
abbrev cX9_isLetAt : ByteArray := prog_11_method_3_code
def yX9_isLetAt : MethodName := ⟨RX9, "isLetAt", "(II)Z"⟩
abbrev cX9_sharesHalfWith : ByteArray := prog_11_method_4_code
def yX9_sharesHalfWith : MethodName := ⟨RX9, "sharesHalfWith", "(LVisitHall$Visit;)Z"⟩
abbrev cX9_sharesPeopleWith : ByteArray := prog_11_method_5_code
def yX9_sharesPeopleWith : MethodName := ⟨RX9, "sharesPeopleWith", "(LVisitHall$Visit;)Z"⟩
def RX10 : String := "VisitHall"
def TX10 : u_T := fun k => match k with
  | 0 => ("VisitHall", "people", "LVisitHall$People;", true)
  | 1 => ("VisitHall", "tape", "LVisitHall$Tape;", true)
  | 2 => ("VisitHall", "reader", "LVisitHall$RightReader;", true)
  | 3 => ("VisitHall", "rights", "[LVisitHall$Right;", true)
  | 4 => ("VisitHall", "book", "LVisitHall$Book;", true)
  | 5 => ("VisitHall", "sheets", "[LVisitHall$Sheet;", true)
  | 6 => ("VisitHall", "gate", "LVisitHall$Gate;", true)
  | 7 => ("VisitHall", "searches", "LVisitHall$Searches;", true)
  | _ => ("VisitHall", "asked", "LVisitHall$Visit;", false)
def tyX10 : Nat → FieldType := fun k => match k with
  | 0 => .object "VisitHall$People"
  | 1 => .object "VisitHall$Tape"
  | 2 => .object "VisitHall$RightReader"
  | 3 => .array (.object "VisitHall$Right")
  | 4 => .object "VisitHall$Book"
  | 5 => .array (.object "VisitHall$Sheet")
  | 6 => .object "VisitHall$Gate"
  | 7 => .object "VisitHall$Searches"
  | _ => .object "VisitHall$Visit"
abbrev wsX100 : List Cond := u_ws RX10 TX10 9
theorem nmX10 : ∀ a, a < 9 → ∀ b, b < 9 → a ≠ b → (TX10 a).2.1 ≠ (TX10 b).2.1 := by decide +kernel
theorem tyX10_ok : ∀ k, k < 9 → parseFieldDescriptor (TX10 k).2.2.1 = some (tyX10 k) := by decide +kernel
abbrev cX10_init : ByteArray := prog_1_method_1_code
def yX10_init : MethodName := ⟨RX10, "<init>", "()V"⟩
abbrev cX10_prisoner : ByteArray := prog_1_method_2_code
def yX10_prisoner : MethodName := ⟨RX10, "prisoner", "(II)I"⟩
abbrev cX10_visitor : ByteArray := prog_1_method_3_code
def yX10_visitor : MethodName := ⟨RX10, "visitor", "(III)I"⟩
abbrev cX10_isOf : ByteArray := prog_1_method_4_code
def yX10_isOf : MethodName := ⟨RX10, "isOf", "(II)I"⟩
abbrev cX10_list : ByteArray := prog_1_method_5_code
def yX10_list : MethodName := ⟨RX10, "list", "(III)I"⟩
abbrev cX10_order : ByteArray := prog_1_method_6_code
def yX10_order : MethodName := ⟨RX10, "order", "(III)I"⟩
abbrev cX10_lift : ByteArray := prog_1_method_7_code
def yX10_lift : MethodName := ⟨RX10, "lift", "(II)I"⟩
abbrev cX10_rivals : ByteArray := prog_1_method_8_code
def yX10_rivals : MethodName := ⟨RX10, "rivals", "(III)I"⟩
abbrev cX10_move : ByteArray := prog_1_method_9_code
def yX10_move : MethodName := ⟨RX10, "move", "(I)I"⟩
abbrev cX10_told : ByteArray := prog_1_method_10_code
def yX10_told : MethodName := ⟨RX10, "told", "(II)I"⟩
abbrev cX10_feed : ByteArray := prog_1_method_11_code
def yX10_feed : MethodName := ⟨RX10, "feed", "(III)I"⟩
abbrev cX10_trim : ByteArray := prog_1_method_12_code
def yX10_trim : MethodName := ⟨RX10, "trim", "(I)I"⟩
abbrev cX10_right : ByteArray := prog_1_method_13_code
def yX10_right : MethodName := ⟨RX10, "right", "(I)I"⟩
abbrev cX10_of : ByteArray := prog_1_method_14_code
def yX10_of : MethodName := ⟨RX10, "of", "(II)I"⟩
abbrev cX10_ask : ByteArray := prog_1_method_15_code
def yX10_ask : MethodName := ⟨RX10, "ask", "(IIIII)I"⟩
abbrev cX10_why : ByteArray := prog_1_method_16_code
def yX10_why : MethodName := ⟨RX10, "why", "(IIII)I"⟩
abbrev cX10_giveBack : ByteArray := prog_1_method_17_code
def yX10_giveBack : MethodName := ⟨RX10, "giveBack", "(I)I"⟩
abbrev cX10_visit : ByteArray := prog_1_method_18_code
def yX10_visit : MethodName := ⟨RX10, "visit", "(II)I"⟩
abbrev cX10_rule : ByteArray := prog_1_method_19_code
def yX10_rule : MethodName := ⟨RX10, "rule", "(II)I"⟩
abbrev cX10_days : ByteArray := prog_1_method_20_code
def yX10_days : MethodName := ⟨RX10, "days", "(I)I"⟩
abbrev cX10_hall : ByteArray := prog_1_method_21_code
def yX10_hall : MethodName := ⟨RX10, "hall", "(III)I"⟩
abbrev cX10_comes : ByteArray := prog_1_method_22_code
def yX10_comes : MethodName := ⟨RX10, "comes", "(II)I"⟩
abbrev cX10_sheet : ByteArray := prog_1_method_23_code
def yX10_sheet : MethodName := ⟨RX10, "sheet", "(II)I"⟩
abbrev cX10_mark : ByteArray := prog_1_method_24_code
def yX10_mark : MethodName := ⟨RX10, "mark", "(III)I"⟩
abbrev cX10_copy : ByteArray := prog_1_method_25_code
def yX10_copy : MethodName := ⟨RX10, "copy", "(IIIII)I"⟩
abbrev cX10_lose : ByteArray := prog_1_method_26_code
def yX10_lose : MethodName := ⟨RX10, "lose", "(I)I"⟩
abbrev cX10_count : ByteArray := prog_1_method_27_code
def yX10_count : MethodName := ⟨RX10, "count", "(I)I"⟩
abbrev cX10_isBelow : ByteArray := prog_1_method_28_code
def yX10_isBelow : MethodName := ⟨RX10, "isBelow", "(II)Z"⟩
abbrev cX10_withBit : ByteArray := prog_1_method_29_code
def yX10_withBit : MethodName := ⟨RX10, "withBit", "(III)I"⟩
abbrev cX10_canBeAsked : ByteArray := prog_1_method_30_code
def yX10_canBeAsked : MethodName := ⟨RX10, "canBeAsked", "(IIII)Z"⟩
abbrev cX10_areHalves : ByteArray := prog_1_method_31_code
def yX10_areHalves : MethodName := ⟨RX10, "areHalves", "(I)Z"⟩
abbrev cX10_mayRule : ByteArray := prog_1_method_32_code
def yX10_mayRule : MethodName := ⟨RX10, "mayRule", "(II)Z"⟩
def RX11 : String := "VisitHallModel"
def TX11 : u_T := fun k => match k with
  | 0 => ("VisitHallModel", "today", "I", false)
  | 1 => ("VisitHallModel", "prisoners", "I", false)
  | 2 => ("VisitHallModel", "pClass", "[I", true)
  | 3 => ("VisitHallModel", "pFamily", "[I", true)
  | 4 => ("VisitHallModel", "isHere", "[I", true)
  | 5 => ("VisitHallModel", "lists", "[I", true)
  | 6 => ("VisitHallModel", "orders", "[I", true)
  | 7 => ("VisitHallModel", "visitors", "I", false)
  | 8 => ("VisitHallModel", "kind", "[I", true)
  | 9 => ("VisitHallModel", "vFamily", "[I", true)
  | 10 => ("VisitHallModel", "way", "[I", true)
  | 11 => ("VisitHallModel", "rivals", "[I", true)
  | 12 => ("VisitHallModel", "hasText", "[Z", true)
  | 13 => ("VisitHallModel", "rN", "[I", true)
  | 14 => ("VisitHallModel", "rM", "[I", true)
  | 15 => ("VisitHallModel", "rFar", "[I", true)
  | 16 => ("VisitHallModel", "rMore", "[I", true)
  | 17 => ("VisitHallModel", "rLong", "[I", true)
  | 18 => ("VisitHallModel", "rNot", "[I", true)
  | 19 => ("VisitHallModel", "tape", "[I", true)
  | 20 => ("VisitHallModel", "taped", "I", false)
  | 21 => ("VisitHallModel", "visits", "I", false)
  | 22 => ("VisitHallModel", "vOf", "[I", true)
  | 23 => ("VisitHallModel", "vSet", "[I", true)
  | 24 => ("VisitHallModel", "vDay", "[I", true)
  | 25 => ("VisitHallModel", "vFirst", "[I", true)
  | 26 => ("VisitHallModel", "vMany", "[I", true)
  | 27 => ("VisitHallModel", "state", "[I", true)
  | 28 => ("VisitHallModel", "tables", "I", false)
  | 29 => ("VisitHallModel", "oneIn", "I", false)
  | 30 => ("VisitHallModel", "seed", "I", false)
  | 31 => ("VisitHallModel", "places", "[I", true)
  | 32 => ("VisitHallModel", "numbers", "[I", true)
  | 33 => ("VisitHallModel", "read", "I", false)
  | 34 => ("VisitHallModel", "from", "I", false)
  | 35 => ("VisitHallModel", "long1", "I", false)
  | 36 => ("VisitHallModel", "tN", "I", false)
  | 37 => ("VisitHallModel", "tM", "I", false)
  | 38 => ("VisitHallModel", "tFar", "I", false)
  | 39 => ("VisitHallModel", "tMore", "I", false)
  | 40 => ("VisitHallModel", "tLong", "I", false)
  | 41 => ("VisitHallModel", "tNot", "I", false)
  | 42 => ("VisitHallModel", "before", "[I", true)
  | _ => ("VisitHallModel", "carried", "[I", true)
def tyX11 : Nat → FieldType := fun k => match k with
  | 0 => .int
  | 1 => .int
  | 2 => .array .int
  | 3 => .array .int
  | 4 => .array .int
  | 5 => .array .int
  | 6 => .array .int
  | 7 => .int
  | 8 => .array .int
  | 9 => .array .int
  | 10 => .array .int
  | 11 => .array .int
  | 12 => .array .boolean
  | 13 => .array .int
  | 14 => .array .int
  | 15 => .array .int
  | 16 => .array .int
  | 17 => .array .int
  | 18 => .array .int
  | 19 => .array .int
  | 20 => .int
  | 21 => .int
  | 22 => .array .int
  | 23 => .array .int
  | 24 => .array .int
  | 25 => .array .int
  | 26 => .array .int
  | 27 => .array .int
  | 28 => .int
  | 29 => .int
  | 30 => .int
  | 31 => .array .int
  | 32 => .array .int
  | 33 => .int
  | 34 => .int
  | 35 => .int
  | 36 => .int
  | 37 => .int
  | 38 => .int
  | 39 => .int
  | 40 => .int
  | 41 => .int
  | 42 => .array .int
  | _ => .array .int
abbrev wsX110 : List Cond := u_ws RX11 TX11 44
theorem nmX11 : ∀ a, a < 44 → ∀ b, b < 44 → a ≠ b → (TX11 a).2.1 ≠ (TX11 b).2.1 := by decide +kernel
theorem tyX11_ok : ∀ k, k < 44 → parseFieldDescriptor (TX11 k).2.2.1 = some (tyX11 k) := by decide +kernel
abbrev cX11_init : ByteArray := prog_13_method_1_code
def yX11_init : MethodName := ⟨RX11, "<init>", "()V"⟩
abbrev cX11_isIn : ByteArray := prog_13_method_2_code
def yX11_isIn : MethodName := ⟨RX11, "isIn", "(III)Z"⟩
abbrev cX11_isPrisoner : ByteArray := prog_13_method_3_code
def yX11_isPrisoner : MethodName := ⟨RX11, "isPrisoner", "(I)Z"⟩
abbrev cX11_isVisitor : ByteArray := prog_13_method_4_code
def yX11_isVisitor : MethodName := ⟨RX11, "isVisitor", "(I)Z"⟩
abbrev cX11_has : ByteArray := prog_13_method_5_code
def yX11_has : MethodName := ⟨RX11, "has", "(II)Z"⟩
abbrev cX11_prisoner : ByteArray := prog_13_method_6_code
def yX11_prisoner : MethodName := ⟨RX11, "prisoner", "(II)I"⟩
abbrev cX11_visitor : ByteArray := prog_13_method_7_code
def yX11_visitor : MethodName := ⟨RX11, "visitor", "(III)I"⟩
abbrev cX11_isOf : ByteArray := prog_13_method_8_code
def yX11_isOf : MethodName := ⟨RX11, "isOf", "(II)I"⟩
abbrev cX11_list : ByteArray := prog_13_method_9_code
def yX11_list : MethodName := ⟨RX11, "list", "(III)I"⟩
abbrev cX11_order : ByteArray := prog_13_method_10_code
def yX11_order : MethodName := ⟨RX11, "order", "(III)I"⟩
abbrev cX11_lift : ByteArray := prog_13_method_11_code
def yX11_lift : MethodName := ⟨RX11, "lift", "(II)I"⟩
abbrev cX11_rivals : ByteArray := prog_13_method_12_code
def yX11_rivals : MethodName := ⟨RX11, "rivals", "(III)I"⟩
abbrev cX11_move : ByteArray := prog_13_method_13_code
def yX11_move : MethodName := ⟨RX11, "move", "(I)I"⟩
abbrev cX11_told : ByteArray := prog_13_method_14_code
def yX11_told : MethodName := ⟨RX11, "told", "(II)I"⟩
abbrev cX11_four : ByteArray := prog_13_method_15_code
def yX11_four : MethodName := ⟨RX11, "four", "(I)V"⟩
abbrev cX11_feed : ByteArray := prog_13_method_16_code
def yX11_feed : MethodName := ⟨RX11, "feed", "(III)I"⟩
abbrev cX11_trim : ByteArray := prog_13_method_17_code
def yX11_trim : MethodName := ⟨RX11, "trim", "(I)I"⟩
abbrev cX11_next : ByteArray := prog_13_method_18_code
def yX11_next : MethodName := ⟨RX11, "next", "()V"⟩
abbrev cX11_here : ByteArray := prog_13_method_19_code
def yX11_here : MethodName := ⟨RX11, "here", "()I"⟩
abbrev cX11_isWord : ByteArray := prog_13_method_20_code
def yX11_isWord : MethodName := ⟨RX11, "isWord", "(IIII)Z"⟩
abbrev cX11_number : ByteArray := prog_13_method_21_code
def yX11_number : MethodName := ⟨RX11, "number", "()I"⟩
abbrev cX11_readRight : ByteArray := prog_13_method_22_code
def yX11_readRight : MethodName := ⟨RX11, "readRight", "()I"⟩
abbrev cX11_right : ByteArray := prog_13_method_23_code
def yX11_right : MethodName := ⟨RX11, "right", "(I)I"⟩
abbrev cX11_of : ByteArray := prog_13_method_24_code
def yX11_of : MethodName := ⟨RX11, "of", "(II)I"⟩
abbrev cX11_isLawyers : ByteArray := prog_13_method_25_code
def yX11_isLawyers : MethodName := ⟨RX11, "isLawyers", "(I)Z"⟩
abbrev cX11_tablesOn : ByteArray := prog_13_method_26_code
def yX11_tablesOn : MethodName := ⟨RX11, "tablesOn", "(I)I"⟩
abbrev cX11_isAt : ByteArray := prog_13_method_27_code
def yX11_isAt : MethodName := ⟨RX11, "isAt", "(III)Z"⟩
abbrev cX11_letAt : ByteArray := prog_13_method_28_code
def yX11_letAt : MethodName := ⟨RX11, "letAt", "(II)I"⟩
abbrev cX11_meets : ByteArray := prog_13_method_29_code
def yX11_meets : MethodName := ⟨RX11, "meets", "(IIII)Z"⟩
abbrev cX11_isBarred : ByteArray := prog_13_method_30_code
def yX11_isBarred : MethodName := ⟨RX11, "isBarred", "(III)Z"⟩
abbrev cX11_isUnlisted : ByteArray := prog_13_method_31_code
def yX11_isUnlisted : MethodName := ⟨RX11, "isUnlisted", "(II)Z"⟩
abbrev cX11_isChildAlone : ByteArray := prog_13_method_32_code
def yX11_isChildAlone : MethodName := ⟨RX11, "isChildAlone", "(I)Z"⟩
abbrev cX11_isTooMany : ByteArray := prog_13_method_33_code
def yX11_isTooMany : MethodName := ⟨RX11, "isTooMany", "(III)Z"⟩
abbrev cX11_reason : ByteArray := prog_13_method_34_code
def yX11_reason : MethodName := ⟨RX11, "reason", "(IIIII)I"⟩
abbrev cX11_makesRoom : ByteArray := prog_13_method_35_code
def yX11_makesRoom : MethodName := ⟨RX11, "makesRoom", "(IIIZ)Z"⟩
abbrev cX11_refusal : ByteArray := prog_13_method_36_code
def yX11_refusal : MethodName := ⟨RX11, "refusal", "(IIIIIZ)I"⟩
abbrev cX11_walk : ByteArray := prog_13_method_37_code
def yX11_walk : MethodName := ⟨RX11, "walk", "()I"⟩
abbrev cX11_bits : ByteArray := prog_13_method_38_code
def yX11_bits : MethodName := ⟨RX11, "bits", "(I)I"⟩
abbrev cX11_isAsked : ByteArray := prog_13_method_39_code
def yX11_isAsked : MethodName := ⟨RX11, "isAsked", "(IIII)Z"⟩
abbrev cX11_ask : ByteArray := prog_13_method_40_code
def yX11_ask : MethodName := ⟨RX11, "ask", "(IIIII)I"⟩
abbrev cX11_why : ByteArray := prog_13_method_41_code
def yX11_why : MethodName := ⟨RX11, "why", "(IIII)I"⟩
abbrev cX11_isVisit : ByteArray := prog_13_method_42_code
def yX11_isVisit : MethodName := ⟨RX11, "isVisit", "(I)Z"⟩
abbrev cX11_giveBack : ByteArray := prog_13_method_43_code
def yX11_giveBack : MethodName := ⟨RX11, "giveBack", "(I)I"⟩
abbrev cX11_visit : ByteArray := prog_13_method_44_code
def yX11_visit : MethodName := ⟨RX11, "visit", "(II)I"⟩
abbrev cX11_rule : ByteArray := prog_13_method_45_code
def yX11_rule : MethodName := ⟨RX11, "rule", "(II)I"⟩
abbrev cX11_days : ByteArray := prog_13_method_46_code
def yX11_days : MethodName := ⟨RX11, "days", "(I)I"⟩
abbrev cX11_isDay : ByteArray := prog_13_method_47_code
def yX11_isDay : MethodName := ⟨RX11, "isDay", "(I)Z"⟩
abbrev cX11_hall : ByteArray := prog_13_method_48_code
def yX11_hall : MethodName := ⟨RX11, "hall", "(III)I"⟩
abbrev cX11_comes : ByteArray := prog_13_method_49_code
def yX11_comes : MethodName := ⟨RX11, "comes", "(II)I"⟩
abbrev cX11_isSheet : ByteArray := prog_13_method_50_code
def yX11_isSheet : MethodName := ⟨RX11, "isSheet", "(I)Z"⟩
abbrev cX11_sheet : ByteArray := prog_13_method_51_code
def yX11_sheet : MethodName := ⟨RX11, "sheet", "(II)I"⟩
abbrev cX11_mark : ByteArray := prog_13_method_52_code
def yX11_mark : MethodName := ⟨RX11, "mark", "(III)I"⟩
abbrev cX11_copy : ByteArray := prog_13_method_53_code
def yX11_copy : MethodName := ⟨RX11, "copy", "(IIIII)I"⟩
abbrev cX11_lose : ByteArray := prog_13_method_54_code
def yX11_lose : MethodName := ⟨RX11, "lose", "(I)I"⟩
abbrev cX11_count : ByteArray := prog_13_method_55_code
def yX11_count : MethodName := ⟨RX11, "count", "(I)I"⟩
def RJ6 : String := "java/lang/Integer"
def TJ6 : u_T := fun k => match k with
  | _ => ("", "", "", false)
def tyJ6 : Nat → FieldType := fun k => match k with
  | _ => .int
abbrev wsJ60 : List Cond := u_ws RJ6 TJ6 0
theorem nmJ6 : ∀ a, a < 0 → ∀ b, b < 0 → a ≠ b → (TJ6 a).2.1 ≠ (TJ6 b).2.1 := by decide +kernel
theorem tyJ6_ok : ∀ k, k < 0 → parseFieldDescriptor (TJ6 k).2.2.1 = some (tyJ6 k) := by decide +kernel
abbrev cJ6_bitCount_0f7a4 : ByteArray := prog_14_method_49_code
def yJ6_bitCount_0f7a4 : MethodName := ⟨RJ6, "bitCount", "(I)I"⟩
def RJ9 : String := "java/lang/Math"
def TJ9 : u_T := fun k => match k with
  | _ => ("", "", "", false)
def tyJ9 : Nat → FieldType := fun k => match k with
  | _ => .int
abbrev wsJ90 : List Cond := u_ws RJ9 TJ9 0
theorem nmJ9 : ∀ a, a < 0 → ∀ b, b < 0 → a ≠ b → (TJ9 a).2.1 ≠ (TJ9 b).2.1 := by decide +kernel
theorem tyJ9_ok : ∀ k, k < 0 → parseFieldDescriptor (TJ9 k).2.2.1 = some (tyJ9 k) := by decide +kernel
abbrev cJ9_max_7cf53 : ByteArray := prog_15_method_65_code
def yJ9_max_7cf53 : MethodName := ⟨RJ9, "max", "(II)I"⟩
abbrev cJ9_min_7cf53 : ByteArray := prog_15_method_69_code
def yJ9_min_7cf53 : MethodName := ⟨RJ9, "min", "(II)I"⟩
def RJ0 : String := "java/lang/String"
def TJ0 : u_T := fun k => match k with
  | _ => ("", "", "", false)
def tyJ0 : Nat → FieldType := fun k => match k with
  | _ => .int
abbrev wsJ00 : List Cond := u_ws RJ0 TJ0 0
theorem nmJ0 : ∀ a, a < 0 → ∀ b, b < 0 → a ≠ b → (TJ0 a).2.1 ≠ (TJ0 b).2.1 := by decide +kernel
theorem tyJ0_ok : ∀ k, k < 0 → parseFieldDescriptor (TJ0 k).2.2.1 = some (tyJ0 k) := by decide +kernel
abbrev cJ0_length_8abf5 : ByteArray := prog_16_method_54_code
def yJ0_length_8abf5 : MethodName := ⟨RJ0, "length", "()I"⟩
abbrev cJ0_charAt_5068e : ByteArray := prog_16_method_56_code
def yJ0_charAt_5068e : MethodName := ⟨RJ0, "charAt", "(I)C"⟩
abbrev cJ0_coder_7d493 : ByteArray := prog_16_method_152_code
def yJ0_coder_7d493 : MethodName := ⟨RJ0, "coder", "()B"⟩
abbrev cJ0_isLatin1_aae02 : ByteArray := prog_16_method_154_code
def yJ0_isLatin1_aae02 : MethodName := ⟨RJ0, "isLatin1", "()Z"⟩
abbrev cJ0_checkIndex_df160 : ByteArray := prog_16_method_155_code
def yJ0_checkIndex_df160 : MethodName := ⟨RJ0, "checkIndex", "(II)V"⟩
def RJ1 : String := "java/lang/StringLatin1"
def TJ1 : u_T := fun k => match k with
  | _ => ("", "", "", false)
def tyJ1 : Nat → FieldType := fun k => match k with
  | _ => .int
abbrev wsJ10 : List Cond := u_ws RJ1 TJ1 0
theorem nmJ1 : ∀ a, a < 0 → ∀ b, b < 0 → a ≠ b → (TJ1 a).2.1 ≠ (TJ1 b).2.1 := by decide +kernel
theorem tyJ1_ok : ∀ k, k < 0 → parseFieldDescriptor (TJ1 k).2.2.1 = some (tyJ1 k) := by decide +kernel
abbrev cJ1_charAt_3b067 : ByteArray := prog_17_method_2_code
def yJ1_charAt_3b067 : MethodName := ⟨RJ1, "charAt", "([BI)C"⟩
def RJ2 : String := "java/lang/StringUTF16"
def TJ2 : u_T := fun k => match k with
  | _ => ("", "", "", false)
def tyJ2 : Nat → FieldType := fun k => match k with
  | _ => .int
abbrev wsJ20 : List Cond := u_ws RJ2 TJ2 0
theorem nmJ2 : ∀ a, a < 0 → ∀ b, b < 0 → a ≠ b → (TJ2 a).2.1 ≠ (TJ2 b).2.1 := by decide +kernel
theorem tyJ2_ok : ∀ k, k < 0 → parseFieldDescriptor (TJ2 k).2.2.1 = some (tyJ2 k) := by decide +kernel
abbrev cJ2_getChar_3b067 : ByteArray := prog_18_method_5_code
def yJ2_getChar_3b067 : MethodName := ⟨RJ2, "getChar", "([BI)C"⟩
abbrev cJ2_length_9d52b : ByteArray := prog_18_method_6_code
def yJ2_length_9d52b : MethodName := ⟨RJ2, "length", "([B)I"⟩
abbrev cJ2_charAt_3b067 : ByteArray := prog_18_method_83_code
def yJ2_charAt_3b067 : MethodName := ⟨RJ2, "charAt", "([BI)C"⟩
abbrev cJ2_checkIndex_2214a : ByteArray := prog_18_method_91_code
def yJ2_checkIndex_2214a : MethodName := ⟨RJ2, "checkIndex", "(I[B)V"⟩
def RJ10 : String := "java/lang/System"
def TJ10 : u_T := fun k => match k with
  | _ => ("", "", "", false)
def tyJ10 : Nat → FieldType := fun k => match k with
  | _ => .int
abbrev wsJ100 : List Cond := u_ws RJ10 TJ10 0
theorem nmJ10 : ∀ a, a < 0 → ∀ b, b < 0 → a ≠ b → (TJ10 a).2.1 ≠ (TJ10 b).2.1 := by decide +kernel
theorem tyJ10_ok : ∀ k, k < 0 → parseFieldDescriptor (TJ10 k).2.2.1 = some (tyJ10 k) := by decide +kernel
def RJ7 : String := "java/util/Arrays"
def TJ7 : u_T := fun k => match k with
  | _ => ("", "", "", false)
def tyJ7 : Nat → FieldType := fun k => match k with
  | _ => .int
abbrev wsJ70 : List Cond := u_ws RJ7 TJ7 0
theorem nmJ7 : ∀ a, a < 0 → ∀ b, b < 0 → a ≠ b → (TJ7 a).2.1 ≠ (TJ7 b).2.1 := by decide +kernel
theorem tyJ7_ok : ∀ k, k < 0 → parseFieldDescriptor (TJ7 k).2.2.1 = some (tyJ7 k) := by decide +kernel
abbrev cJ7_fill_53178 : ByteArray := prog_20_method_103_code
def yJ7_fill_53178 : MethodName := ⟨RJ7, "fill", "([II)V"⟩
abbrev cJ7_fill_031fb : ByteArray := prog_20_method_109_code
def yJ7_fill_031fb : MethodName := ⟨RJ7, "fill", "([BB)V"⟩
def RJ3 : String := "jdk/internal/util/Preconditions"
def TJ3 : u_T := fun k => match k with
  | _ => ("", "", "", false)
def tyJ3 : Nat → FieldType := fun k => match k with
  | _ => .int
abbrev wsJ30 : List Cond := u_ws RJ3 TJ3 0
theorem nmJ3 : ∀ a, a < 0 → ∀ b, b < 0 → a ≠ b → (TJ3 a).2.1 ≠ (TJ3 b).2.1 := by decide +kernel
theorem tyJ3_ok : ∀ k, k < 0 → parseFieldDescriptor (TJ3 k).2.2.1 = some (tyJ3 k) := by decide +kernel
abbrev cJ3_checkIndex_8e157 : ByteArray := prog_21_method_11_code
def yJ3_checkIndex_8e157 : MethodName := ⟨RJ3, "checkIndex", "(IILjava/util/function/BiFunction;)I"⟩
def RL : String := "VisitHallLaw"
abbrev cL_law : ByteArray := code
def yL_law : MethodName := ⟨RL, "law", "([I)Z"⟩
abbrev vwCl : List vw_C := [(RX0, TX0, 3), (RX1, TX1, 6), (RX2, TX2, 6), (RX3, TX3, 5), (RX4, TX4, 6), (RX5, TX5, 4), (RX6, TX6, 4), (RX7, TX7, 2), (RX8, TX8, 2), (RX9, TX9, 8), (RX10, TX10, 9), (RX11, TX11, 44)]
def isNest : Cond → Bool
  | .fieldLinkNest .. => true
  | .methodLinkNest .. => true
  | _ => false
def okw (w : Cond) : Bool := goodWord w || isNest w
def TT : List Cond := lw_tbl.filter okw
theorem inX0 : ∀ w ∈ wsX00, w ∈ TT := by decide +kernel
theorem inX1 : ∀ w ∈ wsX10, w ∈ TT := by decide +kernel
theorem inX2 : ∀ w ∈ wsX20, w ∈ TT := by decide +kernel
theorem inX3 : ∀ w ∈ wsX30, w ∈ TT := by decide +kernel
theorem inX4 : ∀ w ∈ wsX40, w ∈ TT := by decide +kernel
theorem inX5 : ∀ w ∈ wsX50, w ∈ TT := by decide +kernel
theorem inX6 : ∀ w ∈ wsX60, w ∈ TT := by decide +kernel
theorem inX7 : ∀ w ∈ wsX70, w ∈ TT := by decide +kernel
theorem inX8 : ∀ w ∈ wsX80, w ∈ TT := by decide +kernel
theorem inX9 : ∀ w ∈ wsX90, w ∈ TT := by decide +kernel
theorem inX10 : ∀ w ∈ wsX100, w ∈ TT := by decide +kernel
theorem inX11 : ∀ w ∈ wsX110, w ∈ TT := by decide +kernel
end
section
/-! OUR FRAME, 1: abstract values (an int, a reference by kind and number, a long), the world (how many of each kind; what rows of references hold), the store of ints; what a heap that holds them is -/
abbrev HV : Type := Int32 ⊕ (Nat × Option Nat) ⊕ Int64
abbrev HI (x : Int32) : HV := Sum.inl x
abbrev HO (k : Nat) (o : Option Nat) : HV := Sum.inr (Sum.inl (k, o))
abbrev HR (k i : Nat) : HV := Sum.inr (Sum.inl (k, some i))
abbrev HL (x : Int64) : HV := Sum.inr (Sum.inr x)
abbrev HA : Type := Nat → Nat → Nat
abbrev HW : Type := (Nat → Nat) × (Nat → Nat → Option Nat)
abbrev HS : Type := Nat → Nat → Nat → Int32
abbrev HLs : Type := List (Option HV)
abbrev HK : Type := Nat → HLs → List HV → HW → HS → Prop
abbrev HKp : Type := HLs → List HV → HW → HS → Prop
abbrev HRt : Type := Option HV → HW → HS → Prop
abbrev HSp : Type := List HV → HW → HS → HRt → Prop
abbrev HOp : Type := HK → HRt → HLs → List HV → HW → HS → Prop
abbrev HG : Type := va_G × (Nat → ClassId) × (Nat → Nat) × (Nat → Nat)
def toV (g : HA) (v : HV) : Value := match v with
  | .inl x => .int x
  | .inr (.inl (_, none)) => .null
  | .inr (.inl (k, some i)) => .ref (g k i)
  | .inr (.inr x) => .long x
def VLv (w : HW) (v : HV) : Prop := match v with
  | .inr (.inl (k, some i)) => i < w.1 k
  | _ => True
def up3 (σ : HS) (k i f : Nat) (v : Int32) : HS := fun a b c => if a = k ∧ b = i ∧ c = f then v else σ a b c
def up2 (r : Nat → Nat → Option Nat) (k j : Nat) (o : Option Nat) : Nat → Nat → Option Nat := fun a b => if a = k ∧ b = j then o else r a b
def frk (k f : Nat) : Option Nat := match k with
  | 0 => (match f with | 0 => some 18 | _ => none)
  | 1 => (match f with | 0 => some 2 | 1 => some 16 | 2 => some 0 | 3 => some 7 | 5 => some 13 | _ => none)
  | 2 => (match f with | 0 => some 15 | 2 => some 13 | 3 => some 13 | 5 => some 13 | _ => none)
  | 3 => (match f with | 4 => some 13 | _ => none)
  | 5 => (match f with | 0 => some 8 | _ => none)
  | 7 => (match f with | 0 => some 12 | _ => none)
  | 8 => (match f with | 0 => some 12 | _ => none)
  | 10 => (match f with | 0 => some 2 | 1 => some 8 | 2 => some 5 | 3 => some 16 | 4 => some 0 | 5 => some 17 | 6 => some 1 | 7 => some 6 | 8 => some 9 | _ => none)
  | 11 => (match f with | 2 => some 20 | 3 => some 20 | 4 => some 20 | 5 => some 20 | 6 => some 20 | 8 => some 20 | 9 => some 20 | 10 => some 20 | 11 => some 20 | 12 => some 21 | 13 => some 20 | 14 => some 20 | 15 => some 20 | 16 => some 20 | 17 => some 20 | 18 => some 20 | 19 => some 20 | 22 => some 20 | 23 => some 20 | 24 => some 20 | 25 => some 20 | 26 => some 20 | 27 => some 20 | 31 => some 20 | 32 => some 20 | 42 => some 20 | 43 => some 20 | _ => none)
  | _ => none
/-- which fields are references, and to what; kinds from 30 on are objects that are being made -/
def fr (w : HW) (k i f : Nat) : Option (Nat × Option Nat) := match k with
  | 0 => (match f with | 0 => some (18, some 0) | _ => none)
  | 1 => (match f with | 0 => some (2, some 0) | 1 => some (16, some 0) | 2 => some (0, some 0) | 3 => some (7, some 0) | 5 => some (13, some 3) | _ => none)
  | 2 => (match f with | 0 => some (15, some 0) | 2 => some (13, some 0) | 3 => some (13, some 1) | 5 => some (13, some 2) | _ => none)
  | 3 => (match f with | 4 => some (13, some (i + 4)) | _ => none)
  | 5 => (match f with | 0 => some (8, some 0) | _ => none)
  | 7 => (match f with | 0 => some (12, some (1 + i)) | _ => none)
  | 8 => (match f with | 0 => some (12, some 0) | _ => none)
  | 10 => (match f with | 0 => some (2, some 0) | 1 => some (8, some 0) | 2 => some (5, some 0) | 3 => some (16, some 0) | 4 => some (0, some 0) | 5 => some (17, some 0) | 6 => some (1, some 0) | 7 => some (6, some 0) | 8 => some (9, w.2 10 0) | _ => none)
  | 11 => (match f with | 2 => some (20, some 0) | 3 => some (20, some 1) | 4 => some (20, some 2) | 5 => some (20, some 3) | 6 => some (20, some 4) | 8 => some (20, some 5) | 9 => some (20, some 6) | 10 => some (20, some 7) | 11 => some (20, some 8) | 12 => some (21, some 0) | 13 => some (20, some 9) | 14 => some (20, some 10) | 15 => some (20, some 11) | 16 => some (20, some 12) | 17 => some (20, some 13) | 18 => some (20, some 14) | 19 => some (20, some 15) | 22 => some (20, some 16) | 23 => some (20, some 17) | 24 => some (20, some 18) | 25 => some (20, some 19) | 26 => some (20, some 20) | 27 => some (20, some 21) | 31 => some (20, some 22) | 32 => some (20, some 23) | 42 => some (20, some 24) | 43 => some (20, some 25) | _ => none)
  | k => bif Nat.ble 30 k then (match frk (k - 30) f with | some t => some (t, w.2 k f) | none => none) else none
def fld (w : HW) (σ : HS) (k i f : Nat) : HV := match fr w k i f with
  | some r => .inr (.inl r)
  | none => .inl (σ k i f)
def nfr (k : Nat) : Nat := match k with
  | 0 => 3 | 1 => 6 | 2 => 6 | 3 => 5 | 4 => 6 | 5 => 4 | 6 => 4 | 7 => 2 | 8 => 2 | 9 => 8 | 10 => 9 | 11 => 44 | _ => 0
def nfd (k : Nat) : Nat := match k with
  | 0 => 3 | 1 => 6 | 2 => 6 | 3 => 5 | 4 => 6 | 5 => 4 | 6 => 4 | 7 => 2 | 8 => 2 | 9 => 8 | 10 => 9 | 11 => 44 | k => bif Nat.ble 30 k then nfr (k - 30) else 0
def al (k i : Nat) : Nat := match k with
  | 12 => 60
  | 13 => (match i with | 0 => 4 | 1 => 14 | 2 => 10 | 3 => 119 | _ => 14)
  | 15 => 10 | 16 => 4 | 17 => 2 | 18 => 100
  | 20 => (match i with | 4 => 140 | 5 => 14 | 6 => 14 | 7 => 14 | 9 => 4 | 10 => 4 | 11 => 4 | 12 => 4 | 13 => 4 | 14 => 4 | 15 => 60 | 16 => 100 | 17 => 100 | 18 => 100 | 19 => 100 | 20 => 100 | 21 => 100 | 22 => 2 | 23 => 120 | 24 => 100 | 25 => 60 | _ => 10)
  | 21 => 4
  | _ => 0
/-- rows of references; the kind of what they hold; the number of a row's class -/
def isRA (k : Nat) : Bool := Nat.ble 15 k && Nat.ble k 18
def ek (k : Nat) : Nat := match k with
  | 15 => 3 | 16 => 4 | 17 => 7 | _ => 9
def ac (k : Nat) : Nat := match k with
  | 12 => 0 | 13 => 1 | 20 => 1 | 21 => 2 | 15 => 3 | 16 => 4 | 17 => 5 | _ => 6
def ent (G : HG) (g : HA) (w : HW) (σ : HS) (k i : Nat) : va_E :=
  bif Nat.blt k 12 then .inr (k, (List.range (nfd k)).map fun f => toV g (fld w σ k i f))
  else bif isRA k then .inl (G.2.1 (ac k), al k i, .inr (.inr (.inr (.inr fun j => (w.2 k j).map (g (ek k))))))
  else bif Nat.ble 30 k then .inr (k - 30, (List.range (nfd k)).map fun f => toV g (fld w σ k i f))
  else .inl (G.2.1 (ac k), al k i, .inl (σ k i))
def tysG (G : HG) : List (ClassId × FieldType) := [(G.2.1 0, .byte), (G.2.1 1, .int), (G.2.1 2, .boolean), (G.2.1 3, .object RX3), (G.2.1 4, .object RX4), (G.2.1 5, .object RX7), (G.2.1 6, .object RX9)]
def GE (g : HA) (w : HW) (g' : HA) (w' : HW) : Prop := ∀ k i, i < w.1 k → i < w'.1 k ∧ g' k i = g k i
def Wf (w : HW) : Prop := (∀ k i f kk o, i < w.1 k → fr w k i f = some (kk, some o) → o < w.1 kk) ∧ (∀ k j o, isRA k = true → w.2 k j = some o → o < w.1 (ek k)) ∧ (∀ k, isRA k = true → w.1 k ≤ 1) ∧ w.1 10 ≤ 1
/-- of the objects that are being made one a kind may live -/
def lvd (w : HW) (k i : Nat) : Prop := Nat.ble 30 k = true → w.2 k 99 = some i
theorem lvd_lt {w : HW} {k i : Nat} (h : k < 22) : lvd w k i := fun h2 => absurd (Nat.le_of_ble_eq_true h2) (by omega)
def RepS (G : HG) (A : Nat → Prop) (g : HA) (w : HW) (σ : HS) (H : Heap) : Prop :=
  (∀ k i, k < 42 → i < w.1 k → lvd w k i → va_at G.1 vwCl (g k i, ent G g w σ k i) H ∧ A (g k i)) ∧
  (∀ k i k' i', k < 42 → k' < 42 → i < w.1 k → i' < w.1 k' → lvd w k i → lvd w k' i' → g k i = g k' i' → k = k' ∧ i = i') ∧ ((∀ c, g 43 c = G.2.2.1 c ∧ g 44 c = G.2.2.2 c) ∧ w.1 43 = 7 ∧ w.1 44 = 6) ∧ Wf w
theorem RepS.at {G : HG} {A : Nat → Prop} {g : HA} {w : HW} {σ : HS} {H : Heap} (hR : RepS G A g w σ H) {k i : Nat} (hk : k < 22) (hi : i < w.1 k) : va_at G.1 vwCl (g k i, ent G g w σ k i) H ∧ A (g k i) := hR.1 k i (by omega) hi (lvd_lt hk)
theorem GE.rf {g : HA} {w : HW} : GE g w g w := fun _ _ h => ⟨h, rfl⟩
theorem GE.tr {g g' g'' : HA} {w w' w'' : HW} (h1 : GE g w g' w') (h2 : GE g' w' g'' w'') : GE g w g'' w'' := fun k i h =>
  ⟨(h2 k i (h1 k i h).1).1, ((h2 k i (h1 k i h).1).2).trans (h1 k i h).2⟩
theorem toV_ge {g g' : HA} {w w' : HW} (h : GE g w g' w') {v : HV} (hv : VLv w v) : toV g' v = toV g v ∧ VLv w' v := by
  rcases v with x | ⟨k, _ | i⟩ | x
  · exact ⟨rfl, trivial⟩
  · exact ⟨rfl, trivial⟩
  · exact ⟨congrArg Value.ref (h k i hv).2, (h k i hv).1⟩
  · exact ⟨rfl, trivial⟩
theorem map_ge {g g' : HA} {w w' : HW} (h : GE g w g' w') : ∀ {st : List HV}, (∀ v ∈ st, VLv w v) → st.map (toV g') = st.map (toV g) ∧ ∀ v ∈ st, VLv w' v
  | [], _ => ⟨rfl, fun _ hv => absurd hv List.not_mem_nil⟩
  | a :: r, hs => by
    have h1 := toV_ge h (hs a List.mem_cons_self)
    have h2 := map_ge h (st := r) (fun v hv => hs v (List.mem_cons_of_mem _ hv))
    exact ⟨by rw [List.map_cons, List.map_cons, h1.1, h2.1], fun v hv => (List.mem_cons.mp hv).elim (fun e => e ▸ h1.2) (h2.2 v)⟩
theorem up3_ne {σ : HS} {k i f k' i' : Nat} {v : Int32} (h : ¬ (k' = k ∧ i' = i)) : up3 σ k i f v k' i' = σ k' i' := by
  funext c
  exact if_neg fun q => h ⟨q.1, q.2.1⟩
theorem up3_row (σ : HS) (k i f : Nat) (v : Int32) : up3 σ k i f v k i = upd (σ k i) f v := by
  funext c
  by_cases h : c = f
  · subst h; simp [up3, upd]
  · simp [up3, upd, h]
theorem ent_congr {G : HG} {g : HA} {w : HW} {σ σ' : HS} {k i : Nat} (h : σ' k i = σ k i) : ent G g w σ' k i = ent G g w σ k i := by
  simp only [ent, fld, h]
theorem RepS.updL {G : HG} {A : Nat → Prop} {g : HA} {w : HW} {σ σ' : HS} {H H1 : Heap} (hR : RepS G A g w σ H) {k i : Nat} (hk : k < 42) (hi : i < w.1 k) (hl : lvd w k i) (he : va_at G.1 vwCl (g k i, ent G g w σ' k i) H1) (ho : ∀ q : Nat, q ≠ g k i → H1[q]? = H[q]?) (hσ : ∀ k' i', ¬ (k' = k ∧ i' = i) → σ' k' i' = σ k' i') : RepS G A g w σ' H1 := by
  refine ⟨fun k' i' hk' hi' hl' => ?_, hR.2⟩
  by_cases h : k' = k ∧ i' = i
  · obtain ⟨rfl, rfl⟩ := h
    exact ⟨he, (hR.1 _ _ hk hi hl).2⟩
  · rw [ent_congr (hσ _ _ h)]
    exact ⟨(hR.1 k' i' hk' hi' hl').1.kept (ho _ fun e => h (hR.2.1 _ _ _ _ hk' hk hi' hi hl' hl e)), (hR.1 k' i' hk' hi' hl').2⟩
theorem RepS.upd {G : HG} {A : Nat → Prop} {g : HA} {w : HW} {σ σ' : HS} {H H1 : Heap} (hR : RepS G A g w σ H) {k i : Nat} (hk : k < 22) (hi : i < w.1 k) (he : va_at G.1 vwCl (g k i, ent G g w σ' k i) H1) (ho : ∀ q : Nat, q ≠ g k i → H1[q]? = H[q]?) (hσ : ∀ k' i', ¬ (k' = k ∧ i' = i) → σ' k' i' = σ k' i') : RepS G A g w σ' H1 := hR.updL (by omega) hi (lvd_lt hk) he ho hσ
theorem set_map {n f : Nat} (F F' : Nat → Value) (h1 : ∀ j, j ≠ f → F' j = F j) (hf : f < n) : ((List.range n).map F).set f (F' f) = (List.range n).map F' := by
  apply List.ext_getElem?
  intro j
  by_cases hj : j = f
  · subst hj
    rw [List.getElem?_set_self (by simpa using hf)]
    simp [hf]
  · rw [List.getElem?_set_ne (Ne.symm hj)]
    by_cases hn : j < n
    · simp [hn, h1 j hj]
    · simp [hn]
theorem ent_obj {G : HG} {g : HA} {w : HW} {σ : HS} {k i : Nat} (hk : Nat.blt k 12 = true) : ent G g w σ k i = .inr (k, (List.range (nfd k)).map fun f => toV g (fld w σ k i f)) := by
  simp [ent, hk]
theorem ent_row {G : HG} {g : HA} {w : HW} {σ : HS} {k i : Nat} (hk : Nat.blt k 12 = false) (h2 : isRA k = false) (h3 : Nat.ble 30 k = false) : ent G g w σ k i = .inl (G.2.1 (ac k), al k i, .inl (σ k i)) := by
  simp only [ent, hk, h2, h3, cond_false]
theorem ent_raw {G : HG} {g : HA} {w : HW} {σ : HS} {k i : Nat} (h3 : Nat.ble 30 k = true) : ent G g w σ k i = .inr (k - 30, (List.range (nfd k)).map fun f => toV g (fld w σ k i f)) := by
  have h1 : Nat.blt k 12 = false := by
    cases h : Nat.blt k 12 with
    | false => rfl
    | true => rw [Nat.blt_eq] at h; have := Nat.le_of_ble_eq_true h3; omega
  have h2 : isRA k = false := by
    cases h : isRA k with
    | false => rfl
    | true =>
      unfold isRA at h
      rw [Bool.and_eq_true] at h
      have h4 := Nat.le_of_ble_eq_true h.2
      have := Nat.le_of_ble_eq_true h3
      omega
  simp only [ent, h1, h2, h3, cond_false, cond_true]
theorem ent_ref {G : HG} {g : HA} {w : HW} {σ : HS} {k i : Nat} (hk : Nat.blt k 12 = false) (h2 : isRA k = true) : ent G g w σ k i = .inl (G.2.1 (ac k), al k i, .inr (.inr (.inr (.inr fun j => (w.2 k j).map (g (ek k)))))) := by
  simp [ent, hk, h2]
theorem fld_put {g : HA} {w : HW} {σ : HS} {k i f : Nat} {v : Int32} (hf : fr w k i f = none) (hn : f < nfd k) : ((List.range (nfd k)).map fun f => toV g (fld w σ k i f)).set f (.int v) = (List.range (nfd k)).map fun f' => toV g (fld w (up3 σ k i f v) k i f') := by
  have h := set_map (n := nfd k) (f := f) (fun f => toV g (fld w σ k i f)) (fun f' => toV g (fld w (up3 σ k i f v) k i f')) (fun j hj => by
    show toV g (fld w (up3 σ k i f v) k i j) = _
    have : up3 σ k i f v k i j = σ k i j := if_neg fun q => hj q.2.2
    simp only [fld, this]) hn
  have e : toV g (fld w (up3 σ k i f v) k i f) = .int v := by
    have : up3 σ k i f v k i f = v := if_pos ⟨rfl, rfl, rfl⟩
    simp only [fld, hf, this]
    rfl
  rw [← h]
  show _ = ((List.range (nfd k)).map _).set f (toV g (fld w (up3 σ k i f v) k i f))
  rw [e]
theorem va_one {D : va_G} {cl : List vw_C} {q : Nat × va_E} {H : Heap} (h : va_at D cl q H) : va_P D cl [q] H := by
  intro k r hk
  cases k with
  | zero => rw [List.getElem?_cons_zero] at hk; cases hk; exact h
  | succ k => rw [List.getElem?_cons_succ] at hk; simp at hk
/-! writes: what the tables say of a class's fields, what a write makes of an object, what it makes of a row -/
section HX
variable {p : Program} {l : Launch} {e : Env} {R : Room} {s : State} {m : MethodId} {args : Array Value} {below : List Frame} {meth : Method} {c : Code} {H : Heap} {locs : List Loc} {cells slots : Nat} {Q : State → Prop}
variable {pc ix : Nat} {ls : Array Slot} {rest : List Value} {D : va_G} {cl : List vw_C} {a ci N k : Nat} {tys : List (ClassId × FieldType)} {C own : String} {T : u_T}
/-- class number ci is C, its N fields are T's, the tables know them, and no two share a slot -/
def Kls (args : Array Value) (s : State) (D : va_G) (cl : List vw_C) (ci : Nat) (C : String) (T : u_T) (N : Nat) : Prop :=
  cl[ci]? = some (C, T, N) ∧ u_Kn s C T N (D.1 ci) (D.2 ci) ∧ (∀ w ∈ u_ws C T N, w.before args s = true) ∧ ∀ x y, x < N → y < N → x ≠ y → D.2 ci x ≠ D.2 ci y
theorem kls_of {Ts : List Cond} {ty : Nat → FieldType} (hc : cl[ci]? = some (C, T, N)) (hK : va_K D cl tys s) (hts : ∀ w ∈ Ts, w.before args s = true) (hin : ∀ w ∈ u_ws C T N, w ∈ Ts) (hty : ∀ k, k < N → parseFieldDescriptor (T k).2.2.1 = some (ty k)) (hnm : ∀ a, a < N → ∀ b, b < N → a ≠ b → (T a).2.1 ≠ (T b).2.1) : Kls args s D cl ci C T N :=
  ⟨hc, hK.1 ci _ hc, fun w h => hts w (hin w h), va_apart (own := C) hts hin ty hty hnm hK hc⟩
/-- field k as the machine finds it, and which values it takes -/
theorem Kls.found (h : Kls args s D cl ci C T N) (hk : k < N) : ∃ (o : Nat) (ko : Class) (i : Nat) (fd : Field), s.fieldFound? (T k).1 (T k).2.1 (T k).2.2.1 = some (o, ko, i, fd) ∧ fd.slot = D.2 ci k ∧ fd.isStatic = false ∧
    (∀ ty v, parseFieldDescriptor (T k).2.2.1 = some ty → narrow ty v = v ∧ fits ty v = true → (narrow fd.type v = v ∧ s.fitsSlot (D.1 ci) .none fd.slot v = true) ∧ ((T k).2.2.2 = false → k2_Sd s fd (D.1 ci) v)) ∧ ((T k).2.2.2 = true → s.vm.findClass (T k).1 = some o) := by
  obtain ⟨-, ⟨hS, hC, kC, hk1, hk2⟩, hw, -⟩ := h
  have hu := hw _ (u_in_lay hk)
  have hor := u_lays hw (fun _ z => z) hk
  obtain ⟨o, ko, i, fd, hi, hs⟩ := hS k hk
  refine ⟨o, ko, i, fd, hi, hs, (u_facts hC hk1 hor hi).1, fun ty v h1 h2 => ⟨u_fits hC hk1 hk2 hor hi h1 h2.1 h2.2, fun hf => ?_⟩, fun hf => ?_⟩
  · have hu : (Cond.lays C (T k).1 (T k).2.1 (T k).2.2.1).before args s = true := by simpa [u_lay, hf] using hu
    exact u_store hC hk1 hk2 hu hi h1 h2.1 h2.2
  · have hu : (Cond.laysFinal C (T k).1 (T k).2.1 (T k).2.2.1).before args s = true := by simpa [u_lay, hf] using hu
    have hz := Cond.laysFinal_spec hu
    rw [hi] at hz
    grind
/-- the cell of an object, and the object behind a write of its field k -/
theorem Kls.wrote (h : Kls args s D cl ci C T N) {fs : List Value} (hat : va_at D cl (a, .inr (ci, fs)) H) (hk : k < N) (hl : k < fs.length) : ∃ cell : Cell, H[a]? = some cell ∧ cell.cls = D.1 ci ∧ cell.vm = .none ∧ D.2 ci k < cell.slots.size ∧ ∀ (H1 : Heap) (v : Value), H1[a]? = some (cell.setSlot (D.2 ci k) v) → va_at D cl (a, .inr (ci, fs.set k v)) H1 := by
  obtain ⟨_, h0, cell, h1, h2, h3, h4⟩ := hat
  cases h0.symm.trans h.1
  refine ⟨cell, h1, h2, h3, k2_hasslot (h4 k hk), fun H1 v hH => ⟨_, h.1, _, hH, h2, h3, fun j hj => ?_⟩⟩
  rw [t_set h4 h.2.2.2 hk v j hj, vp_updV_set hl]
/-- the walk goes on at frame g, in any heap in which cell a alone is another, and P holds -/
abbrev Onto (p : Program) (l : Launch) (e : Env) (R : Room) (s : State) (m : MethodId) (args : Array Value) (below : List Frame) (meth : Method) (c : Code) (H : Heap) (locs : List Loc) (cells slots : Nat) (Q : State → Prop) (a : Nat) (g : JFrame) (P : Heap → Prop) : Prop :=
  ∀ (H1 : Heap) (sl : Nat), P H1 → H1.size = H.size → (∀ q : Nat, q ≠ a → H1[q]? = H[q]?) → W p l e R s m args below meth c H1 (locs ++ [⟨a, sl⟩]) cells slots Q g
theorem hx_put (hx : p.tables.exec = Jvm.exec) (hC : Kls args s D cl ci C T N) (hown : s.vm.findClass own = some m.cls) {fs : List Value} (hat : va_at D cl (a, .inr (ci, fs)) H) (hk : k < N) (hw : (Cond.fieldLink own ix (T k).1 (T k).2.1 (T k).2.2.1).before args s = true) (hf : (T k).2.2.2 = false) {ty : FieldType} {v : Value} (ht : parseFieldDescriptor (T k).2.2.1 = some ty) (hv : narrow ty v = v ∧ fits ty v = true) (hl : k < fs.length) (hd : decode c.code pc = .ok (.putfield ix, 3))
    (go : Onto p l e R s m args below meth c H locs cells slots Q a (F0 m (pc + 3) ls rest) fun H1 => va_at D cl (a, .inr (ci, fs.set k v)) H1) : W p l e R s m args below meth c H locs cells slots Q (F0 m pc ls (v :: .ref a :: rest)) := by
  obtain ⟨o, ko, i, fd, f1, f2, f3, f4, -⟩ := hC.found hk
  obtain ⟨cell, c1, c2, c3, c4, c5⟩ := hC.wrote hat hk hl
  have f5 := (f4 ty v ht hv).2 hf
  rw [← c2] at f5
  rw [← f2] at c4 c5
  exact W.putK hx rfl ⟨hown, hw, ⟨o, ko, i, f1⟩, f3⟩ f5 c1 c3 c4 rfl rfl hd fun H1 z => go H1 _ (c5 H1 v z)
theorem hx_putN (hx : p.tables.exec = Jvm.exec) (hC : Kls args s D cl ci C T N) (hown : s.vm.findClass own = some m.cls) {fs : List Value} (hat : va_at D cl (a, .inr (ci, fs)) H) (hk : k < N) {host : String} (hw : (Cond.fieldLinkNest own ix (T k).1 (T k).2.1 (T k).2.2.1 host).before args s = true) (hf : (T k).2.2.2 = false) {ty : FieldType} {v : Value} (ht : parseFieldDescriptor (T k).2.2.1 = some ty) (hv : narrow ty v = v ∧ fits ty v = true) (hl : k < fs.length) (hd : decode c.code pc = .ok (.putfield ix, 3))
    (go : Onto p l e R s m args below meth c H locs cells slots Q a (F0 m (pc + 3) ls rest) fun H1 => va_at D cl (a, .inr (ci, fs.set k v)) H1) : W p l e R s m args below meth c H locs cells slots Q (F0 m pc ls (v :: .ref a :: rest)) := by
  obtain ⟨o, ko, i, fd, f1, f2, f3, f4, -⟩ := hC.found hk
  obtain ⟨cell, c1, c2, c3, c4, c5⟩ := hC.wrote hat hk hl
  have f5 := (f4 ty v ht hv).2 hf
  rw [← c2] at f5
  rw [← f2] at c4 c5
  exact va_WputK hx rfl hown hw f1 f3 f5 c1 c3 c4 rfl rfl hd fun H1 z => go H1 _ (c5 H1 v z)
/-- a final field, in the class's own constructor -/
theorem hx_putF (hx : p.tables.exec = Jvm.exec) (hC : Kls args s D cl ci C T N) (hown : s.vm.findClass own = some m.cls) {fs : List Value} (hat : va_at D cl (a, .inr (ci, fs)) H) (hk : k < N) (hw : (Cond.fieldLink own ix (T k).1 (T k).2.1 (T k).2.2.1).before args s = true) (hf : (T k).2.2.2 = true) (hm : meth.name = "<init>") (ho : (T k).1 = own) {ty : FieldType} {v : Value} (ht : parseFieldDescriptor (T k).2.2.1 = some ty) (hv : narrow ty v = v ∧ fits ty v = true) (hl : k < fs.length) (hd : decode c.code pc = .ok (.putfield ix, 3))
    (go : Onto p l e R s m args below meth c H locs cells slots Q a (F0 m (pc + 3) ls rest) fun H1 => va_at D cl (a, .inr (ci, fs.set k v)) H1) : W p l e R s m args below meth c H locs cells slots Q (F0 m pc ls (v :: .ref a :: rest)) := by
  obtain ⟨o, ko, i, fd, f1, f2, f3, f4, f5⟩ := hC.found hk
  obtain ⟨cell, c1, c2, c3, c4, c5⟩ := hC.wrote hat hk hl
  have f6 := f5 hf
  rw [ho, hown] at f6
  have f7 := (f4 ty v ht hv).1
  rw [← c2] at f7
  rw [← f2] at c4 c5
  exact W.putFinK hx rfl hown hw f1 f3 (Option.some.inj f6) hm f7 c1 c3 c4 rfl rfl hd fun H1 z => go H1 _ (c5 H1 v z)
theorem row_in {cA : ClassId} {n : Nat} {f : Nat → Int32} {i : Int32} (h : vp_in i n) : ¬ (i < 0 ∨ (vp_cell cA (n, .inl f)).slots.size ≤ i.toNatClampNeg) := by
  rwa [vp_cell_i, arrV_size]
theorem row_wr {cA : ClassId} {n j : Nat} {f : Nat → Int32} {x : Int32} {H1 : Heap} (h : H1[a]? = some ((vp_cell cA (n, .inl f)).setSlot j (.int x))) : va_at D cl (a, .inl (cA, n, .inl (upd f j x))) H1 := by
  have hf : updV (fun i => .int (f i)) j (.int x) = fun i => .int (upd f j x i) := funext fun i => (apply_ite Value.int (i = j) x (f i)).symm
  rw [vp_cell_i, arrV_store, hf] at h
  exact h
section Rows
variable {t cA n : Nat} {f : Nat → Int32} {i x : Int32}
theorem hx_iast (hx : p.tables.exec = Jvm.exec) (hK : va_K D cl tys s) (ht : tys[t]? = some (cA, .int)) (hat : va_at D cl (a, .inl (cA, n, .inl f)) H) (hi : vp_in i n) (hd : decode c.code pc = .ok (.iastore, 1))
    (go : Onto p l e R s m args below meth c H locs cells slots Q a (F0 m (pc + 1) ls rest) fun H1 => va_at D cl (a, .inl (cA, n, .inl (upd f i.toNatClampNeg x))) H1) : W p l e R s m args below meth c H locs cells slots Q (F0 m pc ls (.int x :: .int i :: .ref a :: rest)) :=
  W.iast hx rfl hat ((hK.2 t _ ht).1 n fun j => .int (f j)) nofun (row_in hi) rfl rfl hd fun H1 z => go H1 _ (row_wr z)
theorem hx_bast (hx : p.tables.exec = Jvm.exec) (hK : va_K D cl tys s) (ht : tys[t]? = some (cA, .byte)) (hat : va_at D cl (a, .inl (cA, n, .inl f)) H) (hi : vp_in i n) (hd : decode c.code pc = .ok (.bastore, 1))
    (go : Onto p l e R s m args below meth c H locs cells slots Q a (F0 m (pc + 1) ls rest) fun H1 => va_at D cl (a, .inl (cA, n, .inl (upd f i.toNatClampNeg x.toInt8.toInt32))) H1) : W p l e R s m args below meth c H locs cells slots Q (F0 m pc ls (.int x :: .int i :: .ref a :: rest)) :=
  W.bast hx rfl hat ((hK.2 t _ ht).1 n fun j => .int (f j)) nofun (row_in hi) rfl rfl hd fun H1 z => go H1 _ (row_wr z)
theorem hx_zast (hx : p.tables.exec = Jvm.exec) (hK : va_K D cl tys s) (ht : tys[t]? = some (cA, .boolean)) (hat : va_at D cl (a, .inl (cA, n, .inl f)) H) (hi : vp_in i n) (hn : narrow .boolean (.int x) = .int x) (hd : decode c.code pc = .ok (.bastore, 1))
    (go : Onto p l e R s m args below meth c H locs cells slots Q a (F0 m (pc + 1) ls rest) fun H1 => va_at D cl (a, .inl (cA, n, .inl (upd f i.toNatClampNeg x))) H1) : W p l e R s m args below meth c H locs cells slots Q (F0 m pc ls (.int x :: .int i :: .ref a :: rest)) :=
  W.zast hx rfl hat ((hK.2 t _ ht).1 n fun j => .int (f j)) nofun (row_in hi) rfl rfl hd fun H1 z => go H1 _ (row_wr (hn ▸ z))
end Rows
end HX
end
section
/-! OUR FRAME, 2: instructions as steps of verification conditions, and that each is sound -/
def hpop (l : List HV) (f : HV → List HV → Prop) : Prop := match l with
  | a :: r => f a r
  | [] => False
def hpI (v : HV) (f : Int32 → Prop) : Prop := match v with
  | .inl x => f x
  | _ => False
def hpO (v : HV) (f : Nat → Option Nat → Prop) : Prop := match v with
  | .inr (.inl (k, o)) => f k o
  | _ => False
def hpR (v : HV) (f : Nat → Nat → Prop) : Prop := match v with
  | .inr (.inl (k, some i)) => f k i
  | _ => False
def hpL (v : HV) (f : Int64 → Prop) : Prop := match v with
  | .inr (.inr x) => f x
  | _ => False
def hp1 (v : HV) (P : Prop) : Prop := match v with
  | .inr (.inr _) => False
  | _ => P
def hnil (l : List HV) (P : Prop) : Prop := match l with
  | [] => P
  | _ => False
def hopt (o : Option Nat) (a b : Prop) : Prop := match o with
  | none => a
  | some _ => b
def lkp (ls : HLs) (i : Nat) : Option HV := match ls, i with
  | [], _ => none
  | a :: _, 0 => a
  | _ :: r, n + 1 => lkp r n
def hget (o : Option HV) (f : HV → Prop) : Prop := match o with
  | some v => f v
  | none => False
def popI (st : List HV) (f : Int32 → List HV → Prop) : Prop := hpop st fun v r => hpI v fun x => f x r
def popO (st : List HV) (f : Nat → Option Nat → List HV → Prop) : Prop := hpop st fun v r => hpO v fun k o => f k o r
def popR (st : List HV) (f : Nat → Nat → List HV → Prop) : Prop := hpop st fun v r => hpR v fun k i => f k i r
def popL (st : List HV) (f : Int64 → List HV → Prop) : Prop := hpop st fun v r => hpL v fun x => f x r
def pop1 (st : List HV) (f : HV → List HV → Prop) : Prop := hpop st fun v r => hp1 v (f v r)
theorem hpop_s {l : List HV} {f : HV → List HV → Prop} (h : hpop l f) : ∃ a r, l = a :: r ∧ f a r := by
  cases l with
  | nil => exact h.elim
  | cons a r => exact ⟨a, r, rfl, h⟩
theorem popI_s {l : List HV} {f : Int32 → List HV → Prop} (h : popI l f) : ∃ x r, l = HI x :: r ∧ f x r := by
  obtain ⟨a, r, rfl, h⟩ := hpop_s h
  rcases a with x | ⟨k, o⟩ | x
  · exact ⟨x, r, rfl, h⟩
  · exact h.elim
  · exact h.elim
theorem popO_s {l : List HV} {f : Nat → Option Nat → List HV → Prop} (h : popO l f) : ∃ k o r, l = HO k o :: r ∧ f k o r := by
  obtain ⟨a, r, rfl, h⟩ := hpop_s h
  rcases a with x | ⟨k, o⟩ | x
  · exact h.elim
  · exact ⟨k, o, r, rfl, h⟩
  · exact h.elim
theorem popR_s {l : List HV} {f : Nat → Nat → List HV → Prop} (h : popR l f) : ∃ k i r, l = HR k i :: r ∧ f k i r := by
  obtain ⟨a, r, rfl, h⟩ := hpop_s h
  rcases a with x | ⟨k, _ | i⟩ | x
  · exact h.elim
  · exact h.elim
  · exact ⟨k, i, r, rfl, h⟩
  · exact h.elim
theorem popL_s {l : List HV} {f : Int64 → List HV → Prop} (h : popL l f) : ∃ x r, l = HL x :: r ∧ f x r := by
  obtain ⟨a, r, rfl, h⟩ := hpop_s h
  rcases a with x | ⟨k, o⟩ | x
  · exact h.elim
  · exact h.elim
  · exact ⟨x, r, rfl, h⟩
theorem pop1_s {l : List HV} {f : HV → List HV → Prop} (h : pop1 l f) : ∃ a r, l = a :: r ∧ (∀ g, (toV g a).category = 1) ∧ f a r := by
  obtain ⟨a, r, rfl, h⟩ := hpop_s h
  rcases a with x | ⟨k, _ | i⟩ | x
  · exact ⟨_, r, rfl, fun _ => rfl, h⟩
  · exact ⟨_, r, rfl, fun _ => rfl, h⟩
  · exact ⟨_, r, rfl, fun _ => rfl, h⟩
  · exact h.elim
theorem hget_s {o : Option HV} {f : HV → Prop} (h : hget o f) : ∃ v, o = some v ∧ f v := by
  cases o with
  | none => exact h.elim
  | some v => exact ⟨v, rfl, h⟩
theorem hpI_s {v : HV} {f : Int32 → Prop} (h : hpI v f) : ∃ x, v = HI x ∧ f x := by
  rcases v with x | ⟨k, o⟩ | x
  · exact ⟨x, rfl, h⟩
  · exact h.elim
  · exact h.elim
theorem hpO_s {v : HV} {f : Nat → Option Nat → Prop} (h : hpO v f) : ∃ k o, v = HO k o ∧ f k o := by
  rcases v with x | ⟨k, o⟩ | x
  · exact h.elim
  · exact ⟨k, o, rfl, h⟩
  · exact h.elim
theorem hnil_s {l : List HV} {P : Prop} (h : hnil l P) : l = [] ∧ P := by
  cases l with
  | nil => exact ⟨rfl, h⟩
  | cons a r => exact h.elim
theorem bif_s {b : Bool} {P : Prop} (h : bif b then P else False) : b = true ∧ P := by
  cases b with
  | true => exact ⟨rfl, h⟩
  | false => exact h.elim
/-- locals -/
def asl (g : HA) : Nat → HLs → List (Nat × Value)
  | _, [] => []
  | n, none :: r => asl g (n + 1) r
  | n, some v :: r => (n, toV g v) :: asl g (n + 1) r
theorem asl_mem {g : HA} : ∀ {ls : HLs} {n j : Nat} {v : HV}, lkp ls j = some v → (n + j, toV g v) ∈ asl g n ls
  | [], n, j, v, h => by simp [lkp] at h
  | a :: r, n, 0, v, h => by
    simp [lkp] at h
    subst h
    simp [asl]
  | a :: r, n, j + 1, v, h => by
    have h2 := asl_mem (g := g) (ls := r) (n := n + 1) (j := j) (v := v) (by simpa [lkp] using h)
    have e : n + 1 + j = n + (j + 1) := by omega
    rw [e] at h2
    cases a with
    | none => simpa [asl] using h2
    | some b => exact List.mem_cons_of_mem _ h2
theorem asl_of {g : HA} : ∀ {ls : HLs} {n : Nat} {q : Nat × Value}, q ∈ asl g n ls → ∃ j v, lkp ls j = some v ∧ q = (n + j, toV g v)
  | [], n, q, h => by simp [asl] at h
  | none :: r, n, q, h => by
    obtain ⟨j, v, h1, h2⟩ := asl_of (g := g) (ls := r) (n := n + 1) (by simpa [asl] using h)
    exact ⟨j + 1, v, by simpa [lkp] using h1, by rw [h2]; congr 1; omega⟩
  | some b :: r, n, q, h => by
    rcases List.mem_cons.mp h with h | h
    · exact ⟨0, b, rfl, h⟩
    · obtain ⟨j, v, h1, h2⟩ := asl_of (g := g) (ls := r) (n := n + 1) h
      exact ⟨j + 1, v, by simpa [lkp] using h1, by rw [h2]; congr 1; omega⟩
theorem lkp_set : ∀ {ls : HLs} {i j : Nat} {x : Option HV} {v : HV}, lkp (ls.set i x) j = some v → (j = i ∧ x = some v) ∨ (j ≠ i ∧ lkp ls j = some v)
  | [], i, j, x, v, h => by simp [lkp] at h
  | a :: r, 0, 0, x, v, h => by simp [lkp] at h; exact Or.inl ⟨rfl, h⟩
  | a :: r, 0, j + 1, x, v, h => by simp [lkp] at h; exact Or.inr ⟨by omega, by simpa [lkp] using h⟩
  | a :: r, i + 1, 0, x, v, h => by simp [lkp] at h; exact Or.inr ⟨by omega, by simpa [lkp] using h⟩
  | a :: r, i + 1, j + 1, x, v, h => by
    have h1 : lkp (r.set i x) j = some v := by simpa [lkp] using h
    rcases lkp_set h1 with ⟨e, h2⟩ | ⟨e, h2⟩
    · exact Or.inl ⟨by omega, h2⟩
    · exact Or.inr ⟨by omega, by simpa [lkp] using h2⟩
def LsOK (g : HA) (w : HW) (nL : Nat) (ls : HLs) (la : Array Slot) : Prop := lv_has la nL (asl g 0 ls) ∧ ∀ j v, lkp ls j = some v → VLv w v ∧ (toV g v).category = 1
theorem LsOK.at {g : HA} {w : HW} {nL : Nat} {ls : HLs} {la : Array Slot} (h : LsOK g w nL ls la) {i : Nat} {v : HV} (hv : lkp ls i = some v) : la[i]? = some (.val (toV g v)) := by
  have h1 := h.1.2.2 (0 + i, toV g v) (asl_mem hv)
  rw [Nat.zero_add] at h1
  exact h1
theorem LsOK.store {g : HA} {w : HW} {nL : Nat} {ls : HLs} {la la' : Array Slot} (h : LsOK g w nL ls la) {i : Nat} {v : HV} (hv : VLv w v) (hc : (toV g v).category = 1) (hn : lv_has la' nL ((i, toV g v) :: (asl g 0 ls).filter (fun q => !(q.1 == i) && !(q.1 + 1 == i && q.2.category == 2)))) : LsOK g w nL (ls.set i (some v)) la' := by
  refine ⟨⟨hn.1, hn.2.1, fun q hq => ?_⟩, fun j u hu => ?_⟩
  · obtain ⟨j, u, h1, rfl⟩ := asl_of hq
    rw [Nat.zero_add]
    rcases lkp_set h1 with ⟨e, h2⟩ | ⟨e, h2⟩
    · cases h2
      subst e
      exact hn.2.2 _ List.mem_cons_self
    · refine hn.2.2 (j, toV g u) (List.mem_cons_of_mem _ (List.mem_filter.mpr ⟨?_, ?_⟩))
      · have := asl_mem (g := g) (n := 0) h2
        rwa [Nat.zero_add] at this
      · have h3 := (h.2 j u h2).2
        simp [e, h3]
  · rcases lkp_set hu with ⟨e, h2⟩ | ⟨e, h2⟩
    · cases h2
      exact ⟨hv, hc⟩
    · exact h.2 j u h2
theorem asl_ge {g g' : HA} {w w' : HW} (h : GE g w g' w') : ∀ {ls : HLs} {n : Nat}, (∀ j v, lkp ls j = some v → VLv w v) → asl g' n ls = asl g n ls
  | [], _, _ => rfl
  | none :: r, n, hs => asl_ge h (ls := r) (n := n + 1) (fun j v hv => hs (j + 1) v (by simpa [lkp] using hv))
  | some b :: r, n, hs => by
    have h1 := (toV_ge h (hs 0 b rfl)).1
    have h2 := asl_ge h (ls := r) (n := n + 1) (fun j v hv => hs (j + 1) v (by simpa [lkp] using hv))
    simp only [asl, h1, h2]
theorem LsOK.ge {g g' : HA} {w w' : HW} {nL : Nat} {ls : HLs} {la : Array Slot} (hl : LsOK g w nL ls la) (h : GE g w g' w') : LsOK g' w' nL ls la := by
  refine ⟨?_, fun j v hv => ?_⟩
  · rw [asl_ge h fun j v hv => (hl.2 j v hv).1]
    exact hl.1
  · have h1 := toV_ge h (hl.2 j v hv).1
    exact ⟨h1.2, by rw [h1.1]; exact (hl.2 j v hv).2⟩
/-- what the machine's state at a place of a method is, in abstract words; it comes to a state with Q -/
def Wat (p : Program) (l : Launch) (e : Env) (R : Room) (s : State) (m : MethodId) (args : Array Value) (below : List Frame) (meth : Method) (c : Code) (cells slots : Nat) (Q : State → Prop) (G : HG) (A : Nat → Prop) (g0 : HA) (w0 : HW) (nL : Nat) (pc : Nat) (ls : HLs) (st : List HV) (w : HW) (σ : HS) : Prop :=
  ∀ (g : HA) (H : Heap) (locs : List Loc) (la : Array Slot), GE g0 w0 g w → RepS G A g w σ H → va_S A s.heap H locs → LsOK g w nL ls la → (∀ v ∈ st, VLv w v) → W p l e R s m args below meth c H locs cells slots Q (F0 m pc la (st.map (toV g)))
def slen : List Nat := [2, 3, 3, 4, 3, 2]
def sbyt : List (List Int32) := [[105, 110], [102, 97, 114], [97, 110, 100], [108, 111, 110, 103], [110, 111, 116], [111, 114]]
def ZS (G : HG) (A : Nat → Prop) (U : State) (H : Heap) : Prop := vk_S 6 slen sbyt G.2.2.1 G.2.2.2 A U H ∧ va_Z "java/lang/String" "COMPACT_STRINGS" "Z" (.int 1) A U H ∧ (va_Z "jdk/internal/util/Preconditions" "SIOOBE_FORMATTER" "Ljava/util/function/BiFunction;" .null A U H ∨ va_Z "jdk/internal/util/Preconditions" "SIOOBE_FORMATTER" "Ljava/util/function/BiFunction;" (.ref (G.2.2.1 6)) A U H)
theorem ZS.moved {G : HG} {A : Nat → Prop} {u U : State} {H : Heap} (hvm : u.vm.Alike U.vm) (h : ZS G A u H) : ZS G A U H := ⟨h.1.moved hvm, h.2.1.moved hvm, h.2.2.imp (fun q => q.moved hvm) (fun q => q.moved hvm)⟩
theorem ZS.kept {G : HG} {A : Nat → Prop} {U : State} {H H1 : Heap} (h : ZS G A U H) (hq : ∀ a : Nat, a < H.size → ¬ A a → H1[a]? = H[a]?) : ZS G A U H1 := ⟨h.1.kept hq, h.2.1.kept hq, h.2.2.imp (fun q => q.kept hq) (fun q => q.kept hq)⟩
def SRf (G : HG) (U : State) : Prop := vk_R RX5 35 "in" (G.2.2.1 0) U ∧ vk_R RX5 65 "far" (G.2.2.1 1) U ∧ vk_R RX5 73 "and" (G.2.2.1 2) U ∧ vk_R RX5 78 "long" (G.2.2.1 3) U ∧ vk_R RX5 83 "not" (G.2.2.1 4) U ∧ vk_R RX5 88 "or" (G.2.2.1 5) U
def QQ (G : HG) (A : Nat → Prop) (g : HA) (w : HW) (K : HRt) : Array Value → State → Outcome → State → Prop := fun _ st oc t => (∃ (r : Option HV) (w' : HW) (σ' : HS) (g' : HA), oc = .returned (r.map (toV g')) ∧ K r w' σ' ∧ GE g w g' w' ∧ (∀ v, r = some v → VLv w' v) ∧ RepS G A g' w' σ' t.heap) ∧ va_F A st t
def HCx (p : Program) (_ : Launch) (_ : Env) (R : Room) (s : State) (m : MethodId) (args : Array Value) (below : List Frame) (meth : Method) (c : Code) (cells slots mc ms : Nat) (Q : State → Prop) (G : HG) (A : Nat → Prop) (g0 : HA) (w0 : HW) (q : HRt) (cc : ByteArray) (own : String) (nL : Nat) (ret : Option FieldType) (lv : Nat) : Prop :=
  p.tables.exec = Jvm.exec ∧ c.code = cc ∧ c.maxLocals = nL ∧ s.vm.findClass own = some m.cls ∧ (∀ x ∈ TT, x.before args s = true) ∧ va_K G.1 vwCl (tysG G) s ∧ meth.sig.returnType = ret ∧ meth.locks = false ∧ ZS G A s s.heap ∧ SRf G s ∧ (∀ q, s.heap.size ≤ q → A q) ∧ (lv ≤ R.frames ∧ 30 * lv ≤ R.locals) ∧ (cells ≤ R.cells ∧ slots ≤ R.slots) ∧ (cells ≤ mc ∧ slots ≤ ms) ∧ (∀ v w σ, q v w σ → Q = MQ below (QQ G A g0 w0 q) args s mc ms A)
def HOK (cc : ByteArray) (own : String) (nL : Nat) (ret : Option FieldType) (lv : Nat) (pc : Nat) (op : HOp) : Prop :=
  ∀ (p : Program) (l : Launch) (e : Env) (R : Room) (s : State) (m : MethodId) (args : Array Value) (below : List Frame) (meth : Method) (c : Code) (cells slots mc ms : Nat) (Q : State → Prop) (G : HG) (A : Nat → Prop) (g0 : HA) (w0 : HW) (q : HRt),
    HCx p l e R s m args below meth c cells slots mc ms Q G A g0 w0 q cc own nL ret lv →
    ∀ k : HK, (∀ pc' ls st w σ, k pc' ls st w σ → Wat p l e R s m args below meth c cells slots Q G A g0 w0 nL pc' ls st w σ) → ∀ ls st w σ, op k q ls st w σ → Wat p l e R s m args below meth c cells slots Q G A g0 w0 nL pc ls st w σ
def o_bad : HOp := fun _ _ _ _ _ _ => False
def o_iload (i nx : Nat) : HOp := fun k _ ls st w σ => hget (lkp ls i) fun v => hpI v fun x => k nx ls (HI x :: st) w σ
def o_aload (i nx : Nat) : HOp := fun k _ ls st w σ => hget (lkp ls i) fun v => hpO v fun kd o => k nx ls (HO kd o :: st) w σ
def o_const (v : Int32) (nx : Nat) : HOp := fun k _ ls st w σ => k nx ls (HI v :: st) w σ
def o_null (kd nx : Nat) : HOp := fun k _ ls st w σ => k nx ls (HO kd none :: st) w σ
def o_istore (i nx : Nat) : HOp := fun k _ ls st w σ => popI st fun x r => k nx (ls.set i (some (HI x))) r w σ
def o_astore (i nx : Nat) : HOp := fun k _ ls st w σ => popO st fun kd o r => k nx (ls.set i (some (HO kd o))) r w σ
def o_iinc (i : Nat) (d : Int32) (nx : Nat) : HOp := fun k _ ls st w σ => hget (lkp ls i) fun v => hpI v fun x => k nx (ls.set i (some (HI (x + d)))) st w σ
def o_bin (f : Int32 → Int32 → Int32) (nx : Nat) : HOp := fun k _ ls st w σ => popI st fun y r => popI r fun x r => k nx ls (HI (f x y) :: r) w σ
def o_un (f : Int32 → Int32) (nx : Nat) : HOp := fun k _ ls st w σ => popI st fun x r => k nx ls (HI (f x) :: r) w σ
def o_dv (f : Int32 → Int32 → Int32) (nx : Nat) : HOp := fun k _ ls st w σ => popI st fun y r => popI r fun x r => ¬ y = 0 ∧ k nx ls (HI (f x y) :: r) w σ
def o_if (c : Int32 → Prop) (t1 t2 : Nat) : HOp := fun k _ ls st w σ => popI st fun x r => (c x → k t1 ls r w σ) ∧ (¬ c x → k t2 ls r w σ)
def o_icmp (c : Int32 → Int32 → Prop) (t1 t2 : Nat) : HOp := fun k _ ls st w σ => popI st fun y r => popI r fun x r => (c x y → k t1 ls r w σ) ∧ (¬ c x y → k t2 ls r w σ)
def o_goto (t : Nat) : HOp := fun k _ ls st w σ => k t ls st w σ
def o_ifnull (t nx : Nat) : HOp := fun k _ ls st w σ => popO st fun _ o r => hopt o (k t ls r w σ) (k nx ls r w σ)
def o_dup (nx : Nat) : HOp := fun k _ ls st w σ => pop1 st fun v r => k nx ls (v :: v :: r) w σ
def o_pop (nx : Nat) : HOp := fun k _ ls st w σ => pop1 st fun _ r => k nx ls r w σ
def o_dupx1 (nx : Nat) : HOp := fun k _ ls st w σ => pop1 st fun a r => pop1 r fun b r => k nx ls (a :: b :: a :: r) w σ
def o_dup2 (nx : Nat) : HOp := fun k _ ls st w σ => pop1 st fun a r => pop1 r fun b r => k nx ls (a :: b :: a :: b :: r) w σ
def o_getf (kd f nx : Nat) : HOp := fun k _ ls st w σ => popR st fun kk i r => bif Nat.beq kk kd then k nx ls (fld w σ kd i f :: r) w σ else False
/-- a field whose reference is not known beforehand -/
def o_getq (kd f t nx : Nat) : HOp := fun k _ ls st w σ => popR st fun kk _ r => bif Nat.beq kk kd then (∀ o, w.2 kd 0 = o → k nx ls (HO t o :: r) w σ) else False
def o_putf (kd f nx : Nat) : HOp := fun k _ ls st w σ => popI st fun v r => popR r fun kk i r => bif Nat.beq kk kd then k nx ls r w (up3 σ kd i f v) else False
def o_putz (kd f nx : Nat) : HOp := fun k _ ls st w σ => popI st fun v r => popR r fun kk i r => bif Nat.beq kk kd then (v = 0 ∨ v = 1) ∧ k nx ls r w (up3 σ kd i f v) else False
def o_alen (nx : Nat) : HOp := fun k _ ls st w σ => popR st fun kk i r => bif Nat.ble 12 kk && Nat.ble kk 21 then k nx ls (HI (nI (al kk i)) :: r) w σ else False
def o_iald (nx : Nat) : HOp := fun k _ ls st w σ => popI st fun j r => popR r fun kk i r => bif Nat.beq kk 13 || Nat.beq kk 20 then vp_in j (al kk i) ∧ k nx ls (HI (σ kk i j.toNatClampNeg) :: r) w σ else False
def o_bald (nx : Nat) : HOp := fun k _ ls st w σ => popI st fun j r => popR r fun kk i r => bif Nat.beq kk 12 || Nat.beq kk 21 then vp_in j (al kk i) ∧ k nx ls (HI (σ kk i j.toNatClampNeg) :: r) w σ else False
def o_aald (nx : Nat) : HOp := fun k _ ls st w σ => popI st fun j r => popR r fun kk i r => bif isRA kk then vp_in j (al kk i) ∧ (∀ o, w.2 kk j.toNatClampNeg = o → k nx ls (HO (ek kk) o :: r) w σ) else False
def o_iast (nx : Nat) : HOp := fun k _ ls st w σ => popI st fun v r => popI r fun j r => popR r fun kk i r => bif Nat.beq kk 13 || Nat.beq kk 20 then vp_in j (al kk i) ∧ k nx ls r w (up3 σ kk i j.toNatClampNeg v) else False
def o_bast (nx : Nat) : HOp := fun k _ ls st w σ => popI st fun v r => popI r fun j r => popR r fun kk i r => bif Nat.beq kk 12 then vp_in j (al kk i) ∧ k nx ls r w (up3 σ kk i j.toNatClampNeg v.toInt8.toInt32) else False
def o_zast (nx : Nat) : HOp := fun k _ ls st w σ => popI st fun v r => popI r fun j r => popR r fun kk i r => bif Nat.beq kk 21 then (v = 0 ∨ v = 1) ∧ vp_in j (al kk i) ∧ k nx ls r w (up3 σ kk i j.toNatClampNeg v) else False
def o_iret : HOp := fun _ q _ st w σ => popI st fun v r => hnil r (q (some (HI v)) w σ)
def o_zret : HOp := fun _ q _ st w σ => popI st fun v r => hnil r ((v = 0 ∨ v = 1) ∧ q (some (HI v)) w σ)
def o_aret : HOp := fun _ q _ st w σ => popO st fun kd o r => hnil r (q (some (HO kd o)) w σ)
def o_vret : HOp := fun _ q _ st w σ => hnil st (q none w σ)
def o_call (n : Nat) (sp : HSp) (nx : Nat) : HOp := fun k _ ls st w σ => sp (st.take n).reverse w σ fun r w' σ' => k nx ls (r.toList ++ st.drop n) w' σ'
def swc (k : Nat → Prop) (d : Nat) (x : Int32) : List (Int32 × Nat) → Prop
  | [] => k d
  | q :: r => (x = q.1 → k q.2) ∧ (¬ x = q.1 → swc k d x r)
def o_sw (ps : List (Int32 × Nat)) (d : Nat) : HOp := fun k _ ls st w σ => popI st fun x r => swc (fun t => k t ls r w σ) d x ps
def o_i2l (nx : Nat) : HOp := fun k _ ls st w σ => popI st fun x r => k nx ls (HL x.toInt64 :: r) w σ
def o_ladd (nx : Nat) : HOp := fun k _ ls st w σ => popL st fun y r => popL r fun x r => k nx ls (HL (x + y) :: r) w σ
theorem ok_bad {cc : ByteArray} {own : String} {nL : Nat} {ret : Option FieldType} {lv pc : Nat} : HOK cc own nL ret lv pc o_bad := fun _ _ _ _ _ _ _ _ _ _ _ _ _ _ _ _ _ _ _ _ _ _ _ _ _ _ _ h => h.elim
end
section
/-! OUR FRAME, 3: each instruction's step is sound -/
theorem ok_iload {cc : ByteArray} {own : String} {nL : Nat} {ret : Option FieldType} {lv pc : Nat} {i nx : Nat} (hd : decode cc pc = .ok (.iload i, 2)) (hn : pc + 2 = nx) : HOK cc own nL ret lv pc (o_iload i nx) := by
  intro p l e R s m args below meth c cells slots mc ms Q G A g0 w0 q C k hk ls st w σ ho
  obtain ⟨hx, hb, hml, hown, hts, hK, hr, hlk, hZ, hSR, hA, hlv, hcs, hcm, hQ⟩ := C
  subst hn
  intro g H locs la hge hR hS hL hst
  obtain ⟨v, hv, ho⟩ := hget_s ho
  obtain ⟨x, rfl, ho⟩ := hpI_s ho
  exact lv_iload hx hb hd (hL.at hv) (hk _ _ _ _ _ ho g H locs la hge hR hS hL (fun u hu => (List.mem_cons.mp hu).elim (fun e => e ▸ trivial) (hst u)))
theorem ok_iload_n {cc : ByteArray} {own : String} {nL : Nat} {ret : Option FieldType} {lv pc : Nat} {j : Fin 4} {i nx : Nat} (hd : decode cc pc = .ok (.iload_n j, 1)) (hj : (j : Nat) = i) (hn : pc + 1 = nx) : HOK cc own nL ret lv pc (o_iload i nx) := by
  intro p l e R s m args below meth c cells slots mc ms Q G A g0 w0 q C k hk ls st w σ ho
  obtain ⟨hx, hb, hml, hown, hts, hK, hr, hlk, hZ, hSR, hA, hlv, hcs, hcm, hQ⟩ := C
  subst hn
  intro g H locs la hge hR hS hL hst
  obtain ⟨v, hv, ho⟩ := hget_s ho
  obtain ⟨x, rfl, ho⟩ := hpI_s ho
  exact lv_iload_n hx hb hd hj (hL.at hv) (hk _ _ _ _ _ ho g H locs la hge hR hS hL (fun u hu => (List.mem_cons.mp hu).elim (fun e => e ▸ trivial) (hst u)))
theorem ok_aload {cc : ByteArray} {own : String} {nL : Nat} {ret : Option FieldType} {lv pc : Nat} {i nx : Nat} (hd : decode cc pc = .ok (.aload i, 2)) (hn : pc + 2 = nx) : HOK cc own nL ret lv pc (o_aload i nx) := by
  intro p l e R s m args below meth c cells slots mc ms Q G A g0 w0 q C k hk ls st w σ ho
  obtain ⟨hx, hb, hml, hown, hts, hK, hr, hlk, hZ, hSR, hA, hlv, hcs, hcm, hQ⟩ := C
  subst hn
  intro g H locs la hge hR hS hL hst
  obtain ⟨v, hv, ho⟩ := hget_s ho
  obtain ⟨kd, o, rfl, ho⟩ := hpO_s ho
  have hl := (hL.2 i _ hv).1
  have h2 := hk _ _ _ _ _ ho g H locs la hge hR hS hL (fun u hu => (List.mem_cons.mp hu).elim (fun e => e ▸ hl) (hst u))
  cases o with
  | none => exact lv_aloadN hx hb hd (hL.at hv) h2
  | some z => exact lv_aload hx hb hd (hL.at hv) h2
theorem ok_aload_n {cc : ByteArray} {own : String} {nL : Nat} {ret : Option FieldType} {lv pc : Nat} {j : Fin 4} {i nx : Nat} (hd : decode cc pc = .ok (.aload_n j, 1)) (hj : (j : Nat) = i) (hn : pc + 1 = nx) : HOK cc own nL ret lv pc (o_aload i nx) := by
  intro p l e R s m args below meth c cells slots mc ms Q G A g0 w0 q C k hk ls st w σ ho
  obtain ⟨hx, hb, hml, hown, hts, hK, hr, hlk, hZ, hSR, hA, hlv, hcs, hcm, hQ⟩ := C
  subst hn
  intro g H locs la hge hR hS hL hst
  obtain ⟨v, hv, ho⟩ := hget_s ho
  obtain ⟨kd, o, rfl, ho⟩ := hpO_s ho
  have hl := (hL.2 i _ hv).1
  have h2 := hk _ _ _ _ _ ho g H locs la hge hR hS hL (fun u hu => (List.mem_cons.mp hu).elim (fun e => e ▸ hl) (hst u))
  cases o with
  | none => exact lv_aload_nN hx hb hd hj (hL.at hv) h2
  | some z => exact lv_aload_n hx hb hd hj (hL.at hv) h2
theorem ok_iconst {cc : ByteArray} {own : String} {nL : Nat} {ret : Option FieldType} {lv pc : Nat} {n : Int} {v : Int32} {nx : Nat} (hd : decode cc pc = .ok (.iconst n, 1)) (hv : Int32.ofInt n = v) (hn : pc + 1 = nx) : HOK cc own nL ret lv pc (o_const v nx) := by
  intro p l e R s m args below meth c cells slots mc ms Q G A g0 w0 q C k hk ls st w σ ho
  obtain ⟨hx, hb, hml, hown, hts, hK, hr, hlk, hZ, hSR, hA, hlv, hcs, hcm, hQ⟩ := C
  subst hn
  intro g H locs la hge hR hS hL hst
  exact lv_iconst hx hb hd hv (hk _ _ _ _ _ ho g H locs la hge hR hS hL (fun u hu => (List.mem_cons.mp hu).elim (fun e => e ▸ trivial) (hst u)))
theorem ok_bipush {cc : ByteArray} {own : String} {nL : Nat} {ret : Option FieldType} {lv pc : Nat} {n : Int} {v : Int32} {nx : Nat} (hd : decode cc pc = .ok (.bipush n, 2)) (hv : (Int8.ofInt n).toInt32 = v) (hn : pc + 2 = nx) : HOK cc own nL ret lv pc (o_const v nx) := by
  intro p l e R s m args below meth c cells slots mc ms Q G A g0 w0 q C k hk ls st w σ ho
  obtain ⟨hx, hb, hml, hown, hts, hK, hr, hlk, hZ, hSR, hA, hlv, hcs, hcm, hQ⟩ := C
  subst hn
  intro g H locs la hge hR hS hL hst
  exact lv_bipush hx hb hd hv (hk _ _ _ _ _ ho g H locs la hge hR hS hL (fun u hu => (List.mem_cons.mp hu).elim (fun e => e ▸ trivial) (hst u)))
theorem ok_sipush {cc : ByteArray} {own : String} {nL : Nat} {ret : Option FieldType} {lv pc : Nat} {n : Int} {v : Int32} {nx : Nat} (hd : decode cc pc = .ok (.sipush n, 3)) (hv : (Int16.ofInt n).toInt32 = v) (hn : pc + 3 = nx) : HOK cc own nL ret lv pc (o_const v nx) := by
  intro p l e R s m args below meth c cells slots mc ms Q G A g0 w0 q C k hk ls st w σ ho
  obtain ⟨hx, hb, hml, hown, hts, hK, hr, hlk, hZ, hSR, hA, hlv, hcs, hcm, hQ⟩ := C
  subst hn
  intro g H locs la hge hR hS hL hst
  exact lv_sipush hx hb hd hv (hk _ _ _ _ _ ho g H locs la hge hR hS hL (fun u hu => (List.mem_cons.mp hu).elim (fun e => e ▸ trivial) (hst u)))
theorem ok_ldc {cc : ByteArray} {own : String} {nL : Nat} {ret : Option FieldType} {lv pc : Nat} {ix : Nat} {v : Int32} {nx : Nat} (hd : decode cc pc = .ok (.ldc ix, 2)) (hw : Cond.constant own ix v ∈ TT) (hn : pc + 2 = nx) : HOK cc own nL ret lv pc (o_const v nx) := by
  intro p l e R s m args below meth c cells slots mc ms Q G A g0 w0 q C k hk ls st w σ ho
  obtain ⟨hx, hb, hml, hown, hts, hK, hr, hlk, hZ, hSR, hA, hlv, hcs, hcm, hQ⟩ := C
  subst hn
  intro g H locs la hge hR hS hL hst
  exact lv_ldc hx hb hown (hts _ hw) hd (hk _ _ _ _ _ ho g H locs la hge hR hS hL (fun u hu => (List.mem_cons.mp hu).elim (fun e => e ▸ trivial) (hst u)))
theorem ok_ldcw {cc : ByteArray} {own : String} {nL : Nat} {ret : Option FieldType} {lv pc : Nat} {ix : Nat} {v : Int32} {nx : Nat} (hd : decode cc pc = .ok (.ldc_w ix, 3)) (hw : Cond.constant own ix v ∈ TT) (hn : pc + 3 = nx) : HOK cc own nL ret lv pc (o_const v nx) := by
  intro p l e R s m args below meth c cells slots mc ms Q G A g0 w0 q C k hk ls st w σ ho
  obtain ⟨hx, hb, hml, hown, hts, hK, hr, hlk, hZ, hSR, hA, hlv, hcs, hcm, hQ⟩ := C
  subst hn
  intro g H locs la hge hR hS hL hst
  exact lv_ldcw hx hb hown (hts _ hw) hd (hk _ _ _ _ _ ho g H locs la hge hR hS hL (fun u hu => (List.mem_cons.mp hu).elim (fun e => e ▸ trivial) (hst u)))
theorem ok_null {cc : ByteArray} {own : String} {nL : Nat} {ret : Option FieldType} {lv pc : Nat} {kd nx : Nat} (hd : decode cc pc = .ok (.aconst_null, 1)) (hn : pc + 1 = nx) : HOK cc own nL ret lv pc (o_null kd nx) := by
  intro p l e R s m args below meth c cells slots mc ms Q G A g0 w0 q C k hk ls st w σ ho
  obtain ⟨hx, hb, hml, hown, hts, hK, hr, hlk, hZ, hSR, hA, hlv, hcs, hcm, hQ⟩ := C
  subst hn
  intro g H locs la hge hR hS hL hst
  exact lv_null hx hb hd (hk _ _ _ _ _ ho g H locs la hge hR hS hL (fun u hu => (List.mem_cons.mp hu).elim (fun e => e ▸ trivial) (hst u)))
theorem ok_istore {cc : ByteArray} {own : String} {nL : Nat} {ret : Option FieldType} {lv pc : Nat} {i nx : Nat} (hd : decode cc pc = .ok (.istore i, 2)) (hi : i < nL) (hn : pc + 2 = nx) : HOK cc own nL ret lv pc (o_istore i nx) := by
  intro p l e R s m args below meth c cells slots mc ms Q G A g0 w0 q C k hk ls st w σ ho
  obtain ⟨hx, hb, hml, hown, hts, hK, hr, hlk, hZ, hSR, hA, hlv, hcs, hcm, hQ⟩ := C
  subst hn
  intro g H locs la hge hR hS hL hst
  obtain ⟨x, r, rfl, ho⟩ := popI_s ho
  exact lv_istore hx hb hd hL.1 hi rfl fun la' h' => hk _ _ _ _ _ ho g H locs la' hge hR hS (hL.store (v := HI x) trivial rfl h') (fun u hu => hst u (List.mem_cons_of_mem _ hu))
theorem ok_istore_n {cc : ByteArray} {own : String} {nL : Nat} {ret : Option FieldType} {lv pc : Nat} {j : Fin 4} {i nx : Nat} (hd : decode cc pc = .ok (.istore_n j, 1)) (hj : (j : Nat) = i) (hi : i < nL) (hn : pc + 1 = nx) : HOK cc own nL ret lv pc (o_istore i nx) := by
  intro p l e R s m args below meth c cells slots mc ms Q G A g0 w0 q C k hk ls st w σ ho
  obtain ⟨hx, hb, hml, hown, hts, hK, hr, hlk, hZ, hSR, hA, hlv, hcs, hcm, hQ⟩ := C
  subst hn
  intro g H locs la hge hR hS hL hst
  obtain ⟨x, r, rfl, ho⟩ := popI_s ho
  exact lv_istore_n hx hb hd hj hL.1 hi rfl fun la' h' => hk _ _ _ _ _ ho g H locs la' hge hR hS (hL.store (v := HI x) trivial rfl h') (fun u hu => hst u (List.mem_cons_of_mem _ hu))
theorem ok_astore {cc : ByteArray} {own : String} {nL : Nat} {ret : Option FieldType} {lv pc : Nat} {i nx : Nat} (hd : decode cc pc = .ok (.astore i, 2)) (hi : i < nL) (hn : pc + 2 = nx) : HOK cc own nL ret lv pc (o_astore i nx) := by
  intro p l e R s m args below meth c cells slots mc ms Q G A g0 w0 q C k hk ls st w σ ho
  obtain ⟨hx, hb, hml, hown, hts, hK, hr, hlk, hZ, hSR, hA, hlv, hcs, hcm, hQ⟩ := C
  subst hn
  intro g H locs la hge hR hS hL hst
  obtain ⟨kd, o, r, rfl, ho⟩ := popO_s ho
  have hl := hst _ List.mem_cons_self
  cases o with
  | none => exact lv_astoreN hx hb hd hL.1 hi rfl fun la' h' => hk _ _ _ _ _ ho g H locs la' hge hR hS (hL.store (v := HO kd none) hl rfl h') (fun u hu => hst u (List.mem_cons_of_mem _ hu))
  | some z => exact lv_astore hx hb hd hL.1 hi rfl fun la' h' => hk _ _ _ _ _ ho g H locs la' hge hR hS (hL.store (v := HR kd z) hl rfl h') (fun u hu => hst u (List.mem_cons_of_mem _ hu))
theorem ok_astore_n {cc : ByteArray} {own : String} {nL : Nat} {ret : Option FieldType} {lv pc : Nat} {j : Fin 4} {i nx : Nat} (hd : decode cc pc = .ok (.astore_n j, 1)) (hj : (j : Nat) = i) (hi : i < nL) (hn : pc + 1 = nx) : HOK cc own nL ret lv pc (o_astore i nx) := by
  intro p l e R s m args below meth c cells slots mc ms Q G A g0 w0 q C k hk ls st w σ ho
  obtain ⟨hx, hb, hml, hown, hts, hK, hr, hlk, hZ, hSR, hA, hlv, hcs, hcm, hQ⟩ := C
  subst hn
  intro g H locs la hge hR hS hL hst
  obtain ⟨kd, o, r, rfl, ho⟩ := popO_s ho
  have hl := hst _ List.mem_cons_self
  cases o with
  | none => exact lv_astore_nN hx hb hd hj hL.1 hi rfl fun la' h' => hk _ _ _ _ _ ho g H locs la' hge hR hS (hL.store (v := HO kd none) hl rfl h') (fun u hu => hst u (List.mem_cons_of_mem _ hu))
  | some z => exact lv_astore_n hx hb hd hj hL.1 hi rfl fun la' h' => hk _ _ _ _ _ ho g H locs la' hge hR hS (hL.store (v := HR kd z) hl rfl h') (fun u hu => hst u (List.mem_cons_of_mem _ hu))
theorem asl_idx {g : HA} {ls : HLs} {i : Nat} {v : HV} (h : lkp ls i = some v) : ∃ k : Nat, (asl g 0 ls)[k]? = some (i, toV g v) := by
  have h1 := asl_mem (g := g) (n := 0) h
  rw [Nat.zero_add] at h1
  exact List.getElem?_of_mem h1
theorem ok_iinc {cc : ByteArray} {own : String} {nL : Nat} {ret : Option FieldType} {lv pc : Nat} {i nx : Nat} {n : Int} {d : Int32} (hd : decode cc pc = .ok (.iinc i n, 3)) (hdd : Int32.ofInt n = d) (hi : i < nL) (hn : pc + 3 = nx) : HOK cc own nL ret lv pc (o_iinc i d nx) := by
  intro p l e R s m args below meth c cells slots mc ms Q G A g0 w0 q C k hk ls st w σ ho
  obtain ⟨hx, hb, hml, hown, hts, hK, hr, hlk, hZ, hSR, hA, hlv, hcs, hcm, hQ⟩ := C
  subst hn
  intro g H locs la hge hR hS hL hst
  obtain ⟨v, hv, ho⟩ := hget_s ho
  obtain ⟨x, rfl, ho⟩ := hpI_s ho
  obtain ⟨kx, hkx⟩ := asl_idx (g := g) hv
  exact lv_iinc hx hb hd hL.1 hkx (by rw [hdd]) hi rfl fun la' h' => hk _ _ _ _ _ ho g H locs la' hge hR hS (hL.store (v := HI (x + d)) trivial rfl h') hst
theorem ok_iadd {cc : ByteArray} {own : String} {nL : Nat} {ret : Option FieldType} {lv pc : Nat} {nx : Nat} (hd : decode cc pc = .ok (.iadd, 1)) (hn : pc + 1 = nx) : HOK cc own nL ret lv pc (o_bin (fun x y => x + y) nx) := by
  intro p l e R s m args below meth c cells slots mc ms Q G A g0 w0 q C k hk ls st w σ ho
  obtain ⟨hx, hb, hml, hown, hts, hK, hr, hlk, hZ, hSR, hA, hlv, hcs, hcm, hQ⟩ := C
  subst hn
  intro g H locs la hge hR hS hL hst
  obtain ⟨y, r0, rfl, ho1⟩ := popI_s ho
  obtain ⟨x, r, rfl, ho⟩ := popI_s ho1
  exact lv_iadd hx hb hd (hk _ _ _ _ _ ho g H locs la hge hR hS hL (fun u hu => (List.mem_cons.mp hu).elim (fun e => e ▸ trivial) (fun h => hst u (List.mem_cons_of_mem _ (List.mem_cons_of_mem _ h)))))
theorem ok_isub {cc : ByteArray} {own : String} {nL : Nat} {ret : Option FieldType} {lv pc : Nat} {nx : Nat} (hd : decode cc pc = .ok (.isub, 1)) (hn : pc + 1 = nx) : HOK cc own nL ret lv pc (o_bin (fun x y => x - y) nx) := by
  intro p l e R s m args below meth c cells slots mc ms Q G A g0 w0 q C k hk ls st w σ ho
  obtain ⟨hx, hb, hml, hown, hts, hK, hr, hlk, hZ, hSR, hA, hlv, hcs, hcm, hQ⟩ := C
  subst hn
  intro g H locs la hge hR hS hL hst
  obtain ⟨y, r0, rfl, ho1⟩ := popI_s ho
  obtain ⟨x, r, rfl, ho⟩ := popI_s ho1
  exact lv_isub hx hb hd (hk _ _ _ _ _ ho g H locs la hge hR hS hL (fun u hu => (List.mem_cons.mp hu).elim (fun e => e ▸ trivial) (fun h => hst u (List.mem_cons_of_mem _ (List.mem_cons_of_mem _ h)))))
theorem ok_imul {cc : ByteArray} {own : String} {nL : Nat} {ret : Option FieldType} {lv pc : Nat} {nx : Nat} (hd : decode cc pc = .ok (.imul, 1)) (hn : pc + 1 = nx) : HOK cc own nL ret lv pc (o_bin (fun x y => x * y) nx) := by
  intro p l e R s m args below meth c cells slots mc ms Q G A g0 w0 q C k hk ls st w σ ho
  obtain ⟨hx, hb, hml, hown, hts, hK, hr, hlk, hZ, hSR, hA, hlv, hcs, hcm, hQ⟩ := C
  subst hn
  intro g H locs la hge hR hS hL hst
  obtain ⟨y, r0, rfl, ho1⟩ := popI_s ho
  obtain ⟨x, r, rfl, ho⟩ := popI_s ho1
  exact lv_imul hx hb hd (hk _ _ _ _ _ ho g H locs la hge hR hS hL (fun u hu => (List.mem_cons.mp hu).elim (fun e => e ▸ trivial) (fun h => hst u (List.mem_cons_of_mem _ (List.mem_cons_of_mem _ h)))))
theorem ok_iand {cc : ByteArray} {own : String} {nL : Nat} {ret : Option FieldType} {lv pc : Nat} {nx : Nat} (hd : decode cc pc = .ok (.iand, 1)) (hn : pc + 1 = nx) : HOK cc own nL ret lv pc (o_bin (fun x y => x &&& y) nx) := by
  intro p l e R s m args below meth c cells slots mc ms Q G A g0 w0 q C k hk ls st w σ ho
  obtain ⟨hx, hb, hml, hown, hts, hK, hr, hlk, hZ, hSR, hA, hlv, hcs, hcm, hQ⟩ := C
  subst hn
  intro g H locs la hge hR hS hL hst
  obtain ⟨y, r0, rfl, ho1⟩ := popI_s ho
  obtain ⟨x, r, rfl, ho⟩ := popI_s ho1
  exact lv_iand hx hb hd (hk _ _ _ _ _ ho g H locs la hge hR hS hL (fun u hu => (List.mem_cons.mp hu).elim (fun e => e ▸ trivial) (fun h => hst u (List.mem_cons_of_mem _ (List.mem_cons_of_mem _ h)))))
theorem ok_ior {cc : ByteArray} {own : String} {nL : Nat} {ret : Option FieldType} {lv pc : Nat} {nx : Nat} (hd : decode cc pc = .ok (.ior, 1)) (hn : pc + 1 = nx) : HOK cc own nL ret lv pc (o_bin (fun x y => x ||| y) nx) := by
  intro p l e R s m args below meth c cells slots mc ms Q G A g0 w0 q C k hk ls st w σ ho
  obtain ⟨hx, hb, hml, hown, hts, hK, hr, hlk, hZ, hSR, hA, hlv, hcs, hcm, hQ⟩ := C
  subst hn
  intro g H locs la hge hR hS hL hst
  obtain ⟨y, r0, rfl, ho1⟩ := popI_s ho
  obtain ⟨x, r, rfl, ho⟩ := popI_s ho1
  exact lv_ior hx hb hd (hk _ _ _ _ _ ho g H locs la hge hR hS hL (fun u hu => (List.mem_cons.mp hu).elim (fun e => e ▸ trivial) (fun h => hst u (List.mem_cons_of_mem _ (List.mem_cons_of_mem _ h)))))
theorem ok_ixor {cc : ByteArray} {own : String} {nL : Nat} {ret : Option FieldType} {lv pc : Nat} {nx : Nat} (hd : decode cc pc = .ok (.ixor, 1)) (hn : pc + 1 = nx) : HOK cc own nL ret lv pc (o_bin (fun x y => x ^^^ y) nx) := by
  intro p l e R s m args below meth c cells slots mc ms Q G A g0 w0 q C k hk ls st w σ ho
  obtain ⟨hx, hb, hml, hown, hts, hK, hr, hlk, hZ, hSR, hA, hlv, hcs, hcm, hQ⟩ := C
  subst hn
  intro g H locs la hge hR hS hL hst
  obtain ⟨y, r0, rfl, ho1⟩ := popI_s ho
  obtain ⟨x, r, rfl, ho⟩ := popI_s ho1
  exact lv_ixor hx hb hd (hk _ _ _ _ _ ho g H locs la hge hR hS hL (fun u hu => (List.mem_cons.mp hu).elim (fun e => e ▸ trivial) (fun h => hst u (List.mem_cons_of_mem _ (List.mem_cons_of_mem _ h)))))
theorem ok_ishl {cc : ByteArray} {own : String} {nL : Nat} {ret : Option FieldType} {lv pc : Nat} {nx : Nat} (hd : decode cc pc = .ok (.ishl, 1)) (hn : pc + 1 = nx) : HOK cc own nL ret lv pc (o_bin (fun x y => x <<< (y &&& 31)) nx) := by
  intro p l e R s m args below meth c cells slots mc ms Q G A g0 w0 q C k hk ls st w σ ho
  obtain ⟨hx, hb, hml, hown, hts, hK, hr, hlk, hZ, hSR, hA, hlv, hcs, hcm, hQ⟩ := C
  subst hn
  intro g H locs la hge hR hS hL hst
  obtain ⟨y, r0, rfl, ho1⟩ := popI_s ho
  obtain ⟨x, r, rfl, ho⟩ := popI_s ho1
  exact lv_ishl hx hb hd (hk _ _ _ _ _ ho g H locs la hge hR hS hL (fun u hu => (List.mem_cons.mp hu).elim (fun e => e ▸ trivial) (fun h => hst u (List.mem_cons_of_mem _ (List.mem_cons_of_mem _ h)))))
theorem ok_ishr {cc : ByteArray} {own : String} {nL : Nat} {ret : Option FieldType} {lv pc : Nat} {nx : Nat} (hd : decode cc pc = .ok (.ishr, 1)) (hn : pc + 1 = nx) : HOK cc own nL ret lv pc (o_bin (fun x y => x >>> (y &&& 31)) nx) := by
  intro p l e R s m args below meth c cells slots mc ms Q G A g0 w0 q C k hk ls st w σ ho
  obtain ⟨hx, hb, hml, hown, hts, hK, hr, hlk, hZ, hSR, hA, hlv, hcs, hcm, hQ⟩ := C
  subst hn
  intro g H locs la hge hR hS hL hst
  obtain ⟨y, r0, rfl, ho1⟩ := popI_s ho
  obtain ⟨x, r, rfl, ho⟩ := popI_s ho1
  exact lv_ishr hx hb hd (hk _ _ _ _ _ ho g H locs la hge hR hS hL (fun u hu => (List.mem_cons.mp hu).elim (fun e => e ▸ trivial) (fun h => hst u (List.mem_cons_of_mem _ (List.mem_cons_of_mem _ h)))))
theorem ok_iushr {cc : ByteArray} {own : String} {nL : Nat} {ret : Option FieldType} {lv pc : Nat} {nx : Nat} (hd : decode cc pc = .ok (.iushr, 1)) (hn : pc + 1 = nx) : HOK cc own nL ret lv pc (o_bin (fun x y => (x.toUInt32 >>> (y.toUInt32 &&& Int32.toUInt32 31)).toInt32) nx) := by
  intro p l e R s m args below meth c cells slots mc ms Q G A g0 w0 q C k hk ls st w σ ho
  obtain ⟨hx, hb, hml, hown, hts, hK, hr, hlk, hZ, hSR, hA, hlv, hcs, hcm, hQ⟩ := C
  subst hn
  intro g H locs la hge hR hS hL hst
  obtain ⟨y, r0, rfl, ho1⟩ := popI_s ho
  obtain ⟨x, r, rfl, ho⟩ := popI_s ho1
  exact lv_iushr hx hb hd rfl (hk _ _ _ _ _ ho g H locs la hge hR hS hL (fun u hu => (List.mem_cons.mp hu).elim (fun e => e ▸ trivial) (fun h => hst u (List.mem_cons_of_mem _ (List.mem_cons_of_mem _ h)))))
theorem ok_idiv {cc : ByteArray} {own : String} {nL : Nat} {ret : Option FieldType} {lv pc : Nat} {nx : Nat} (hd : decode cc pc = .ok (.idiv, 1)) (hn : pc + 1 = nx) : HOK cc own nL ret lv pc (o_dv (fun x y => x / y) nx) := by
  intro p l e R s m args below meth c cells slots mc ms Q G A g0 w0 q C k hk ls st w σ ho
  obtain ⟨hx, hb, hml, hown, hts, hK, hr, hlk, hZ, hSR, hA, hlv, hcs, hcm, hQ⟩ := C
  subst hn
  intro g H locs la hge hR hS hL hst
  obtain ⟨y, r0, rfl, ho1⟩ := popI_s ho
  obtain ⟨x, r, rfl, h0, ho⟩ := popI_s ho1
  exact lv_idiv hx hb hd h0 (hk _ _ _ _ _ ho g H locs la hge hR hS hL (fun u hu => (List.mem_cons.mp hu).elim (fun e => e ▸ trivial) (fun h => hst u (List.mem_cons_of_mem _ (List.mem_cons_of_mem _ h)))))
theorem ok_irem {cc : ByteArray} {own : String} {nL : Nat} {ret : Option FieldType} {lv pc : Nat} {nx : Nat} (hd : decode cc pc = .ok (.irem, 1)) (hn : pc + 1 = nx) : HOK cc own nL ret lv pc (o_dv (fun x y => x - x / y * y) nx) := by
  intro p l e R s m args below meth c cells slots mc ms Q G A g0 w0 q C k hk ls st w σ ho
  obtain ⟨hx, hb, hml, hown, hts, hK, hr, hlk, hZ, hSR, hA, hlv, hcs, hcm, hQ⟩ := C
  subst hn
  intro g H locs la hge hR hS hL hst
  obtain ⟨y, r0, rfl, ho1⟩ := popI_s ho
  obtain ⟨x, r, rfl, h0, ho⟩ := popI_s ho1
  exact lv_irem hx hb hd h0 (hk _ _ _ _ _ ho g H locs la hge hR hS hL (fun u hu => (List.mem_cons.mp hu).elim (fun e => e ▸ trivial) (fun h => hst u (List.mem_cons_of_mem _ (List.mem_cons_of_mem _ h)))))
theorem ok_i2b {cc : ByteArray} {own : String} {nL : Nat} {ret : Option FieldType} {lv pc : Nat} {nx : Nat} (hd : decode cc pc = .ok (.i2b, 1)) (hn : pc + 1 = nx) : HOK cc own nL ret lv pc (o_un (fun x => x.toInt8.toInt32) nx) := by
  intro p l e R s m args below meth c cells slots mc ms Q G A g0 w0 q C k hk ls st w σ ho
  obtain ⟨hx, hb, hml, hown, hts, hK, hr, hlk, hZ, hSR, hA, hlv, hcs, hcm, hQ⟩ := C
  subst hn
  intro g H locs la hge hR hS hL hst
  obtain ⟨x, r, rfl, ho⟩ := popI_s ho
  exact lv_i2b hx hb hd rfl (hk _ _ _ _ _ ho g H locs la hge hR hS hL (fun u hu => (List.mem_cons.mp hu).elim (fun e => e ▸ trivial) (fun h => hst u (List.mem_cons_of_mem _ h))))
theorem ok_i2l {cc : ByteArray} {own : String} {nL : Nat} {ret : Option FieldType} {lv pc : Nat} {nx : Nat} (hd : decode cc pc = .ok (.i2l, 1)) (hn : pc + 1 = nx) : HOK cc own nL ret lv pc (o_i2l nx) := by
  intro p l e R s m args below meth c cells slots mc ms Q G A g0 w0 q C k hk ls st w σ ho
  obtain ⟨hx, hb, hml, hown, hts, hK, hr, hlk, hZ, hSR, hA, hlv, hcs, hcm, hQ⟩ := C
  subst hn
  intro g H locs la hge hR hS hL hst
  obtain ⟨x, r, rfl, ho⟩ := popI_s ho
  exact lv_i2l hx hb hd rfl (hk _ _ _ _ _ ho g H locs la hge hR hS hL (fun u hu => (List.mem_cons.mp hu).elim (fun e => e ▸ trivial) (fun h => hst u (List.mem_cons_of_mem _ h))))
theorem ok_ladd {cc : ByteArray} {own : String} {nL : Nat} {ret : Option FieldType} {lv pc : Nat} {nx : Nat} (hd : decode cc pc = .ok (.ladd, 1)) (hn : pc + 1 = nx) : HOK cc own nL ret lv pc (o_ladd nx) := by
  intro p l e R s m args below meth c cells slots mc ms Q G A g0 w0 q C k hk ls st w σ ho
  obtain ⟨hx, hb, hml, hown, hts, hK, hr, hlk, hZ, hSR, hA, hlv, hcs, hcm, hQ⟩ := C
  subst hn
  intro g H locs la hge hR hS hL hst
  obtain ⟨y, r0, rfl, ho1⟩ := popL_s ho
  obtain ⟨x, r, rfl, ho⟩ := popL_s ho1
  exact lv_ladd hx hb hd (hk _ _ _ _ _ ho g H locs la hge hR hS hL (fun u hu => (List.mem_cons.mp hu).elim (fun e => e ▸ trivial) (fun h => hst u (List.mem_cons_of_mem _ (List.mem_cons_of_mem _ h)))))
theorem ok_if_eq {cc : ByteArray} {own : String} {nL : Nat} {ret : Option FieldType} {lv pc : Nat} {off : Int} {t nx : Nat} (hd : decode cc pc = .ok (.ifCond .eq off, 3)) (ht : (pc : Int) + off = (t : Int)) (hn : pc + 3 = nx) : HOK cc own nL ret lv pc (o_if (fun x => x = 0) t nx) := by
  intro p l e R s m args below meth c cells slots mc ms Q G A g0 w0 q C k hk ls st w σ ho
  obtain ⟨hx, hb, hml, hown, hts, hK, hr, hlk, hZ, hSR, hA, hlv, hcs, hcm, hQ⟩ := C
  subst hn
  intro g H locs la hge hR hS hL hst
  obtain ⟨x, r, rfl, ho⟩ := popI_s ho
  obtain ⟨h1, h2⟩ := ho
  exact lv_if_eq hx hb hd ht (fun h => hk _ _ _ _ _ (h1 h) g H locs la hge hR hS hL (fun u hu => hst u (List.mem_cons_of_mem _ hu))) (fun h => hk _ _ _ _ _ (h2 h) g H locs la hge hR hS hL (fun u hu => hst u (List.mem_cons_of_mem _ hu)))
theorem ok_if_ne {cc : ByteArray} {own : String} {nL : Nat} {ret : Option FieldType} {lv pc : Nat} {off : Int} {t nx : Nat} (hd : decode cc pc = .ok (.ifCond .ne off, 3)) (ht : (pc : Int) + off = (t : Int)) (hn : pc + 3 = nx) : HOK cc own nL ret lv pc (o_if (fun x => x = 0) nx t) := by
  intro p l e R s m args below meth c cells slots mc ms Q G A g0 w0 q C k hk ls st w σ ho
  obtain ⟨hx, hb, hml, hown, hts, hK, hr, hlk, hZ, hSR, hA, hlv, hcs, hcm, hQ⟩ := C
  subst hn
  intro g H locs la hge hR hS hL hst
  obtain ⟨x, r, rfl, ho⟩ := popI_s ho
  obtain ⟨h1, h2⟩ := ho
  exact lv_if_ne hx hb hd ht (fun h => hk _ _ _ _ _ (h2 h) g H locs la hge hR hS hL (fun u hu => hst u (List.mem_cons_of_mem _ hu))) (fun h => hk _ _ _ _ _ (h1 h) g H locs la hge hR hS hL (fun u hu => hst u (List.mem_cons_of_mem _ hu)))
theorem ok_if_lt {cc : ByteArray} {own : String} {nL : Nat} {ret : Option FieldType} {lv pc : Nat} {off : Int} {t nx : Nat} (hd : decode cc pc = .ok (.ifCond .lt off, 3)) (ht : (pc : Int) + off = (t : Int)) (hn : pc + 3 = nx) : HOK cc own nL ret lv pc (o_if (fun x => x < 0) t nx) := by
  intro p l e R s m args below meth c cells slots mc ms Q G A g0 w0 q C k hk ls st w σ ho
  obtain ⟨hx, hb, hml, hown, hts, hK, hr, hlk, hZ, hSR, hA, hlv, hcs, hcm, hQ⟩ := C
  subst hn
  intro g H locs la hge hR hS hL hst
  obtain ⟨x, r, rfl, ho⟩ := popI_s ho
  obtain ⟨h1, h2⟩ := ho
  exact lv_if_lt hx hb hd ht (fun h => hk _ _ _ _ _ (h1 h) g H locs la hge hR hS hL (fun u hu => hst u (List.mem_cons_of_mem _ hu))) (fun h => hk _ _ _ _ _ (h2 h) g H locs la hge hR hS hL (fun u hu => hst u (List.mem_cons_of_mem _ hu)))
theorem ok_if_ge {cc : ByteArray} {own : String} {nL : Nat} {ret : Option FieldType} {lv pc : Nat} {off : Int} {t nx : Nat} (hd : decode cc pc = .ok (.ifCond .ge off, 3)) (ht : (pc : Int) + off = (t : Int)) (hn : pc + 3 = nx) : HOK cc own nL ret lv pc (o_if (fun x => 0 ≤ x) t nx) := by
  intro p l e R s m args below meth c cells slots mc ms Q G A g0 w0 q C k hk ls st w σ ho
  obtain ⟨hx, hb, hml, hown, hts, hK, hr, hlk, hZ, hSR, hA, hlv, hcs, hcm, hQ⟩ := C
  subst hn
  intro g H locs la hge hR hS hL hst
  obtain ⟨x, r, rfl, ho⟩ := popI_s ho
  obtain ⟨h1, h2⟩ := ho
  exact lv_if_ge hx hb hd ht (fun h => hk _ _ _ _ _ (h1 h) g H locs la hge hR hS hL (fun u hu => hst u (List.mem_cons_of_mem _ hu))) (fun h => hk _ _ _ _ _ (h2 h) g H locs la hge hR hS hL (fun u hu => hst u (List.mem_cons_of_mem _ hu)))
theorem ok_if_gt {cc : ByteArray} {own : String} {nL : Nat} {ret : Option FieldType} {lv pc : Nat} {off : Int} {t nx : Nat} (hd : decode cc pc = .ok (.ifCond .gt off, 3)) (ht : (pc : Int) + off = (t : Int)) (hn : pc + 3 = nx) : HOK cc own nL ret lv pc (o_if (fun x => 0 < x) t nx) := by
  intro p l e R s m args below meth c cells slots mc ms Q G A g0 w0 q C k hk ls st w σ ho
  obtain ⟨hx, hb, hml, hown, hts, hK, hr, hlk, hZ, hSR, hA, hlv, hcs, hcm, hQ⟩ := C
  subst hn
  intro g H locs la hge hR hS hL hst
  obtain ⟨x, r, rfl, ho⟩ := popI_s ho
  obtain ⟨h1, h2⟩ := ho
  exact lv_if_gt hx hb hd ht (fun h => hk _ _ _ _ _ (h1 h) g H locs la hge hR hS hL (fun u hu => hst u (List.mem_cons_of_mem _ hu))) (fun h => hk _ _ _ _ _ (h2 h) g H locs la hge hR hS hL (fun u hu => hst u (List.mem_cons_of_mem _ hu)))
theorem ok_if_le {cc : ByteArray} {own : String} {nL : Nat} {ret : Option FieldType} {lv pc : Nat} {off : Int} {t nx : Nat} (hd : decode cc pc = .ok (.ifCond .le off, 3)) (ht : (pc : Int) + off = (t : Int)) (hn : pc + 3 = nx) : HOK cc own nL ret lv pc (o_if (fun x => x ≤ 0) t nx) := by
  intro p l e R s m args below meth c cells slots mc ms Q G A g0 w0 q C k hk ls st w σ ho
  obtain ⟨hx, hb, hml, hown, hts, hK, hr, hlk, hZ, hSR, hA, hlv, hcs, hcm, hQ⟩ := C
  subst hn
  intro g H locs la hge hR hS hL hst
  obtain ⟨x, r, rfl, ho⟩ := popI_s ho
  obtain ⟨h1, h2⟩ := ho
  exact lv_if_le hx hb hd ht (fun h => hk _ _ _ _ _ (h1 h) g H locs la hge hR hS hL (fun u hu => hst u (List.mem_cons_of_mem _ hu))) (fun h => hk _ _ _ _ _ (h2 h) g H locs la hge hR hS hL (fun u hu => hst u (List.mem_cons_of_mem _ hu)))
theorem ok_icmp_eq {cc : ByteArray} {own : String} {nL : Nat} {ret : Option FieldType} {lv pc : Nat} {off : Int} {t nx : Nat} (hd : decode cc pc = .ok (.if_icmp .eq off, 3)) (ht : (pc : Int) + off = (t : Int)) (hn : pc + 3 = nx) : HOK cc own nL ret lv pc (o_icmp (fun x y => x = y) t nx) := by
  intro p l e R s m args below meth c cells slots mc ms Q G A g0 w0 q C k hk ls st w σ ho
  obtain ⟨hx, hb, hml, hown, hts, hK, hr, hlk, hZ, hSR, hA, hlv, hcs, hcm, hQ⟩ := C
  subst hn
  intro g H locs la hge hR hS hL hst
  obtain ⟨y, r0, rfl, ho1⟩ := popI_s ho
  obtain ⟨x, r, rfl, ho⟩ := popI_s ho1
  obtain ⟨h1, h2⟩ := ho
  exact lv_icmp_eq hx hb hd ht (fun h => hk _ _ _ _ _ (h1 h) g H locs la hge hR hS hL (fun u hu => hst u (List.mem_cons_of_mem _ (List.mem_cons_of_mem _ hu)))) (fun h => hk _ _ _ _ _ (h2 h) g H locs la hge hR hS hL (fun u hu => hst u (List.mem_cons_of_mem _ (List.mem_cons_of_mem _ hu))))
theorem ok_icmp_ne {cc : ByteArray} {own : String} {nL : Nat} {ret : Option FieldType} {lv pc : Nat} {off : Int} {t nx : Nat} (hd : decode cc pc = .ok (.if_icmp .ne off, 3)) (ht : (pc : Int) + off = (t : Int)) (hn : pc + 3 = nx) : HOK cc own nL ret lv pc (o_icmp (fun x y => x = y) nx t) := by
  intro p l e R s m args below meth c cells slots mc ms Q G A g0 w0 q C k hk ls st w σ ho
  obtain ⟨hx, hb, hml, hown, hts, hK, hr, hlk, hZ, hSR, hA, hlv, hcs, hcm, hQ⟩ := C
  subst hn
  intro g H locs la hge hR hS hL hst
  obtain ⟨y, r0, rfl, ho1⟩ := popI_s ho
  obtain ⟨x, r, rfl, ho⟩ := popI_s ho1
  obtain ⟨h1, h2⟩ := ho
  exact lv_icmp_ne hx hb hd ht (fun h => hk _ _ _ _ _ (h2 h) g H locs la hge hR hS hL (fun u hu => hst u (List.mem_cons_of_mem _ (List.mem_cons_of_mem _ hu)))) (fun h => hk _ _ _ _ _ (h1 h) g H locs la hge hR hS hL (fun u hu => hst u (List.mem_cons_of_mem _ (List.mem_cons_of_mem _ hu))))
theorem ok_icmp_lt {cc : ByteArray} {own : String} {nL : Nat} {ret : Option FieldType} {lv pc : Nat} {off : Int} {t nx : Nat} (hd : decode cc pc = .ok (.if_icmp .lt off, 3)) (ht : (pc : Int) + off = (t : Int)) (hn : pc + 3 = nx) : HOK cc own nL ret lv pc (o_icmp (fun x y => x < y) t nx) := by
  intro p l e R s m args below meth c cells slots mc ms Q G A g0 w0 q C k hk ls st w σ ho
  obtain ⟨hx, hb, hml, hown, hts, hK, hr, hlk, hZ, hSR, hA, hlv, hcs, hcm, hQ⟩ := C
  subst hn
  intro g H locs la hge hR hS hL hst
  obtain ⟨y, r0, rfl, ho1⟩ := popI_s ho
  obtain ⟨x, r, rfl, ho⟩ := popI_s ho1
  obtain ⟨h1, h2⟩ := ho
  exact lv_icmp_lt hx hb hd ht (fun h => hk _ _ _ _ _ (h1 h) g H locs la hge hR hS hL (fun u hu => hst u (List.mem_cons_of_mem _ (List.mem_cons_of_mem _ hu)))) (fun h => hk _ _ _ _ _ (h2 h) g H locs la hge hR hS hL (fun u hu => hst u (List.mem_cons_of_mem _ (List.mem_cons_of_mem _ hu))))
theorem ok_icmp_ge {cc : ByteArray} {own : String} {nL : Nat} {ret : Option FieldType} {lv pc : Nat} {off : Int} {t nx : Nat} (hd : decode cc pc = .ok (.if_icmp .ge off, 3)) (ht : (pc : Int) + off = (t : Int)) (hn : pc + 3 = nx) : HOK cc own nL ret lv pc (o_icmp (fun x y => y ≤ x) t nx) := by
  intro p l e R s m args below meth c cells slots mc ms Q G A g0 w0 q C k hk ls st w σ ho
  obtain ⟨hx, hb, hml, hown, hts, hK, hr, hlk, hZ, hSR, hA, hlv, hcs, hcm, hQ⟩ := C
  subst hn
  intro g H locs la hge hR hS hL hst
  obtain ⟨y, r0, rfl, ho1⟩ := popI_s ho
  obtain ⟨x, r, rfl, ho⟩ := popI_s ho1
  obtain ⟨h1, h2⟩ := ho
  exact lv_icmp_ge hx hb hd ht (fun h => hk _ _ _ _ _ (h1 h) g H locs la hge hR hS hL (fun u hu => hst u (List.mem_cons_of_mem _ (List.mem_cons_of_mem _ hu)))) (fun h => hk _ _ _ _ _ (h2 h) g H locs la hge hR hS hL (fun u hu => hst u (List.mem_cons_of_mem _ (List.mem_cons_of_mem _ hu))))
theorem ok_icmp_gt {cc : ByteArray} {own : String} {nL : Nat} {ret : Option FieldType} {lv pc : Nat} {off : Int} {t nx : Nat} (hd : decode cc pc = .ok (.if_icmp .gt off, 3)) (ht : (pc : Int) + off = (t : Int)) (hn : pc + 3 = nx) : HOK cc own nL ret lv pc (o_icmp (fun x y => y < x) t nx) := by
  intro p l e R s m args below meth c cells slots mc ms Q G A g0 w0 q C k hk ls st w σ ho
  obtain ⟨hx, hb, hml, hown, hts, hK, hr, hlk, hZ, hSR, hA, hlv, hcs, hcm, hQ⟩ := C
  subst hn
  intro g H locs la hge hR hS hL hst
  obtain ⟨y, r0, rfl, ho1⟩ := popI_s ho
  obtain ⟨x, r, rfl, ho⟩ := popI_s ho1
  obtain ⟨h1, h2⟩ := ho
  exact lv_icmp_gt hx hb hd ht (fun h => hk _ _ _ _ _ (h1 h) g H locs la hge hR hS hL (fun u hu => hst u (List.mem_cons_of_mem _ (List.mem_cons_of_mem _ hu)))) (fun h => hk _ _ _ _ _ (h2 h) g H locs la hge hR hS hL (fun u hu => hst u (List.mem_cons_of_mem _ (List.mem_cons_of_mem _ hu))))
theorem ok_icmp_le {cc : ByteArray} {own : String} {nL : Nat} {ret : Option FieldType} {lv pc : Nat} {off : Int} {t nx : Nat} (hd : decode cc pc = .ok (.if_icmp .le off, 3)) (ht : (pc : Int) + off = (t : Int)) (hn : pc + 3 = nx) : HOK cc own nL ret lv pc (o_icmp (fun x y => x ≤ y) t nx) := by
  intro p l e R s m args below meth c cells slots mc ms Q G A g0 w0 q C k hk ls st w σ ho
  obtain ⟨hx, hb, hml, hown, hts, hK, hr, hlk, hZ, hSR, hA, hlv, hcs, hcm, hQ⟩ := C
  subst hn
  intro g H locs la hge hR hS hL hst
  obtain ⟨y, r0, rfl, ho1⟩ := popI_s ho
  obtain ⟨x, r, rfl, ho⟩ := popI_s ho1
  obtain ⟨h1, h2⟩ := ho
  exact lv_icmp_le hx hb hd ht (fun h => hk _ _ _ _ _ (h1 h) g H locs la hge hR hS hL (fun u hu => hst u (List.mem_cons_of_mem _ (List.mem_cons_of_mem _ hu)))) (fun h => hk _ _ _ _ _ (h2 h) g H locs la hge hR hS hL (fun u hu => hst u (List.mem_cons_of_mem _ (List.mem_cons_of_mem _ hu))))
theorem ok_goto {cc : ByteArray} {own : String} {nL : Nat} {ret : Option FieldType} {lv pc : Nat} {off : Int} {t : Nat} (hd : decode cc pc = .ok (.goto off, 3)) (ht : (pc : Int) + off = (t : Int)) : HOK cc own nL ret lv pc (o_goto t) := by
  intro p l e R s m args below meth c cells slots mc ms Q G A g0 w0 q C k hk ls st w σ ho
  obtain ⟨hx, hb, hml, hown, hts, hK, hr, hlk, hZ, hSR, hA, hlv, hcs, hcm, hQ⟩ := C
  intro g H locs la hge hR hS hL hst
  exact lv_goto hx hb hd ht (hk _ _ _ _ _ ho g H locs la hge hR hS hL hst)
theorem ok_ifnull {cc : ByteArray} {own : String} {nL : Nat} {ret : Option FieldType} {lv pc : Nat} {off : Int} {t nx : Nat} (hd : decode cc pc = .ok (.ifnull off, 3)) (ht : (pc : Int) + off = (t : Int)) (hn : pc + 3 = nx) : HOK cc own nL ret lv pc (o_ifnull t nx) := by
  intro p l e R s m args below meth c cells slots mc ms Q G A g0 w0 q C k hk ls st w σ ho
  obtain ⟨hx, hb, hml, hown, hts, hK, hr, hlk, hZ, hSR, hA, hlv, hcs, hcm, hQ⟩ := C
  subst hn
  intro g H locs la hge hR hS hL hst
  obtain ⟨kd, o, r, rfl, ho⟩ := popO_s ho
  cases o with
  | none => exact lv_ifnullN hx hb hd ht (hk _ _ _ _ _ ho g H locs la hge hR hS hL (fun u hu => hst u (List.mem_cons_of_mem _ hu)))
  | some z => exact lv_ifnull hx hb hd (hk _ _ _ _ _ ho g H locs la hge hR hS hL (fun u hu => hst u (List.mem_cons_of_mem _ hu)))
theorem ok_ifnonnull {cc : ByteArray} {own : String} {nL : Nat} {ret : Option FieldType} {lv pc : Nat} {off : Int} {t nx : Nat} (hd : decode cc pc = .ok (.ifnonnull off, 3)) (ht : (pc : Int) + off = (t : Int)) (hn : pc + 3 = nx) : HOK cc own nL ret lv pc (o_ifnull nx t) := by
  intro p l e R s m args below meth c cells slots mc ms Q G A g0 w0 q C k hk ls st w σ ho
  obtain ⟨hx, hb, hml, hown, hts, hK, hr, hlk, hZ, hSR, hA, hlv, hcs, hcm, hQ⟩ := C
  subst hn
  intro g H locs la hge hR hS hL hst
  obtain ⟨kd, o, r, rfl, ho⟩ := popO_s ho
  cases o with
  | none => exact lv_ifnonnullN hx hb hd (hk _ _ _ _ _ ho g H locs la hge hR hS hL (fun u hu => hst u (List.mem_cons_of_mem _ hu)))
  | some z => exact lv_ifnonnull hx hb hd ht (hk _ _ _ _ _ ho g H locs la hge hR hS hL (fun u hu => hst u (List.mem_cons_of_mem _ hu)))
theorem ok_dup {cc : ByteArray} {own : String} {nL : Nat} {ret : Option FieldType} {lv pc : Nat} {nx : Nat} (hd : decode cc pc = .ok (.dup, 1)) (hn : pc + 1 = nx) : HOK cc own nL ret lv pc (o_dup nx) := by
  intro p l e R s m args below meth c cells slots mc ms Q G A g0 w0 q C k hk ls st w σ ho
  obtain ⟨hx, hb, hml, hown, hts, hK, hr, hlk, hZ, hSR, hA, hlv, hcs, hcm, hQ⟩ := C
  subst hn
  intro g H locs la hge hR hS hL hst
  obtain ⟨v, r, rfl, hc, ho⟩ := pop1_s ho
  exact lv_dup hx hb hd (hc g) (hk _ _ _ _ _ ho g H locs la hge hR hS hL (fun u hu => (List.mem_cons.mp hu).elim (fun e => e ▸ hst v List.mem_cons_self) (hst u)))
theorem ok_pop {cc : ByteArray} {own : String} {nL : Nat} {ret : Option FieldType} {lv pc : Nat} {nx : Nat} (hd : decode cc pc = .ok (.pop, 1)) (hn : pc + 1 = nx) : HOK cc own nL ret lv pc (o_pop nx) := by
  intro p l e R s m args below meth c cells slots mc ms Q G A g0 w0 q C k hk ls st w σ ho
  obtain ⟨hx, hb, hml, hown, hts, hK, hr, hlk, hZ, hSR, hA, hlv, hcs, hcm, hQ⟩ := C
  subst hn
  intro g H locs la hge hR hS hL hst
  obtain ⟨v, r, rfl, hc, ho⟩ := pop1_s ho
  exact lv_pop hx hb hd (hc g) (hk _ _ _ _ _ ho g H locs la hge hR hS hL (fun u hu => hst u (List.mem_cons_of_mem _ hu)))
theorem ok_dupx1 {cc : ByteArray} {own : String} {nL : Nat} {ret : Option FieldType} {lv pc : Nat} {nx : Nat} (hd : decode cc pc = .ok (.dup_x1, 1)) (hn : pc + 1 = nx) : HOK cc own nL ret lv pc (o_dupx1 nx) := by
  intro p l e R s m args below meth c cells slots mc ms Q G A g0 w0 q C k hk ls st w σ ho
  obtain ⟨hx, hb, hml, hown, hts, hK, hr, hlk, hZ, hSR, hA, hlv, hcs, hcm, hQ⟩ := C
  subst hn
  intro g H locs la hge hR hS hL hst
  obtain ⟨a, r0, rfl, hc, ho1⟩ := pop1_s ho
  obtain ⟨b, r, rfl, hc2, ho⟩ := pop1_s ho1
  exact lv_dup_x1 hx hb hd (hc g) (hc2 g) (hk _ _ _ _ _ ho g H locs la hge hR hS hL (fun u hu => by
    simp only [List.mem_cons] at hu hst
    rcases hu with h | h | h | h <;> exact hst u (by simp [h])))
theorem ok_dup2 {cc : ByteArray} {own : String} {nL : Nat} {ret : Option FieldType} {lv pc : Nat} {nx : Nat} (hd : decode cc pc = .ok (.dup2, 1)) (hn : pc + 1 = nx) : HOK cc own nL ret lv pc (o_dup2 nx) := by
  intro p l e R s m args below meth c cells slots mc ms Q G A g0 w0 q C k hk ls st w σ ho
  obtain ⟨hx, hb, hml, hown, hts, hK, hr, hlk, hZ, hSR, hA, hlv, hcs, hcm, hQ⟩ := C
  subst hn
  intro g H locs la hge hR hS hL hst
  obtain ⟨a, r0, rfl, hc, ho1⟩ := pop1_s ho
  obtain ⟨b, r, rfl, hc2, ho⟩ := pop1_s ho1
  exact lv_dup2_11 hx hb hd (hc g) (hc2 g) (hk _ _ _ _ _ ho g H locs la hge hR hS hL (fun u hu => by
    simp only [List.mem_cons] at hu hst
    rcases hu with h | h | h | h | h <;> exact hst u (by simp [h])))
end
section
/-! OUR FRAME, 4: fields, rows, returns -/
theorem fld_lv {w : HW} {σ : HS} {k i f : Nat} (hW : Wf w) (hi : i < w.1 k) : VLv w (fld w σ k i f) := by
  unfold fld
  cases h : fr w k i f with
  | none => exact trivial
  | some r =>
    obtain ⟨kk, o⟩ := r
    cases o with
    | none => exact trivial
    | some o => exact hW.1 k i f kk o hi h
theorem fld_at {g : HA} {w : HW} {σ : HS} {k i f N : Nat} (hN : nfd k = N) (hf : f < N) : ((List.range (nfd k)).map fun f => toV g (fld w σ k i f))[f]? = some (toV g (fld w σ k i f)) := by
  simp [hN, hf]
theorem tail1 {w : HW} {a : HV} {r : List HV} (h : ∀ v ∈ a :: r, VLv w v) : ∀ v ∈ r, VLv w v := fun v hv => h v (List.mem_cons_of_mem _ hv)
theorem cons1 {w : HW} {a : HV} {r : List HV} (ha : VLv w a) (h : ∀ v ∈ r, VLv w v) : ∀ v ∈ a :: r, VLv w v := fun v hv => (List.mem_cons.mp hv).elim (fun e => e ▸ ha) (h v)
theorem b12 {k : Nat} (h : Nat.blt k 12 = true) : k < 12 := by
  rw [Nat.blt_eq] at h
  exact h
theorem ok_getf {cc : ByteArray} {own : String} {nL : Nat} {ret : Option FieldType} {lv pc : Nat} {ix kd f nx N : Nat} {C : String} {T : u_T} (hd : decode cc pc = .ok (.getfield ix, 3)) (hc : vwCl[kd]? = some (C, T, N)) (hN : nfd kd = N) (hf : f < N) (h12 : Nat.blt kd 12 = true) (hin : ∀ w ∈ u_ws C T N, w ∈ TT) (hw : Cond.fieldLink own ix (T f).1 (T f).2.1 (T f).2.2.1 ∈ TT) (hn : pc + 3 = nx) : HOK cc own nL ret lv pc (o_getf kd f nx) := by
  intro p l e R s m args below meth c cells slots mc ms Q G A g0 w0 q C k hk ls st w σ ho
  obtain ⟨hx, hb, hml, hown, hts, hK, hr, hlk, hZ, hSR, hA, hlv, hcs, hcm, hQ⟩ := C
  subst hn
  intro g H locs la hge hR hS hL hst
  obtain ⟨kk, i, r, rfl, ho1⟩ := popR_s ho
  obtain ⟨hkk, ho2⟩ := bif_s ho1
  have ek : kk = kd := Nat.eq_of_beq_eq_true hkk
  subst ek
  have hi : i < w.1 kk := hst _ List.mem_cons_self
  have h22 : kk < 22 := Nat.lt_trans (b12 h12) (by decide)
  have hat := (hR.at (k := kk) h22 hi).1
  rw [ent_obj h12] at hat
  exact va_get (D := G.1) (tys := tysG G) hx hb hts hin hown hK (va_one hat) 0 rfl hc f hf (hts _ hw) (fun _ h => h) (fld_at hN hf) hd (hk _ _ _ _ _ ho2 g H locs la hge hR hS hL (cons1 (fld_lv hR.2.2.2 hi) (tail1 hst)))
theorem ok_getfN {cc : ByteArray} {own : String} {nL : Nat} {ret : Option FieldType} {lv pc : Nat} {ix kd f nx N : Nat} {C host : String} {T : u_T} (hd : decode cc pc = .ok (.getfield ix, 3)) (hc : vwCl[kd]? = some (C, T, N)) (hN : nfd kd = N) (hf : f < N) (h12 : Nat.blt kd 12 = true) (hin : ∀ w ∈ u_ws C T N, w ∈ TT) (hw : Cond.fieldLinkNest own ix (T f).1 (T f).2.1 (T f).2.2.1 host ∈ TT) (hn : pc + 3 = nx) : HOK cc own nL ret lv pc (o_getf kd f nx) := by
  intro p l e R s m args below meth c cells slots mc ms Q G A g0 w0 q C k hk ls st w σ ho
  obtain ⟨hx, hb, hml, hown, hts, hK, hr, hlk, hZ, hSR, hA, hlv, hcs, hcm, hQ⟩ := C
  subst hn
  intro g H locs la hge hR hS hL hst
  obtain ⟨kk, i, r, rfl, ho1⟩ := popR_s ho
  obtain ⟨hkk, ho2⟩ := bif_s ho1
  have ek : kk = kd := Nat.eq_of_beq_eq_true hkk
  subst ek
  have hi : i < w.1 kk := hst _ List.mem_cons_self
  have h22 : kk < 22 := Nat.lt_trans (b12 h12) (by decide)
  have hat := (hR.at (k := kk) h22 hi).1
  rw [ent_obj h12] at hat
  exact va_getN (D := G.1) (tys := tysG G) hx hb hts hin hown hK (va_one hat) 0 rfl hc f hf (hts _ hw) (fun _ h => h) (fld_at hN hf) hd (hk _ _ _ _ _ ho2 g H locs la hge hR hS hL (cons1 (fld_lv hR.2.2.2 hi) (tail1 hst)))
theorem ok_getq {cc : ByteArray} {own : String} {nL : Nat} {ret : Option FieldType} {lv pc : Nat} {ix nx : Nat} (hd : decode cc pc = .ok (.getfield ix, 3)) (hw : Cond.fieldLink own ix (TX10 8).1 (TX10 8).2.1 (TX10 8).2.2.1 ∈ TT) (hn : pc + 3 = nx) : HOK cc own nL ret lv pc (o_getq 10 8 9 nx) := by
  intro p l e R s m args below meth c cells slots mc ms Q G A g0 w0 q C k hk ls st w σ ho
  obtain ⟨hx, hb, hml, hown, hts, hK, hr, hlk, hZ, hSR, hA, hlv, hcs, hcm, hQ⟩ := C
  subst hn
  intro g H locs la hge hR hS hL hst
  obtain ⟨kk, i, r, rfl, ho1⟩ := popR_s ho
  obtain ⟨hkk, ho2⟩ := bif_s ho1
  have ek : kk = 10 := Nat.eq_of_beq_eq_true hkk
  subst ek
  have hi : i < w.1 10 := hst _ List.mem_cons_self
  have hat := (hR.at (k := 10) (by decide) hi).1
  rw [ent_obj rfl] at hat
  exact va_get (D := G.1) (tys := tysG G) hx hb hts inX10 hown hK (va_one hat) 0 rfl rfl 8 (by decide) (hts _ hw) (fun _ h => h) (fld_at (f := 8) rfl (by decide)) hd (hk _ _ _ _ _ (ho2 _ rfl) g H locs la hge hR hS hL (cons1 (fld_lv (σ := σ) (f := 8) hR.2.2.2 hi) (tail1 hst)))
theorem nar_z {v : Int32} (h : v = 0 ∨ v = 1) : narrow .boolean (.int v) = .int v ∧ fits .boolean (.int v) = true := by
  rcases h with rfl | rfl <;> exact ⟨by decide, by decide⟩
theorem ok_putf {cc : ByteArray} {own : String} {nL : Nat} {ret : Option FieldType} {lv pc : Nat} {ix kd f nx N : Nat} {C : String} {T : u_T} {ty : Nat → FieldType} (hd : decode cc pc = .ok (.putfield ix, 3)) (hc : vwCl[kd]? = some (C, T, N)) (hN : nfd kd = N) (hf : f < N) (h12 : Nat.blt kd 12 = true) (hin : ∀ w ∈ u_ws C T N, w ∈ TT) (hty : ∀ k, k < N → parseFieldDescriptor (T k).2.2.1 = some (ty k)) (hnm : ∀ a, a < N → ∀ b, b < N → a ≠ b → (T a).2.1 ≠ (T b).2.1) (hfin : (T f).2.2.2 = false) (ht : parseFieldDescriptor (T f).2.2.1 = some .int) (hfr : ∀ w i, fr w kd i f = none) (hw : Cond.fieldLink own ix (T f).1 (T f).2.1 (T f).2.2.1 ∈ TT) (hn : pc + 3 = nx) : HOK cc own nL ret lv pc (o_putf kd f nx) := by
  intro p l e R s m args below meth c cells slots mc ms Q G A g0 w0 q C k hk ls st w σ ho
  obtain ⟨hx, hb, hml, hown, hts, hK, hr, hlk, hZ, hSR, hA, hlv, hcs, hcm, hQ⟩ := C
  subst hn
  intro g H locs la hge hR hS hL hst
  obtain ⟨v, r0, rfl, ho0⟩ := popI_s ho
  obtain ⟨kk, i, r, rfl, ho1⟩ := popR_s ho0
  obtain ⟨hkk, ho2⟩ := bif_s ho1
  have ek : kk = kd := Nat.eq_of_beq_eq_true hkk
  subst ek
  have hi : i < w.1 kk := tail1 hst _ List.mem_cons_self
  have h22 : kk < 22 := Nat.lt_trans (b12 h12) (by decide)
  have hat := (hR.at (k := kk) h22 hi).1
  rw [ent_obj h12] at hat
  exact hx_put hx (kls_of hc hK hts hin hty hnm) hown hat hf (hts _ hw) hfin ht ⟨vp_nar_int v, rfl⟩ (by simp [hN, hf]) (hb ▸ hd) fun H1 sl h1 hz oq =>
    hk _ _ _ _ _ ho2 g H1 _ la hge (hR.upd h22 hi (by rw [ent_obj h12, ← fld_put (hfr w i) (by rw [hN]; exact hf)]; exact h1) oq (fun k' i' h => up3_ne h)) (hS.put hz oq (hR.at (k := kk) h22 hi).2) hL (tail1 (tail1 hst))
theorem ok_putfN {cc : ByteArray} {own : String} {nL : Nat} {ret : Option FieldType} {lv pc : Nat} {ix kd f nx N : Nat} {C host : String} {T : u_T} {ty : Nat → FieldType} (hd : decode cc pc = .ok (.putfield ix, 3)) (hc : vwCl[kd]? = some (C, T, N)) (hN : nfd kd = N) (hf : f < N) (h12 : Nat.blt kd 12 = true) (hin : ∀ w ∈ u_ws C T N, w ∈ TT) (hty : ∀ k, k < N → parseFieldDescriptor (T k).2.2.1 = some (ty k)) (hnm : ∀ a, a < N → ∀ b, b < N → a ≠ b → (T a).2.1 ≠ (T b).2.1) (hfin : (T f).2.2.2 = false) (ht : parseFieldDescriptor (T f).2.2.1 = some .int) (hfr : ∀ w i, fr w kd i f = none) (hw : Cond.fieldLinkNest own ix (T f).1 (T f).2.1 (T f).2.2.1 host ∈ TT) (hn : pc + 3 = nx) : HOK cc own nL ret lv pc (o_putf kd f nx) := by
  intro p l e R s m args below meth c cells slots mc ms Q G A g0 w0 q C k hk ls st w σ ho
  obtain ⟨hx, hb, hml, hown, hts, hK, hr, hlk, hZ, hSR, hA, hlv, hcs, hcm, hQ⟩ := C
  subst hn
  intro g H locs la hge hR hS hL hst
  obtain ⟨v, r0, rfl, ho0⟩ := popI_s ho
  obtain ⟨kk, i, r, rfl, ho1⟩ := popR_s ho0
  obtain ⟨hkk, ho2⟩ := bif_s ho1
  have ek : kk = kd := Nat.eq_of_beq_eq_true hkk
  subst ek
  have hi : i < w.1 kk := tail1 hst _ List.mem_cons_self
  have h22 : kk < 22 := Nat.lt_trans (b12 h12) (by decide)
  have hat := (hR.at (k := kk) h22 hi).1
  rw [ent_obj h12] at hat
  exact hx_putN hx (kls_of hc hK hts hin hty hnm) hown hat hf (hts _ hw) hfin ht ⟨vp_nar_int v, rfl⟩ (by simp [hN, hf]) (hb ▸ hd) fun H1 sl h1 hz oq =>
    hk _ _ _ _ _ ho2 g H1 _ la hge (hR.upd h22 hi (by rw [ent_obj h12, ← fld_put (hfr w i) (by rw [hN]; exact hf)]; exact h1) oq (fun k' i' h => up3_ne h)) (hS.put hz oq (hR.at (k := kk) h22 hi).2) hL (tail1 (tail1 hst))
theorem ok_putz {cc : ByteArray} {own : String} {nL : Nat} {ret : Option FieldType} {lv pc : Nat} {ix kd f nx N : Nat} {C : String} {T : u_T} {ty : Nat → FieldType} (hd : decode cc pc = .ok (.putfield ix, 3)) (hc : vwCl[kd]? = some (C, T, N)) (hN : nfd kd = N) (hf : f < N) (h12 : Nat.blt kd 12 = true) (hin : ∀ w ∈ u_ws C T N, w ∈ TT) (hty : ∀ k, k < N → parseFieldDescriptor (T k).2.2.1 = some (ty k)) (hnm : ∀ a, a < N → ∀ b, b < N → a ≠ b → (T a).2.1 ≠ (T b).2.1) (hfin : (T f).2.2.2 = false) (ht : parseFieldDescriptor (T f).2.2.1 = some .boolean) (hfr : ∀ w i, fr w kd i f = none) (hw : Cond.fieldLink own ix (T f).1 (T f).2.1 (T f).2.2.1 ∈ TT) (hn : pc + 3 = nx) : HOK cc own nL ret lv pc (o_putz kd f nx) := by
  intro p l e R s m args below meth c cells slots mc ms Q G A g0 w0 q C k hk ls st w σ ho
  obtain ⟨hx, hb, hml, hown, hts, hK, hr, hlk, hZ, hSR, hA, hlv, hcs, hcm, hQ⟩ := C
  subst hn
  intro g H locs la hge hR hS hL hst
  obtain ⟨v, r0, rfl, ho0⟩ := popI_s ho
  obtain ⟨kk, i, r, rfl, ho1⟩ := popR_s ho0
  obtain ⟨hkk, hz1, ho2⟩ := bif_s ho1
  have ek : kk = kd := Nat.eq_of_beq_eq_true hkk
  subst ek
  have hi : i < w.1 kk := tail1 hst _ List.mem_cons_self
  have h22 : kk < 22 := Nat.lt_trans (b12 h12) (by decide)
  have hat := (hR.at (k := kk) h22 hi).1
  rw [ent_obj h12] at hat
  exact hx_put hx (kls_of hc hK hts hin hty hnm) hown hat hf (hts _ hw) hfin ht (nar_z hz1) (by simp [hN, hf]) (hb ▸ hd) fun H1 sl h1 hz oq =>
    hk _ _ _ _ _ ho2 g H1 _ la hge (hR.upd h22 hi (by rw [ent_obj h12, ← fld_put (hfr w i) (by rw [hN]; exact hf)]; exact h1) oq (fun k' i' h => up3_ne h)) (hS.put hz oq (hR.at (k := kk) h22 hi).2) hL (tail1 (tail1 hst))
theorem ok_putzN {cc : ByteArray} {own : String} {nL : Nat} {ret : Option FieldType} {lv pc : Nat} {ix kd f nx N : Nat} {C host : String} {T : u_T} {ty : Nat → FieldType} (hd : decode cc pc = .ok (.putfield ix, 3)) (hc : vwCl[kd]? = some (C, T, N)) (hN : nfd kd = N) (hf : f < N) (h12 : Nat.blt kd 12 = true) (hin : ∀ w ∈ u_ws C T N, w ∈ TT) (hty : ∀ k, k < N → parseFieldDescriptor (T k).2.2.1 = some (ty k)) (hnm : ∀ a, a < N → ∀ b, b < N → a ≠ b → (T a).2.1 ≠ (T b).2.1) (hfin : (T f).2.2.2 = false) (ht : parseFieldDescriptor (T f).2.2.1 = some .boolean) (hfr : ∀ w i, fr w kd i f = none) (hw : Cond.fieldLinkNest own ix (T f).1 (T f).2.1 (T f).2.2.1 host ∈ TT) (hn : pc + 3 = nx) : HOK cc own nL ret lv pc (o_putz kd f nx) := by
  intro p l e R s m args below meth c cells slots mc ms Q G A g0 w0 q C k hk ls st w σ ho
  obtain ⟨hx, hb, hml, hown, hts, hK, hr, hlk, hZ, hSR, hA, hlv, hcs, hcm, hQ⟩ := C
  subst hn
  intro g H locs la hge hR hS hL hst
  obtain ⟨v, r0, rfl, ho0⟩ := popI_s ho
  obtain ⟨kk, i, r, rfl, ho1⟩ := popR_s ho0
  obtain ⟨hkk, hz1, ho2⟩ := bif_s ho1
  have ek : kk = kd := Nat.eq_of_beq_eq_true hkk
  subst ek
  have hi : i < w.1 kk := tail1 hst _ List.mem_cons_self
  have h22 : kk < 22 := Nat.lt_trans (b12 h12) (by decide)
  have hat := (hR.at (k := kk) h22 hi).1
  rw [ent_obj h12] at hat
  exact hx_putN hx (kls_of hc hK hts hin hty hnm) hown hat hf (hts _ hw) hfin ht (nar_z hz1) (by simp [hN, hf]) (hb ▸ hd) fun H1 sl h1 hz oq =>
    hk _ _ _ _ _ ho2 g H1 _ la hge (hR.upd h22 hi (by rw [ent_obj h12, ← fld_put (hfr w i) (by rw [hN]; exact hf)]; exact h1) oq (fun k' i' h => up3_ne h)) (hS.put hz oq (hR.at (k := kk) h22 hi).2) hL (tail1 (tail1 hst))
theorem tys_at (G : HG) (k : Nat) : ∃ ty, (tysG G)[ac k]? = some (G.2.1 (ac k), ty) := by
  unfold ac
  split <;> exact ⟨_, rfl⟩
theorem ok_alen {cc : ByteArray} {own : String} {nL : Nat} {ret : Option FieldType} {lv pc : Nat} {nx : Nat} (hd : decode cc pc = .ok (.arraylength, 1)) (hn : pc + 1 = nx) : HOK cc own nL ret lv pc (o_alen nx) := by
  intro p l e R s m args below meth c cells slots mc ms Q G A g0 w0 q C k hk ls st w σ ho
  obtain ⟨hx, hb, hml, hown, hts, hK, hr, hlk, hZ, hSR, hA, hlv, hcs, hcm, hQ⟩ := C
  subst hn
  intro g H locs la hge hR hS hL hst
  obtain ⟨kk, i, r, rfl, ho1⟩ := popR_s ho
  obtain ⟨hkk, ho2⟩ := bif_s ho1
  have hb2 : 12 ≤ kk ∧ kk ≤ 21 := by
    rw [Bool.and_eq_true] at hkk
    exact ⟨Nat.le_of_ble_eq_true hkk.1, Nat.le_of_ble_eq_true hkk.2⟩
  have hi : i < w.1 kk := hst _ List.mem_cons_self
  have h12 : Nat.blt kk 12 = false := by
    cases h : Nat.blt kk 12 with
    | false => rfl
    | true => have := b12 h; omega
  have hat := (hR.at (k := kk) (by omega) hi).1
  obtain ⟨ty, hty⟩ := tys_at G kk
  have h2 := hk _ _ _ _ _ ho2 g H locs la hge hR hS hL (cons1 (a := HI _) trivial (tail1 hst))
  cases hra : isRA kk with
  | true =>
    rw [ent_ref h12 hra] at hat
    exact va_alen (D := G.1) (tys := tysG G) hx hb hK (va_one hat) 0 (ac kk) rfl hty rfl hd h2
  | false =>
    have h30 : Nat.ble 30 kk = false := by
      cases h : Nat.ble 30 kk with
      | false => rfl
      | true => have := Nat.le_of_ble_eq_true h; omega
    rw [ent_row h12 hra h30] at hat
    exact va_alen (D := G.1) (tys := tysG G) hx hb hK (va_one hat) 0 (ac kk) rfl hty rfl hd h2
theorem or_beq {a b c : Nat} (h : (Nat.beq a b || Nat.beq a c) = true) : a = b ∨ a = c := by
  rw [Bool.or_eq_true] at h
  exact h.imp Nat.eq_of_beq_eq_true Nat.eq_of_beq_eq_true
theorem ok_iald {cc : ByteArray} {own : String} {nL : Nat} {ret : Option FieldType} {lv pc : Nat} {nx : Nat} (hd : decode cc pc = .ok (.iaload, 1)) (hn : pc + 1 = nx) : HOK cc own nL ret lv pc (o_iald nx) := by
  intro p l e R s m args below meth c cells slots mc ms Q G A g0 w0 q C k hk ls st w σ ho
  obtain ⟨hx, hb, hml, hown, hts, hK, hr, hlk, hZ, hSR, hA, hlv, hcs, hcm, hQ⟩ := C
  subst hn
  intro g H locs la hge hR hS hL hst
  obtain ⟨j, r0, rfl, ho0⟩ := popI_s ho
  obtain ⟨kk, i, r, rfl, ho1⟩ := popR_s ho0
  obtain ⟨hkk, hin, ho2⟩ := bif_s ho1
  have hi : i < w.1 kk := tail1 hst _ List.mem_cons_self
  have h2 := hk _ _ _ _ _ ho2 g H locs la hge hR hS hL (cons1 (a := HI _) trivial (tail1 (tail1 hst)))
  rcases or_beq hkk with rfl | rfl
  · exact va_iald (D := G.1) (tys := tysG G) hx hb hK (va_one (hR.at (k := 13) (by decide) hi).1) 0 1 rfl rfl hin hd h2
  · exact va_iald (D := G.1) (tys := tysG G) hx hb hK (va_one (hR.at (k := 20) (by decide) hi).1) 0 1 rfl rfl hin hd h2
theorem ok_bald {cc : ByteArray} {own : String} {nL : Nat} {ret : Option FieldType} {lv pc : Nat} {nx : Nat} (hd : decode cc pc = .ok (.baload, 1)) (hn : pc + 1 = nx) : HOK cc own nL ret lv pc (o_bald nx) := by
  intro p l e R s m args below meth c cells slots mc ms Q G A g0 w0 q C k hk ls st w σ ho
  obtain ⟨hx, hb, hml, hown, hts, hK, hr, hlk, hZ, hSR, hA, hlv, hcs, hcm, hQ⟩ := C
  subst hn
  intro g H locs la hge hR hS hL hst
  obtain ⟨j, r0, rfl, ho0⟩ := popI_s ho
  obtain ⟨kk, i, r, rfl, ho1⟩ := popR_s ho0
  obtain ⟨hkk, hin, ho2⟩ := bif_s ho1
  have hi : i < w.1 kk := tail1 hst _ List.mem_cons_self
  have h2 := hk _ _ _ _ _ ho2 g H locs la hge hR hS hL (cons1 (a := HI _) trivial (tail1 (tail1 hst)))
  rcases or_beq hkk with rfl | rfl
  · exact va_bald (D := G.1) (tys := tysG G) hx hb hK (va_one (hR.at (k := 12) (by decide) hi).1) 0 0 rfl rfl hin hd h2
  · exact va_zald (D := G.1) (tys := tysG G) hx hb hK (va_one (hR.at (k := 21) (by decide) hi).1) 0 2 rfl rfl hin hd h2
theorem ra4 {k : Nat} (h : isRA k = true) : k = 15 ∨ k = 16 ∨ k = 17 ∨ k = 18 := by
  unfold isRA at h
  rw [Bool.and_eq_true] at h
  have h1 := Nat.le_of_ble_eq_true h.1
  have h2 := Nat.le_of_ble_eq_true h.2
  omega
theorem rf_map (g : HA) (t : Nat) (o : Option Nat) : va_rf (o.map (g t)) = toV g (HO t o) := by
  cases o <;> rfl
theorem ok_aald {cc : ByteArray} {own : String} {nL : Nat} {ret : Option FieldType} {lv pc : Nat} {nx : Nat} (hd : decode cc pc = .ok (.aaload, 1)) (hn : pc + 1 = nx) : HOK cc own nL ret lv pc (o_aald nx) := by
  intro p l e R s m args below meth c cells slots mc ms Q G A g0 w0 q C k hk ls st w σ ho
  obtain ⟨hx, hb, hml, hown, hts, hK, hr, hlk, hZ, hSR, hA, hlv, hcs, hcm, hQ⟩ := C
  subst hn
  intro g H locs la hge hR hS hL hst
  obtain ⟨j, r0, rfl, ho0⟩ := popI_s ho
  obtain ⟨kk, i, r, rfl, ho1⟩ := popR_s ho0
  obtain ⟨hkk, hin, ho2⟩ := bif_s ho1
  have hi : i < w.1 kk := tail1 hst _ List.mem_cons_self
  have hv : VLv w (HO (ek kk) (w.2 kk j.toNatClampNeg)) := by
    cases h : w.2 kk j.toNatClampNeg with
    | none => exact trivial
    | some o => exact hR.2.2.2.2.1 kk _ o hkk h
  have h2 := hk _ _ _ _ _ (ho2 _ rfl) g H locs la hge hR hS hL (cons1 hv (tail1 (tail1 hst)))
  rw [List.map_cons, ← rf_map] at h2
  rcases ra4 hkk with rfl | rfl | rfl | rfl
  · exact va_aldq (D := G.1) (tys := tysG G) (C := RX3) hx hb hK (va_one (hR.at (k := 15) (by decide) hi).1) 0 3 rfl rfl hin hd h2
  · exact va_aldq (D := G.1) (tys := tysG G) (C := RX4) hx hb hK (va_one (hR.at (k := 16) (by decide) hi).1) 0 4 rfl rfl hin hd h2
  · exact va_aldq (D := G.1) (tys := tysG G) (C := RX7) hx hb hK (va_one (hR.at (k := 17) (by decide) hi).1) 0 5 rfl rfl hin hd h2
  · exact va_aldq (D := G.1) (tys := tysG G) (C := RX9) hx hb hK (va_one (hR.at (k := 18) (by decide) hi).1) 0 6 rfl rfl hin hd h2
theorem up3_at {G : HG} {g : HA} {w : HW} {σ : HS} {k i f : Nat} {v : Int32} {H : Heap} (hk : Nat.blt k 12 = false) (h2 : isRA k = false) (h3 : Nat.ble 30 k = false) (h : va_at G.1 vwCl (g k i, .inl (G.2.1 (ac k), al k i, .inl (upd (σ k i) f v))) H) : va_at G.1 vwCl (g k i, ent G g w (up3 σ k i f v) k i) H := by
  rw [ent_row hk h2 h3, up3_row]
  exact h
theorem ok_iast {cc : ByteArray} {own : String} {nL : Nat} {ret : Option FieldType} {lv pc : Nat} {nx : Nat} (hd : decode cc pc = .ok (.iastore, 1)) (hn : pc + 1 = nx) : HOK cc own nL ret lv pc (o_iast nx) := by
  intro p l e R s m args below meth c cells slots mc ms Q G A g0 w0 q C k hk ls st w σ ho
  obtain ⟨hx, hb, hml, hown, hts, hK, hr, hlk, hZ, hSR, hA, hlv, hcs, hcm, hQ⟩ := C
  subst hn
  intro g H locs la hge hR hS hL hst
  obtain ⟨v, r1, rfl, ho3⟩ := popI_s ho
  obtain ⟨j, r0, rfl, ho0⟩ := popI_s ho3
  obtain ⟨kk, i, r, rfl, ho1⟩ := popR_s ho0
  obtain ⟨hkk, hin, ho2⟩ := bif_s ho1
  have hi : i < w.1 kk := tail1 (tail1 hst) _ List.mem_cons_self
  rcases or_beq hkk with rfl | rfl
  · exact hx_iast (D := G.1) (tys := tysG G) (t := 1) hx hK rfl (hR.at (k := 13) (by decide) hi).1 hin (hb ▸ hd) fun H1 sl h1 hz oq =>
      hk _ _ _ _ _ ho2 g H1 _ la hge (hR.upd (by decide) hi (up3_at rfl rfl rfl h1) oq (fun k' i' h => up3_ne h)) (hS.put hz oq (hR.at (k := 13) (by decide) hi).2) hL (tail1 (tail1 (tail1 hst)))
  · exact hx_iast (D := G.1) (tys := tysG G) (t := 1) hx hK rfl (hR.at (k := 20) (by decide) hi).1 hin (hb ▸ hd) fun H1 sl h1 hz oq =>
      hk _ _ _ _ _ ho2 g H1 _ la hge (hR.upd (by decide) hi (up3_at rfl rfl rfl h1) oq (fun k' i' h => up3_ne h)) (hS.put hz oq (hR.at (k := 20) (by decide) hi).2) hL (tail1 (tail1 (tail1 hst)))
theorem ok_bast {cc : ByteArray} {own : String} {nL : Nat} {ret : Option FieldType} {lv pc : Nat} {nx : Nat} (hd : decode cc pc = .ok (.bastore, 1)) (hn : pc + 1 = nx) : HOK cc own nL ret lv pc (o_bast nx) := by
  intro p l e R s m args below meth c cells slots mc ms Q G A g0 w0 q C k hk ls st w σ ho
  obtain ⟨hx, hb, hml, hown, hts, hK, hr, hlk, hZ, hSR, hA, hlv, hcs, hcm, hQ⟩ := C
  subst hn
  intro g H locs la hge hR hS hL hst
  obtain ⟨v, r1, rfl, ho3⟩ := popI_s ho
  obtain ⟨j, r0, rfl, ho0⟩ := popI_s ho3
  obtain ⟨kk, i, r, rfl, ho1⟩ := popR_s ho0
  obtain ⟨hkk, hin, ho2⟩ := bif_s ho1
  have hi : i < w.1 kk := tail1 (tail1 hst) _ List.mem_cons_self
  have ek := Nat.eq_of_beq_eq_true hkk
  subst ek
  exact hx_bast (D := G.1) (tys := tysG G) (t := 0) hx hK rfl (hR.at (k := 12) (by decide) hi).1 hin (hb ▸ hd) fun H1 sl h1 hz oq =>
      hk _ _ _ _ _ ho2 g H1 _ la hge (hR.upd (by decide) hi (up3_at rfl rfl rfl h1) oq (fun k' i' h => up3_ne h)) (hS.put hz oq (hR.at (k := 12) (by decide) hi).2) hL (tail1 (tail1 (tail1 hst)))
theorem ok_zast {cc : ByteArray} {own : String} {nL : Nat} {ret : Option FieldType} {lv pc : Nat} {nx : Nat} (hd : decode cc pc = .ok (.bastore, 1)) (hn : pc + 1 = nx) : HOK cc own nL ret lv pc (o_zast nx) := by
  intro p l e R s m args below meth c cells slots mc ms Q G A g0 w0 q C k hk ls st w σ ho
  obtain ⟨hx, hb, hml, hown, hts, hK, hr, hlk, hZ, hSR, hA, hlv, hcs, hcm, hQ⟩ := C
  subst hn
  intro g H locs la hge hR hS hL hst
  obtain ⟨v, r1, rfl, ho3⟩ := popI_s ho
  obtain ⟨j, r0, rfl, ho0⟩ := popI_s ho3
  obtain ⟨kk, i, r, rfl, ho1⟩ := popR_s ho0
  obtain ⟨hkk, hz1, hin, ho2⟩ := bif_s ho1
  have hi : i < w.1 kk := tail1 (tail1 hst) _ List.mem_cons_self
  have ek := Nat.eq_of_beq_eq_true hkk
  subst ek
  exact hx_zast (D := G.1) (tys := tysG G) (t := 2) hx hK rfl (hR.at (k := 21) (by decide) hi).1 hin (nar_z hz1).1 (hb ▸ hd) fun H1 sl h1 hz oq =>
      hk _ _ _ _ _ ho2 g H1 _ la hge (hR.upd (by decide) hi (up3_at rfl rfl rfl h1) oq (fun k' i' h => up3_ne h)) (hS.put hz oq (hR.at (k := 21) (by decide) hi).2) hL (tail1 (tail1 (tail1 hst)))
theorem ok_iret {cc : ByteArray} {own : String} {nL : Nat} {lv pc : Nat} (hd : decode cc pc = .ok (.ireturn, 1)) : HOK cc own nL (some .int) lv pc o_iret := by
  intro p l e R s m args below meth c cells slots mc ms Q G A g0 w0 q C k hk ls st w σ ho
  obtain ⟨hx, hb, hml, hown, hts, hK, hr, hlk, hZ, hSR, hA, hlv, hcs, hcm, hQ⟩ := C
  intro g H locs la hge hR hS hL hst
  obtain ⟨v, r, rfl, ho1⟩ := popI_s ho
  obtain ⟨rfl, ho2⟩ := hnil_s ho1
  rw [hQ _ _ _ ho2]
  refine W.widen hcm.1 hcm.2 ?_
  exact W.iret hx hb hr (fun t ht hW => ⟨⟨some (HI v), w, σ, g, rfl, ho2, hge, fun u hu => by cases hu; exact trivial, by rw [ht]; exact hR⟩, hS.F ht⟩) hS.2.2 hd hlk
theorem ok_zret {cc : ByteArray} {own : String} {nL : Nat} {lv pc : Nat} (hd : decode cc pc = .ok (.ireturn, 1)) : HOK cc own nL (some .boolean) lv pc o_zret := by
  intro p l e R s m args below meth c cells slots mc ms Q G A g0 w0 q C k hk ls st w σ ho
  obtain ⟨hx, hb, hml, hown, hts, hK, hr, hlk, hZ, hSR, hA, hlv, hcs, hcm, hQ⟩ := C
  intro g H locs la hge hR hS hL hst
  obtain ⟨v, r, rfl, ho1⟩ := popI_s ho
  obtain ⟨rfl, hz, ho2⟩ := hnil_s ho1
  rw [hQ _ _ _ ho2]
  refine W.widen hcm.1 hcm.2 ?_
  exact W.zret hx hb hr (nar_z hz).1 (fun t ht hW => ⟨⟨some (HI v), w, σ, g, rfl, ho2, hge, fun u hu => by cases hu; exact trivial, by rw [ht]; exact hR⟩, hS.F ht⟩) hS.2.2 hd hlk
theorem ok_aret {cc : ByteArray} {own C : String} {nL : Nat} {lv pc : Nat} (hd : decode cc pc = .ok (.areturn, 1)) : HOK cc own nL (some (.object C)) lv pc o_aret := by
  intro p l e R s m args below meth c cells slots mc ms Q G A g0 w0 q C k hk ls st w σ ho
  obtain ⟨hx, hb, hml, hown, hts, hK, hr, hlk, hZ, hSR, hA, hlv, hcs, hcm, hQ⟩ := C
  intro g H locs la hge hR hS hL hst
  obtain ⟨kd, o, r, rfl, ho1⟩ := popO_s ho
  obtain ⟨rfl, ho2⟩ := hnil_s ho1
  rw [hQ _ _ _ ho2]
  refine W.widen hcm.1 hcm.2 ?_
  exact W.aret (v := toV g (HO kd o)) hx hb hr (Or.inl ⟨_, rfl⟩) (by cases o; exact Or.inl rfl; exact Or.inr ⟨_, rfl⟩) (fun t ht hW => ⟨⟨some (HO kd o), w, σ, g, rfl, ho2, hge, fun u hu => by cases hu; exact hst _ List.mem_cons_self, by rw [ht]; exact hR⟩, hS.F ht⟩) hS.2.2 hd hlk
theorem ok_vret {cc : ByteArray} {own : String} {nL : Nat} {lv pc : Nat} (hd : decode cc pc = .ok (.return_, 1)) : HOK cc own nL none lv pc o_vret := by
  intro p l e R s m args below meth c cells slots mc ms Q G A g0 w0 q C k hk ls st w σ ho
  obtain ⟨hx, hb, hml, hown, hts, hK, hr, hlk, hZ, hSR, hA, hlv, hcs, hcm, hQ⟩ := C
  intro g H locs la hge hR hS hL hst
  obtain ⟨rfl, ho2⟩ := hnil_s ho
  rw [hQ _ _ _ ho2]
  refine W.widen hcm.1 hcm.2 ?_
  exact W.vret hx hb hr (fun t ht hW => ⟨⟨none, w, σ, g, rfl, ho2, hge, (fun u hu => nomatch hu), by rw [ht]; exact hR⟩, hS.F ht⟩) hS.2.2 hd hlk
end
section
/-! OUR FRAME, 5: contracts, calls, conditions of a method -/
theorem TTgood {x : Cond} (h : x ∈ TT) : goodWord x = true ∨ isNest x = true := by
  have := (List.mem_filter.mp h).2
  unfold okw at this
  rw [Bool.or_eq_true] at this
  exact this
theorem TTw {s U : State} {args a' : Array Value} (hW : s.WarmedH U.vm) (hts : ∀ x ∈ TT, x.before args s = true) : ∀ x ∈ TT, x.before a' U = true := by
  intro x hx
  have h := hts x hx
  rcases TTgood hx with hg | hg
  · exact word_at hW (good_of_word hg) h
  · cases x <;> first
      | (simp [isNest] at hg; done)
      | exact va_Nw.use rfl (va_Nw.warmF hW (va_Nw.of rfl h))
      | exact va_Nw.use rfl (va_Nw.warmM hW (va_Nw.of rfl h))
def rmL (lv mc ms : Nat) : Room := { frames := lv, cells := mc, slots := ms, locals := 30 * lv }
def PreC (G : HG) (A : Nat → Prop) (g : HA) (w : HW) (σ : HS) (U : State) : Prop := (∀ x ∈ TT, x.before #[] U = true) ∧ va_K G.1 vwCl (tysG G) U ∧ ZS G A U U.heap ∧ SRf G U ∧ RepS G A g w σ U.heap ∧ ∀ q, U.heap.size ≤ q → A q
def c1b (v : HV) : Bool := match v with
  | .inr (.inr _) => false
  | _ => true
/-- a method's contract, as a transformer of conditions -/
def Ctr (y : MethodName) (bytes : ByteArray) (maxL : Nat) (ret : Option FieldType) (lv mc ms n : Nat) (sp : HSp) : Prop :=
  ∀ (l : Launch) (G : HG) (A : Nat → Prop) (g : HA) (as : List HV) (w : HW) (σ : HS) (K : HRt), sp as w σ K → (∀ v ∈ as, VLv w v) → as.all c1b = true → as.length = n → Met l y [.code y bytes maxL ret] (rmL lv mc ms) (va_Pc (as.map (toV g)) (PreC G A g w σ)) (QQ G A g w K) mc ms A
theorem PreC.calling {G : HG} {A : Nat → Prop} {g : HA} {w : HW} {σ : HS} {U : State} {gf : JFrame} {mk : MethodId} {a : Array Value} (h : PreC G A g w σ U) : PreC G A g w σ (U.calling gf mk a) := by
  obtain ⟨h1, h2, h3, h4, h5, h6⟩ := h
  obtain ⟨s1, s2, s3, s4, s5, s6⟩ := h4
  exact ⟨TTw (s := U) (U := U.calling gf mk a) (State.WarmedH.refl U) h1, va_K.moved (u := U) (Vm.Alike.refl U.vm) h2, ZS.moved (u := U) (Vm.Alike.refl U.vm) h3, ⟨s1.same rfl, s2.same rfl, s3.same rfl, s4.same rfl, s5.same rfl, s6.same rfl⟩, h5, h6⟩
theorem PreC.at {G : HG} {A : Nat → Prop} {g : HA} {w : HW} {σ : HS} {s U : State} {args : Array Value} {H : Heap} {locs : List Loc} (hts : ∀ x ∈ TT, x.before args s = true) (hK : va_K G.1 vwCl (tysG G) s) (hZ : ZS G A s s.heap) (hSR : SRf G s) (hA : ∀ q, s.heap.size ≤ q → A q) (hR : RepS G A g w σ H) (hS : va_S A s.heap H locs) (hU : U.heap = H) (hW : s.WarmedH U.vm) : PreC G A g w σ U := by
  subst hU
  obtain ⟨s1, s2, s3, s4, s5, s6⟩ := hSR
  exact ⟨TTw hW hts, hK.moved hW.alike, (hZ.kept hS.2.1).moved hW.alike, ⟨s1.warm hW, s2.warm hW, s3.warm hW, s4.warm hW, s5.warm hW, s6.warm hW⟩, hR, fun q h => hA q (Nat.le_trans hS.1 h)⟩
theorem pc_blind {G : HG} {A : Nat → Prop} {g : HA} {w : HW} {σ : HS} {vs : List Value} : FrameBlind (va_Pc vs (PreC G A g w σ)) := fun _ _ _ _ q => ⟨q.1, q.2.calling⟩
theorem good1 {y : MethodName} {bytes : ByteArray} {maxL : Nat} {ret : Option FieldType} (h : Cond.code y bytes maxL ret ∈ TT) : GoodIn TT [.code y bytes maxL ret] := by
  intro x hx
  rw [List.mem_singleton.mp hx]
  exact ⟨h, good_of_word rfl⟩
/-- a later heap, more places written: all of A -/
theorem vaS_on {A : Nat → Prop} {H0 H H1 : Heap} {locs L : List Loc} (h : va_S A H0 H locs) (hz : H.size ≤ H1.size) (hk : ∀ q : Nat, q < H.size → ¬ A q → H1[q]? = H[q]?) (hL : ∀ x ∈ L, A x.base) : va_S A H0 H1 (locs ++ L) := by
  obtain ⟨y1, y2, y3⟩ := h
  exact ⟨Nat.le_trans y1 hz, fun q z1 z2 => (hk q (Nat.lt_of_lt_of_le z1 y1) z2).trans (y2 q z1 z2), List.forall_mem_append.mpr ⟨y3, hL⟩⟩
section HCall
variable {p : Program} {l : Launch} {e : Env} {R : Room} {s : State} {m : MethodId} {args : Array Value} {below : List Frame} {meth : Method} {c : Code} {H : Heap} {locs : List Loc} {cells slots mc ms pc : Nat} {Q : State → Prop} {G : HG} {A : Nat → Prop} {g : HA} {w : HW} {K : HRt} {la : Array Slot} {st0 rest : List Value} {a : Array Value}
theorem call_go (hr : va_Run p l e R s m args below meth c H locs cells slots mc ms (F0 m pc la st0) rest (QQ G A g w K a) A) (hS : va_S A s.heap H locs)
    (kk : ∀ (r : Option HV) (w' : HW) (σ' : HS) (g' : HA) (H1 : Heap) (locs1 : List Loc), K r w' σ' → GE g w g' w' → (∀ v, r = some v → VLv w' v) → RepS G A g' w' σ' H1 → va_S A s.heap H1 locs1 → W p l e R s m args below meth c H1 locs1 (cells + mc) (slots + ms) Q (F0 m (pc + 3) la ((r.map (toV g')).toList ++ rest))) : W p l e R s m args below meth c H locs cells slots Q (F0 m pc la st0) := by
  intro U hU X
  obtain ⟨_, B, E, U2, L, q1, X2, q2, q3, -, ⟨⟨r, w', σ', g', i0, i1, i2, i3, i4⟩, i5, i6⟩, fin⟩ := hr U hU X
  obtain rfl := Outcome.returned.inj i0
  rw [q1, ← q3] at i5 i6
  rw [← q3] at i4
  obtain ⟨u, u1, u2⟩ := kk r w' σ' g' _ _ i1 i2 i3 i4 (vaS_on hS i5 i6 q2) U2 rfl X2
  exact ⟨u, fin u u1, u2⟩
end HCall
theorem cat_le (v : Value) : v.category ≤ 2 := by cases v <;> simp [Value.category]
theorem cat_sum : ∀ {st : List Value}, (st.map fun v => v.category).sum ≤ 2 * st.length
  | [] => Nat.le_refl _
  | a :: r => by
    have h1 := cat_le a
    have h2 := cat_sum (st := r)
    simp only [List.map_cons, List.sum_cons, List.length_cons]
    omega
theorem cat_one {g : HA} : ∀ {st : List HV}, st.all c1b = true → ((st.map (toV g)).map fun v => v.category).sum ≤ st.length
  | [], _ => Nat.le_refl _
  | a :: r, h => by
    rw [List.all_cons, Bool.and_eq_true] at h
    have h2 := cat_one (g := g) h.2
    have h1 : (toV g a).category ≤ 1 := by
      rcases a with x | ⟨k, x⟩ | x
      · exact Nat.le_refl 1
      · cases x <;> exact Nat.le_refl 1
      · exact absurd h.1 Bool.false_ne_true
    simp only [List.map_cons, List.sum_cons, List.length_cons]
    omega
/-- what may lie below a call -/
def dpt (st : List HV) : Bool := Nat.ble st.length 4 || (st.all c1b && Nat.ble st.length 8)
theorem dpt_le {g : HA} {st : List HV} (h : dpt st = true) : ((st.map (toV g)).map fun v => v.category).sum ≤ 8 := by
  unfold dpt at h
  rw [Bool.or_eq_true, Bool.and_eq_true] at h
  rcases h with h | ⟨h1, h2⟩
  · exact Nat.le_trans cat_sum (by rw [List.length_map]; have := Nat.le_of_ble_eq_true h; omega)
  · exact Nat.le_trans (cat_one h1) (Nat.le_of_ble_eq_true h2)
def o_callS (n : Nat) (sp : HSp) (nx : Nat) : HOp := fun k _ ls st w σ => bif Nat.beq (st.take n).length n && (st.take n).all c1b && Nat.ble (st.drop n).length 4 then sp (st.take n).reverse w σ (fun r w' σ' => k nx ls (r.toList ++ st.drop n) w' σ') else False
def o_callV (n kd : Nat) (sp : HSp) (nx : Nat) : HOp := fun k _ ls st w σ => popR (st.take n).reverse fun kk i As => bif Nat.beq kk kd && Nat.beq (As.length + 1) n && As.all c1b && dpt (st.drop n) then sp (HR kd i :: As) w σ (fun r w' σ' => k nx ls (r.toList ++ st.drop n) w' σ') else False
theorem room_of {R : Room} {lv lv' maxL : Nat} (hlv : lv ≤ R.frames ∧ 30 * lv ≤ R.locals) (h1 : lv' < lv) (h2 : maxL ≤ 11) : (rmL lv' 0 0).frames + 1 ≤ R.frames ∧ 8 + (maxL + 11) + (rmL lv' 0 0).locals ≤ R.locals := by
  show lv' + 1 ≤ R.frames ∧ 8 + (maxL + 11) + 30 * lv' ≤ R.locals
  omega
theorem live_tail {w w' : HW} {g g' : HA} {st : List HV} {n : Nat} {r : Option HV} (hge : GE g w g' w') (hst : ∀ v ∈ st, VLv w v) (hr : ∀ v, r = some v → VLv w' v) : (r.map (toV g')).toList ++ (st.drop n).map (toV g) = (r.toList ++ st.drop n).map (toV g') ∧ ∀ v ∈ r.toList ++ st.drop n, VLv w' v := by
  have hd : ∀ v ∈ st.drop n, VLv w v := fun v hv => hst v (List.mem_of_mem_drop hv)
  obtain ⟨h1, h2⟩ := map_ge hge hd
  refine ⟨by rw [List.map_append, h1]; cases r <;> rfl, fun v hv => ?_⟩
  rcases List.mem_append.mp hv with h | h
  · cases r with
    | none => simp at h
    | some u => simp at h; exact h ▸ hr u rfl
  · exact h2 v h
theorem ok_callS {cc : ByteArray} {own : String} {nL : Nat} {ret : Option FieldType} {lv pc : Nat} {ix n nx lv' maxL : Nat} {y : MethodName} {bytes : ByteArray} {rt : Option FieldType} {sp : HSp} (hd : decode cc pc = .ok (.invokestatic ix, 3)) (hC : Ctr y bytes maxL rt lv' 0 0 n sp) (hl : lv' < lv) (hm : maxL ≤ 11) (hw1 : Cond.code y bytes maxL rt ∈ TT) (hw2 : Cond.methodLink own ix y ∈ TT) (hw3 : Cond.static y ∈ TT) (hw4 : Cond.initialized y.cls ∈ TT) (hy : y.cls ≠ "java/lang/invoke/MethodHandle" ∧ y.cls ≠ "java/lang/invoke/VarHandle" ∧ (parseMethodDescriptor y.desc).map (fun d => d.parameters.length) = some n) (hn : pc + 3 = nx) : HOK cc own nL ret lv pc (o_callS n sp nx) := by
  intro p l e R s m args below meth c cells slots mc ms Q G A g0 w0 q C k hk ls st w σ ho
  obtain ⟨hx, hb, hml, hown, hts, hK, hr, hlk, hZ, hSR, hA, hlv, hcs, hcm, hQ⟩ := C
  subst hn
  intro g H locs la hge hR hS hL hst
  obtain ⟨hc, ho1⟩ := bif_s ho
  simp only [Bool.and_eq_true] at hc
  obtain ⟨⟨hc1, hc2⟩, hc3⟩ := hc
  have hn' : (st.take n).length = n := Nat.eq_of_beq_eq_true hc1
  have hM := hC l G A g (st.take n).reverse w σ _ ho1 (fun v hv => hst v (List.mem_of_mem_take (List.mem_reverse.mp hv))) (by rw [List.all_reverse]; exact hc2) (by rw [List.length_reverse]; exact hn')
  have hrun := va_runS (e := e) (g := F0 m pc la (st.map (toV g))) (rest := (st.drop n).map (toV g)) (H := H) (locs := locs) (cells := cells) (slots := slots) (below := below) (meth := meth) ⟨hx, hb, hml, hown, hts⟩ hM ⟨callB_of n hts (good1 hw1) rfl rfl rfl (hts _ hw4) (hts _ hw2) hy (room_of hlv hl hm), hts _ hw3⟩ ⟨pc_blind, fun U hU hW => ⟨rfl, PreC.at hts hK hZ hSR hA hR hS hU hW⟩⟩ rfl (by rw [List.length_map, List.length_reverse]; exact hn') hL.1.1 (by
    show st.map (toV g) = _
    rw [← List.map_reverse, List.reverse_reverse, ← List.map_append, List.take_append_drop]) (lv_room (Nat.le_trans cat_sum (by rw [List.length_map]; have := Nat.le_of_ble_eq_true hc3; omega))) hd hcs
  refine call_go hrun hS fun r w' σ' g' H1 locs1 hp hge2 hlr hR1 hS1 => ?_
  obtain ⟨e1, h2⟩ := live_tail (n := n) hge2 hst hlr
  rw [e1]
  exact hk _ _ _ _ _ hp g' H1 locs1 la (hge.tr hge2) hR1 hS1 (hL.ge hge2) h2
theorem ok_callSN {cc : ByteArray} {own : String} {nL : Nat} {ret : Option FieldType} {lv pc : Nat} {ix n nx lv' maxL : Nat} {host : String} {y : MethodName} {bytes : ByteArray} {rt : Option FieldType} {sp : HSp} (hd : decode cc pc = .ok (.invokestatic ix, 3)) (hC : Ctr y bytes maxL rt lv' 0 0 n sp) (hl : lv' < lv) (hm : maxL ≤ 11) (hw1 : Cond.code y bytes maxL rt ∈ TT) (hw2 : Cond.methodLinkNest own ix y host ∈ TT) (hw3 : Cond.static y ∈ TT) (hw4 : Cond.initialized y.cls ∈ TT) (hy : y.cls ≠ "java/lang/invoke/MethodHandle" ∧ y.cls ≠ "java/lang/invoke/VarHandle" ∧ (parseMethodDescriptor y.desc).map (fun d => d.parameters.length) = some n) (hn : pc + 3 = nx) : HOK cc own nL ret lv pc (o_callS n sp nx) := by
  intro p l e R s m args below meth c cells slots mc ms Q G A g0 w0 q C k hk ls st w σ ho
  obtain ⟨hx, hb, hml, hown, hts, hK, hr, hlk, hZ, hSR, hA, hlv, hcs, hcm, hQ⟩ := C
  subst hn
  intro g H locs la hge hR hS hL hst
  obtain ⟨hc, ho1⟩ := bif_s ho
  simp only [Bool.and_eq_true] at hc
  obtain ⟨⟨hc1, hc2⟩, hc3⟩ := hc
  have hn' : (st.take n).length = n := Nat.eq_of_beq_eq_true hc1
  have hM := hC l G A g (st.take n).reverse w σ _ ho1 (fun v hv => hst v (List.mem_of_mem_take (List.mem_reverse.mp hv))) (by rw [List.all_reverse]; exact hc2) (by rw [List.length_reverse]; exact hn')
  have hrun := va_runSN (e := e) (g := F0 m pc la (st.map (toV g))) (rest := (st.drop n).map (toV g)) (H := H) (locs := locs) (cells := cells) (slots := slots) (below := below) (meth := meth) ⟨hx, hb, hml, hown, hts⟩ hM ⟨va_cnB n hts (good1 hw1) rfl rfl rfl (va_Nw.of rfl (hts _ hw2)) (hts _ hw4) hy (room_of hlv hl hm), hts _ hw3, trivial⟩ ⟨pc_blind, fun U hU hW => ⟨rfl, PreC.at hts hK hZ hSR hA hR hS hU hW⟩⟩ rfl (by rw [List.length_map, List.length_reverse]; exact hn') hL.1.1 (by
    show st.map (toV g) = _
    rw [← List.map_reverse, List.reverse_reverse, ← List.map_append, List.take_append_drop]) (lv_room (Nat.le_trans cat_sum (by rw [List.length_map]; have := Nat.le_of_ble_eq_true hc3; omega))) hd hcs
  refine call_go hrun hS fun r w' σ' g' H1 locs1 hp hge2 hlr hR1 hS1 => ?_
  obtain ⟨e1, h2⟩ := live_tail (n := n) hge2 hst hlr
  rw [e1]
  exact hk _ _ _ _ _ hp g' H1 locs1 la (hge.tr hge2) hR1 hS1 (hL.ge hge2) h2
theorem ok_callV {cc : ByteArray} {own : String} {nL : Nat} {ret : Option FieldType} {lv pc : Nat} {ix n n' nx lv' maxL kd : Nat} {C : String} {T : u_T} {N : Nat} {y : MethodName} {bytes : ByteArray} {rt : Option FieldType} {sp : HSp} (hd : decode cc pc = .ok (.invokevirtual ix, 3)) (hC : Ctr y bytes maxL rt lv' 0 0 n sp) (hl : lv' < lv) (hm : maxL ≤ 11) (hw1 : Cond.code y bytes maxL rt ∈ TT) (hw2 : Cond.methodLink own ix y ∈ TT) (hw3 : Cond.instanceMethod y ∈ TT) (hw5 : Cond.selects C y y ∈ TT) (hw4 : Cond.initialized y.cls ∈ TT) (hnn : n' + 1 = n) (hy : y.cls ≠ "java/lang/invoke/MethodHandle" ∧ y.cls ≠ "java/lang/invoke/VarHandle" ∧ (parseMethodDescriptor y.desc).map (fun d => d.parameters.length) = some n') (hc : vwCl[kd]? = some (C, T, N)) (h12 : Nat.blt kd 12 = true) (hn : pc + 3 = nx) : HOK cc own nL ret lv pc (o_callV n kd sp nx) := by
  intro p l e R s m args below meth c cells slots mc ms Q G A g0 w0 q C k hk ls st w σ ho
  obtain ⟨hx, hb, hml, hown, hts, hK, hr, hlk, hZ, hSR, hA, hlv, hcs, hcm, hQ⟩ := C
  subst hn
  intro g H locs la hge hR hS hL hst
  obtain ⟨kk, i, As, hrev, ho0⟩ := popR_s ho
  obtain ⟨hcc, ho1⟩ := bif_s ho0
  simp only [Bool.and_eq_true] at hcc
  obtain ⟨⟨⟨hc0, hc1⟩, hc2⟩, hc3⟩ := hcc
  have ek : kk = kd := Nat.eq_of_beq_eq_true hc0
  subst ek
  have hn1 : As.length + 1 = n := Nat.eq_of_beq_eq_true hc1
  have htk : st.take n = As.reverse ++ [HR kk i] := by
    rw [← List.reverse_reverse (st.take n), hrev, List.reverse_cons]
  have hlv1 : ∀ v ∈ HR kk i :: As, VLv w v := fun v hv => hst v (List.mem_of_mem_take (List.mem_reverse.mp (hrev ▸ hv)))
  have hM := hC l G A g (HR kk i :: As) w σ _ ho1 hlv1 (by rw [List.all_cons, hc2]; rfl) (by rw [List.length_cons]; exact hn1)
  have hi : i < w.1 kk := hlv1 _ List.mem_cons_self
  have h22 : kk < 22 := Nat.lt_trans (b12 h12) (by decide)
  have hat := (hR.at (k := kk) h22 hi).1
  rw [ent_obj h12] at hat
  have hrun := va_runV (e := e) (g := F0 m pc la (st.map (toV g))) (As := As.map (toV g)) (b := g kk i) (rest := (st.drop n).map (toV g)) (H := H) (locs := locs) (cells := cells) (slots := slots) (below := below) (meth := meth) ⟨hx, hb, hml, hown, hts⟩ hM ⟨callB_of n' hts (good1 hw1) rfl rfl rfl (hts _ hw4) (hts _ hw2) hy (room_of hlv hl hm), hts _ hw3, hts _ hw5⟩ ⟨pc_blind, va_recv hK (va_one hat) hc (q0 := 0) rfl, fun U hU hW => ⟨rfl, PreC.at hts hK hZ hSR hA hR hS hU hW⟩⟩ rfl (by rw [List.length_map]; omega) hL.1.1 (by
    show st.map (toV g) = _
    have e2 := congrArg (List.map (toV g)) (List.take_append_drop n st)
    rw [htk] at e2
    rw [← e2]
    simp [List.map_append, List.map_reverse, toV]) (lv_room (dpt_le hc3)) hd hcs
  refine call_go hrun hS fun r w' σ' g' H1 locs1 hp hge2 hlr hR1 hS1 => ?_
  obtain ⟨e1, h2⟩ := live_tail (n := n) hge2 hst hlr
  rw [e1]
  exact hk _ _ _ _ _ hp g' H1 locs1 la (hge.tr hge2) hR1 hS1 (hL.ge hge2) h2
theorem ok_callVN {cc : ByteArray} {own : String} {nL : Nat} {ret : Option FieldType} {lv pc : Nat} {ix n n' nx lv' maxL kd : Nat} {C host : String} {T : u_T} {N : Nat} {y : MethodName} {bytes : ByteArray} {rt : Option FieldType} {sp : HSp} (hd : decode cc pc = .ok (.invokevirtual ix, 3)) (hC : Ctr y bytes maxL rt lv' 0 0 n sp) (hl : lv' < lv) (hm : maxL ≤ 11) (hw1 : Cond.code y bytes maxL rt ∈ TT) (hw2 : Cond.methodLinkNest own ix y host ∈ TT) (hw3 : Cond.instanceMethod y ∈ TT) (hw5 : Cond.selects C y y ∈ TT) (hw4 : Cond.initialized y.cls ∈ TT) (hnn : n' + 1 = n) (hy : y.cls ≠ "java/lang/invoke/MethodHandle" ∧ y.cls ≠ "java/lang/invoke/VarHandle" ∧ (parseMethodDescriptor y.desc).map (fun d => d.parameters.length) = some n') (hc : vwCl[kd]? = some (C, T, N)) (h12 : Nat.blt kd 12 = true) (hn : pc + 3 = nx) : HOK cc own nL ret lv pc (o_callV n kd sp nx) := by
  intro p l e R s m args below meth c cells slots mc ms Q G A g0 w0 q C k hk ls st w σ ho
  obtain ⟨hx, hb, hml, hown, hts, hK, hr, hlk, hZ, hSR, hA, hlv, hcs, hcm, hQ⟩ := C
  subst hn
  intro g H locs la hge hR hS hL hst
  obtain ⟨kk, i, As, hrev, ho0⟩ := popR_s ho
  obtain ⟨hcc, ho1⟩ := bif_s ho0
  simp only [Bool.and_eq_true] at hcc
  obtain ⟨⟨⟨hc0, hc1⟩, hc2⟩, hc3⟩ := hcc
  have ek : kk = kd := Nat.eq_of_beq_eq_true hc0
  subst ek
  have hn1 : As.length + 1 = n := Nat.eq_of_beq_eq_true hc1
  have htk : st.take n = As.reverse ++ [HR kk i] := by
    rw [← List.reverse_reverse (st.take n), hrev, List.reverse_cons]
  have hlv1 : ∀ v ∈ HR kk i :: As, VLv w v := fun v hv => hst v (List.mem_of_mem_take (List.mem_reverse.mp (hrev ▸ hv)))
  have hM := hC l G A g (HR kk i :: As) w σ _ ho1 hlv1 (by rw [List.all_cons, hc2]; rfl) (by rw [List.length_cons]; exact hn1)
  have hi : i < w.1 kk := hlv1 _ List.mem_cons_self
  have h22 : kk < 22 := Nat.lt_trans (b12 h12) (by decide)
  have hat := (hR.at (k := kk) h22 hi).1
  rw [ent_obj h12] at hat
  have hrun := va_runVN (e := e) (g := F0 m pc la (st.map (toV g))) (As := As.map (toV g)) (b := g kk i) (rest := (st.drop n).map (toV g)) (H := H) (locs := locs) (cells := cells) (slots := slots) (below := below) (meth := meth) ⟨hx, hb, hml, hown, hts⟩ hM ⟨va_cnB n' hts (good1 hw1) rfl rfl rfl (va_Nw.of rfl (hts _ hw2)) (hts _ hw4) hy (room_of hlv hl hm), hts _ hw3, hts _ hw5⟩ ⟨pc_blind, va_recv hK (va_one hat) hc (q0 := 0) rfl, fun U hU hW => ⟨rfl, PreC.at hts hK hZ hSR hA hR hS hU hW⟩⟩ rfl (by rw [List.length_map]; omega) hL.1.1 (by
    show st.map (toV g) = _
    have e2 := congrArg (List.map (toV g)) (List.take_append_drop n st)
    rw [htk] at e2
    rw [← e2]
    simp [List.map_append, List.map_reverse, toV]) (lv_room (dpt_le hc3)) hd hcs
  refine call_go hrun hS fun r w' σ' g' H1 locs1 hp hge2 hlr hR1 hS1 => ?_
  obtain ⟨e1, h2⟩ := live_tail (n := n) hge2 hst hlr
  rw [e1]
  exact hk _ _ _ _ _ hp g' H1 locs1 la (hge.tr hge2) hR1 hS1 (hL.ge hge2) h2
end
