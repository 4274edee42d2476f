section
-- ===== PART A: goes FIRST, ahead of the names: the tables' words, and 'selects' of the private methods out of them =====
/-- a private method of a class that the tables say can be made, by its rows of tables_1 -/
def lw_okq (q : MethodName × Nat) : Prop := (q.1.cls ≠ "java/lang/invoke/MethodHandle" ∧ q.1.cls ≠ "java/lang/invoke/VarHandle") ∧ Cond.instantiable q.1.cls q.2 ∈ tables_1 ∧ Cond.privateMethod q.1 ∈ tables_1 ∧ Cond.instanceMethod q.1 ∈ tables_1
theorem lw_p0 : lw_okq (⟨"VisitHall$Gate", "reasonOfPeople", "(LVisitHall$Visit;)I"⟩, 6) := ⟨⟨by decide +kernel, by decide +kernel⟩, List.mem_of_getElem? (i := 140) (by decide +kernel), List.mem_of_getElem? (i := 381) (by decide +kernel), List.mem_of_getElem? (i := 382) (by decide +kernel)⟩
theorem lw_p1 : lw_okq (⟨"VisitHall$Gate", "reasonOfRight", "(LVisitHall$Visit;)I"⟩, 6) := ⟨⟨by decide +kernel, by decide +kernel⟩, List.mem_of_getElem? (i := 140) (by decide +kernel), List.mem_of_getElem? (i := 398) (by decide +kernel), List.mem_of_getElem? (i := 399) (by decide +kernel)⟩
theorem lw_p2 : lw_okq (⟨"VisitHall$Gate", "mostInSpan", "(LVisitHall$Visit;I)I"⟩, 6) := ⟨⟨by decide +kernel, by decide +kernel⟩, List.mem_of_getElem? (i := 140) (by decide +kernel), List.mem_of_getElem? (i := 412) (by decide +kernel), List.mem_of_getElem? (i := 413) (by decide +kernel)⟩
theorem lw_p3 : lw_okq (⟨"VisitHall$Gate", "tallyAround", "(LVisitHall$Visit;I)V"⟩, 6) := ⟨⟨by decide +kernel, by decide +kernel⟩, List.mem_of_getElem? (i := 140) (by decide +kernel), List.mem_of_getElem? (i := 416) (by decide +kernel), List.mem_of_getElem? (i := 417) (by decide +kernel)⟩
theorem lw_p4 : lw_okq (⟨"VisitHall$Gate", "reasonOfHall", "(LVisitHall$Visit;)I"⟩, 6) := ⟨⟨by decide +kernel, by decide +kernel⟩, List.mem_of_getElem? (i := 140) (by decide +kernel), List.mem_of_getElem? (i := 428) (by decide +kernel), List.mem_of_getElem? (i := 429) (by decide +kernel)⟩
theorem lw_p5 : lw_okq (⟨"VisitHall$Gate", "meetsRivals", "(LVisitHall$Visit;)Z"⟩, 6) := ⟨⟨by decide +kernel, by decide +kernel⟩, List.mem_of_getElem? (i := 140) (by decide +kernel), List.mem_of_getElem? (i := 444) (by decide +kernel), List.mem_of_getElem? (i := 445) (by decide +kernel)⟩
theorem lw_p6 : lw_okq (⟨"VisitHall$Gate", "areOfRivals", "(LVisitHall$Visit;LVisitHall$Visit;)Z"⟩, 6) := ⟨⟨by decide +kernel, by decide +kernel⟩, List.mem_of_getElem? (i := 140) (by decide +kernel), List.mem_of_getElem? (i := 449) (by decide +kernel), List.mem_of_getElem? (i := 450) (by decide +kernel)⟩
theorem lw_p7 : lw_okq (⟨"VisitHall$Gate", "marksRoom", "(LVisitHall$Visit;)Z"⟩, 6) := ⟨⟨by decide +kernel, by decide +kernel⟩, List.mem_of_getElem? (i := 140) (by decide +kernel), List.mem_of_getElem? (i := 474) (by decide +kernel), List.mem_of_getElem? (i := 475) (by decide +kernel)⟩
theorem lw_p8 : lw_okq (⟨"VisitHall$RightReader", "nextNumber", "(II)I"⟩, 4) := ⟨⟨by decide +kernel, by decide +kernel⟩, List.mem_of_getElem? (i := 76) (by decide +kernel), List.mem_of_getElem? (i := 580) (by decide +kernel), List.mem_of_getElem? (i := 581) (by decide +kernel)⟩
theorem lw_p9 : lw_okq (⟨"VisitHall$RightReader", "next", "()V"⟩, 4) := ⟨⟨by decide +kernel, by decide +kernel⟩, List.mem_of_getElem? (i := 76) (by decide +kernel), List.mem_of_getElem? (i := 584) (by decide +kernel), List.mem_of_getElem? (i := 585) (by decide +kernel)⟩
theorem lw_p10 : lw_okq (⟨"VisitHall$RightReader", "wordAsNumber", "()I"⟩, 4) := ⟨⟨by decide +kernel, by decide +kernel⟩, List.mem_of_getElem? (i := 76) (by decide +kernel), List.mem_of_getElem? (i := 592) (by decide +kernel), List.mem_of_getElem? (i := 593) (by decide +kernel)⟩
theorem lw_p11 : lw_okq (⟨"VisitHall$RightReader", "refuse", "()V"⟩, 4) := ⟨⟨by decide +kernel, by decide +kernel⟩, List.mem_of_getElem? (i := 76) (by decide +kernel), List.mem_of_getElem? (i := 600) (by decide +kernel), List.mem_of_getElem? (i := 601) (by decide +kernel)⟩
theorem lw_p12 : lw_okq (⟨"VisitHall$RightReader", "nextMustBe", "(Ljava/lang/String;)V"⟩, 4) := ⟨⟨by decide +kernel, by decide +kernel⟩, List.mem_of_getElem? (i := 76) (by decide +kernel), List.mem_of_getElem? (i := 605) (by decide +kernel), List.mem_of_getElem? (i := 606) (by decide +kernel)⟩
theorem lw_p13 : lw_okq (⟨"VisitHall$RightReader", "isWord", "(Ljava/lang/String;)Z"⟩, 4) := ⟨⟨by decide +kernel, by decide +kernel⟩, List.mem_of_getElem? (i := 76) (by decide +kernel), List.mem_of_getElem? (i := 609) (by decide +kernel), List.mem_of_getElem? (i := 610) (by decide +kernel)⟩
theorem lw_p14 : lw_okq (⟨"VisitHall$RightReader", "readFar", "(LVisitHall$Right;)V"⟩, 4) := ⟨⟨by decide +kernel, by decide +kernel⟩, List.mem_of_getElem? (i := 76) (by decide +kernel), List.mem_of_getElem? (i := 661) (by decide +kernel), List.mem_of_getElem? (i := 662) (by decide +kernel)⟩
theorem lw_p15 : lw_okq (⟨"VisitHall$RightReader", "readLong", "(LVisitHall$Right;)V"⟩, 4) := ⟨⟨by decide +kernel, by decide +kernel⟩, List.mem_of_getElem? (i := 76) (by decide +kernel), List.mem_of_getElem? (i := 667) (by decide +kernel), List.mem_of_getElem? (i := 668) (by decide +kernel)⟩
def lw_privs_1 : List (MethodName × Nat) := [(⟨"VisitHall$Gate", "reasonOfPeople", "(LVisitHall$Visit;)I"⟩, 6), (⟨"VisitHall$Gate", "reasonOfRight", "(LVisitHall$Visit;)I"⟩, 6), (⟨"VisitHall$Gate", "mostInSpan", "(LVisitHall$Visit;I)I"⟩, 6), (⟨"VisitHall$Gate", "tallyAround", "(LVisitHall$Visit;I)V"⟩, 6), (⟨"VisitHall$Gate", "reasonOfHall", "(LVisitHall$Visit;)I"⟩, 6), (⟨"VisitHall$Gate", "meetsRivals", "(LVisitHall$Visit;)Z"⟩, 6), (⟨"VisitHall$Gate", "areOfRivals", "(LVisitHall$Visit;LVisitHall$Visit;)Z"⟩, 6), (⟨"VisitHall$Gate", "marksRoom", "(LVisitHall$Visit;)Z"⟩, 6), (⟨"VisitHall$RightReader", "nextNumber", "(II)I"⟩, 4), (⟨"VisitHall$RightReader", "next", "()V"⟩, 4), (⟨"VisitHall$RightReader", "wordAsNumber", "()I"⟩, 4), (⟨"VisitHall$RightReader", "refuse", "()V"⟩, 4), (⟨"VisitHall$RightReader", "nextMustBe", "(Ljava/lang/String;)V"⟩, 4), (⟨"VisitHall$RightReader", "isWord", "(Ljava/lang/String;)Z"⟩, 4), (⟨"VisitHall$RightReader", "readFar", "(LVisitHall$Right;)V"⟩, 4), (⟨"VisitHall$RightReader", "readLong", "(LVisitHall$Right;)V"⟩, 4)]
theorem lw_r1 : ∀ q ∈ lw_privs_1, lw_okq q := List.forall_mem_cons.mpr ⟨lw_p0, List.forall_mem_cons.mpr ⟨lw_p1, List.forall_mem_cons.mpr ⟨lw_p2, List.forall_mem_cons.mpr ⟨lw_p3, List.forall_mem_cons.mpr ⟨lw_p4, List.forall_mem_cons.mpr ⟨lw_p5, List.forall_mem_cons.mpr ⟨lw_p6, List.forall_mem_cons.mpr ⟨lw_p7, List.forall_mem_cons.mpr ⟨lw_p8, List.forall_mem_cons.mpr ⟨lw_p9, List.forall_mem_cons.mpr ⟨lw_p10, List.forall_mem_cons.mpr ⟨lw_p11, List.forall_mem_cons.mpr ⟨lw_p12, List.forall_mem_cons.mpr ⟨lw_p13, List.forall_mem_cons.mpr ⟨lw_p14, List.forall_mem_cons.mpr ⟨lw_p15, fun _ h => absurd h List.not_mem_nil⟩⟩⟩⟩⟩⟩⟩⟩⟩⟩⟩⟩⟩⟩⟩⟩
theorem lw_p16 : lw_okq (⟨"VisitHall$RightReader", "readNot", "(LVisitHall$Right;)V"⟩, 4) := ⟨⟨by decide +kernel, by decide +kernel⟩, List.mem_of_getElem? (i := 76) (by decide +kernel), List.mem_of_getElem? (i := 672) (by decide +kernel), List.mem_of_getElem? (i := 673) (by decide +kernel)⟩
theorem lw_p17 : lw_okq (⟨"VisitHall", "canBeAsked", "(IIII)Z"⟩, 9) := ⟨⟨by decide +kernel, by decide +kernel⟩, List.mem_of_getElem? (i := 22) (by decide +kernel), List.mem_of_getElem? (i := 687) (by decide +kernel), List.mem_of_getElem? (i := 688) (by decide +kernel)⟩
theorem lw_p18 : lw_okq (⟨"VisitHallModel", "isVisitor", "(I)Z"⟩, 44) := ⟨⟨by decide +kernel, by decide +kernel⟩, List.mem_of_getElem? (i := 836) (by decide +kernel), List.mem_of_getElem? (i := 993) (by decide +kernel), List.mem_of_getElem? (i := 994) (by decide +kernel)⟩
theorem lw_p19 : lw_okq (⟨"VisitHallModel", "isPrisoner", "(I)Z"⟩, 44) := ⟨⟨by decide +kernel, by decide +kernel⟩, List.mem_of_getElem? (i := 836) (by decide +kernel), List.mem_of_getElem? (i := 1001) (by decide +kernel), List.mem_of_getElem? (i := 1002) (by decide +kernel)⟩
theorem lw_p20 : lw_okq (⟨"VisitHallModel", "walk", "()I"⟩, 44) := ⟨⟨by decide +kernel, by decide +kernel⟩, List.mem_of_getElem? (i := 836) (by decide +kernel), List.mem_of_getElem? (i := 1017) (by decide +kernel), List.mem_of_getElem? (i := 1018) (by decide +kernel)⟩
theorem lw_p21 : lw_okq (⟨"VisitHallModel", "refusal", "(IIIIIZ)I"⟩, 44) := ⟨⟨by decide +kernel, by decide +kernel⟩, List.mem_of_getElem? (i := 836) (by decide +kernel), List.mem_of_getElem? (i := 1021) (by decide +kernel), List.mem_of_getElem? (i := 1022) (by decide +kernel)⟩
theorem lw_p22 : lw_okq (⟨"VisitHallModel", "reason", "(IIIII)I"⟩, 44) := ⟨⟨by decide +kernel, by decide +kernel⟩, List.mem_of_getElem? (i := 836) (by decide +kernel), List.mem_of_getElem? (i := 1025) (by decide +kernel), List.mem_of_getElem? (i := 1026) (by decide +kernel)⟩
theorem lw_p23 : lw_okq (⟨"VisitHallModel", "isUnlisted", "(II)Z"⟩, 44) := ⟨⟨by decide +kernel, by decide +kernel⟩, List.mem_of_getElem? (i := 836) (by decide +kernel), List.mem_of_getElem? (i := 1029) (by decide +kernel), List.mem_of_getElem? (i := 1030) (by decide +kernel)⟩
theorem lw_p24 : lw_okq (⟨"VisitHallModel", "isBarred", "(III)Z"⟩, 44) := ⟨⟨by decide +kernel, by decide +kernel⟩, List.mem_of_getElem? (i := 836) (by decide +kernel), List.mem_of_getElem? (i := 1033) (by decide +kernel), List.mem_of_getElem? (i := 1034) (by decide +kernel)⟩
theorem lw_p25 : lw_okq (⟨"VisitHallModel", "isChildAlone", "(I)Z"⟩, 44) := ⟨⟨by decide +kernel, by decide +kernel⟩, List.mem_of_getElem? (i := 836) (by decide +kernel), List.mem_of_getElem? (i := 1037) (by decide +kernel), List.mem_of_getElem? (i := 1038) (by decide +kernel)⟩
theorem lw_p26 : lw_okq (⟨"VisitHallModel", "isLawyers", "(I)Z"⟩, 44) := ⟨⟨by decide +kernel, by decide +kernel⟩, List.mem_of_getElem? (i := 836) (by decide +kernel), List.mem_of_getElem? (i := 1041) (by decide +kernel), List.mem_of_getElem? (i := 1042) (by decide +kernel)⟩
theorem lw_p27 : lw_okq (⟨"VisitHallModel", "isTooMany", "(III)Z"⟩, 44) := ⟨⟨by decide +kernel, by decide +kernel⟩, List.mem_of_getElem? (i := 836) (by decide +kernel), List.mem_of_getElem? (i := 1045) (by decide +kernel), List.mem_of_getElem? (i := 1046) (by decide +kernel)⟩
theorem lw_p28 : lw_okq (⟨"VisitHallModel", "meets", "(IIII)Z"⟩, 44) := ⟨⟨by decide +kernel, by decide +kernel⟩, List.mem_of_getElem? (i := 836) (by decide +kernel), List.mem_of_getElem? (i := 1050) (by decide +kernel), List.mem_of_getElem? (i := 1051) (by decide +kernel)⟩
theorem lw_p29 : lw_okq (⟨"VisitHallModel", "letAt", "(II)I"⟩, 44) := ⟨⟨by decide +kernel, by decide +kernel⟩, List.mem_of_getElem? (i := 836) (by decide +kernel), List.mem_of_getElem? (i := 1054) (by decide +kernel), List.mem_of_getElem? (i := 1055) (by decide +kernel)⟩
theorem lw_p30 : lw_okq (⟨"VisitHallModel", "isAt", "(III)Z"⟩, 44) := ⟨⟨by decide +kernel, by decide +kernel⟩, List.mem_of_getElem? (i := 836) (by decide +kernel), List.mem_of_getElem? (i := 1058) (by decide +kernel), List.mem_of_getElem? (i := 1059) (by decide +kernel)⟩
theorem lw_p31 : lw_okq (⟨"VisitHallModel", "tablesOn", "(I)I"⟩, 44) := ⟨⟨by decide +kernel, by decide +kernel⟩, List.mem_of_getElem? (i := 836) (by decide +kernel), List.mem_of_getElem? (i := 1062) (by decide +kernel), List.mem_of_getElem? (i := 1063) (by decide +kernel)⟩
def lw_privs_2 : List (MethodName × Nat) := [(⟨"VisitHall$RightReader", "readNot", "(LVisitHall$Right;)V"⟩, 4), (⟨"VisitHall", "canBeAsked", "(IIII)Z"⟩, 9), (⟨"VisitHallModel", "isVisitor", "(I)Z"⟩, 44), (⟨"VisitHallModel", "isPrisoner", "(I)Z"⟩, 44), (⟨"VisitHallModel", "walk", "()I"⟩, 44), (⟨"VisitHallModel", "refusal", "(IIIIIZ)I"⟩, 44), (⟨"VisitHallModel", "reason", "(IIIII)I"⟩, 44), (⟨"VisitHallModel", "isUnlisted", "(II)Z"⟩, 44), (⟨"VisitHallModel", "isBarred", "(III)Z"⟩, 44), (⟨"VisitHallModel", "isChildAlone", "(I)Z"⟩, 44), (⟨"VisitHallModel", "isLawyers", "(I)Z"⟩, 44), (⟨"VisitHallModel", "isTooMany", "(III)Z"⟩, 44), (⟨"VisitHallModel", "meets", "(IIII)Z"⟩, 44), (⟨"VisitHallModel", "letAt", "(II)I"⟩, 44), (⟨"VisitHallModel", "isAt", "(III)Z"⟩, 44), (⟨"VisitHallModel", "tablesOn", "(I)I"⟩, 44)]
theorem lw_r2 : ∀ q ∈ lw_privs_2, lw_okq q := List.forall_mem_cons.mpr ⟨lw_p16, List.forall_mem_cons.mpr ⟨lw_p17, List.forall_mem_cons.mpr ⟨lw_p18, List.forall_mem_cons.mpr ⟨lw_p19, List.forall_mem_cons.mpr ⟨lw_p20, List.forall_mem_cons.mpr ⟨lw_p21, List.forall_mem_cons.mpr ⟨lw_p22, List.forall_mem_cons.mpr ⟨lw_p23, List.forall_mem_cons.mpr ⟨lw_p24, List.forall_mem_cons.mpr ⟨lw_p25, List.forall_mem_cons.mpr ⟨lw_p26, List.forall_mem_cons.mpr ⟨lw_p27, List.forall_mem_cons.mpr ⟨lw_p28, List.forall_mem_cons.mpr ⟨lw_p29, List.forall_mem_cons.mpr ⟨lw_p30, List.forall_mem_cons.mpr ⟨lw_p31, fun _ h => absurd h List.not_mem_nil⟩⟩⟩⟩⟩⟩⟩⟩⟩⟩⟩⟩⟩⟩⟩⟩
theorem lw_p32 : lw_okq (⟨"VisitHallModel", "makesRoom", "(IIIZ)Z"⟩, 44) := ⟨⟨by decide +kernel, by decide +kernel⟩, List.mem_of_getElem? (i := 836) (by decide +kernel), List.mem_of_getElem? (i := 1066) (by decide +kernel), List.mem_of_getElem? (i := 1067) (by decide +kernel)⟩
theorem lw_p33 : lw_okq (⟨"VisitHallModel", "four", "(I)V"⟩, 44) := ⟨⟨by decide +kernel, by decide +kernel⟩, List.mem_of_getElem? (i := 836) (by decide +kernel), List.mem_of_getElem? (i := 1086) (by decide +kernel), List.mem_of_getElem? (i := 1087) (by decide +kernel)⟩
theorem lw_p34 : lw_okq (⟨"VisitHallModel", "readRight", "()I"⟩, 44) := ⟨⟨by decide +kernel, by decide +kernel⟩, List.mem_of_getElem? (i := 836) (by decide +kernel), List.mem_of_getElem? (i := 1098) (by decide +kernel), List.mem_of_getElem? (i := 1099) (by decide +kernel)⟩
theorem lw_p35 : lw_okq (⟨"VisitHallModel", "next", "()V"⟩, 44) := ⟨⟨by decide +kernel, by decide +kernel⟩, List.mem_of_getElem? (i := 836) (by decide +kernel), List.mem_of_getElem? (i := 1102) (by decide +kernel), List.mem_of_getElem? (i := 1103) (by decide +kernel)⟩
theorem lw_p36 : lw_okq (⟨"VisitHallModel", "number", "()I"⟩, 44) := ⟨⟨by decide +kernel, by decide +kernel⟩, List.mem_of_getElem? (i := 836) (by decide +kernel), List.mem_of_getElem? (i := 1106) (by decide +kernel), List.mem_of_getElem? (i := 1107) (by decide +kernel)⟩
theorem lw_p37 : lw_okq (⟨"VisitHallModel", "here", "()I"⟩, 44) := ⟨⟨by decide +kernel, by decide +kernel⟩, List.mem_of_getElem? (i := 836) (by decide +kernel), List.mem_of_getElem? (i := 1110) (by decide +kernel), List.mem_of_getElem? (i := 1111) (by decide +kernel)⟩
theorem lw_p38 : lw_okq (⟨"VisitHallModel", "isWord", "(IIII)Z"⟩, 44) := ⟨⟨by decide +kernel, by decide +kernel⟩, List.mem_of_getElem? (i := 836) (by decide +kernel), List.mem_of_getElem? (i := 1114) (by decide +kernel), List.mem_of_getElem? (i := 1115) (by decide +kernel)⟩
theorem lw_p39 : lw_okq (⟨"VisitHallModel", "isAsked", "(IIII)Z"⟩, 44) := ⟨⟨by decide +kernel, by decide +kernel⟩, List.mem_of_getElem? (i := 836) (by decide +kernel), List.mem_of_getElem? (i := 1126) (by decide +kernel), List.mem_of_getElem? (i := 1127) (by decide +kernel)⟩
theorem lw_p40 : lw_okq (⟨"VisitHallModel", "isVisit", "(I)Z"⟩, 44) := ⟨⟨by decide +kernel, by decide +kernel⟩, List.mem_of_getElem? (i := 836) (by decide +kernel), List.mem_of_getElem? (i := 1141) (by decide +kernel), List.mem_of_getElem? (i := 1142) (by decide +kernel)⟩
def lw_privs_3 : List (MethodName × Nat) := [(⟨"VisitHallModel", "makesRoom", "(IIIZ)Z"⟩, 44), (⟨"VisitHallModel", "four", "(I)V"⟩, 44), (⟨"VisitHallModel", "readRight", "()I"⟩, 44), (⟨"VisitHallModel", "next", "()V"⟩, 44), (⟨"VisitHallModel", "number", "()I"⟩, 44), (⟨"VisitHallModel", "here", "()I"⟩, 44), (⟨"VisitHallModel", "isWord", "(IIII)Z"⟩, 44), (⟨"VisitHallModel", "isAsked", "(IIII)Z"⟩, 44), (⟨"VisitHallModel", "isVisit", "(I)Z"⟩, 44)]
theorem lw_r3 : ∀ q ∈ lw_privs_3, lw_okq q := List.forall_mem_cons.mpr ⟨lw_p32, List.forall_mem_cons.mpr ⟨lw_p33, List.forall_mem_cons.mpr ⟨lw_p34, List.forall_mem_cons.mpr ⟨lw_p35, List.forall_mem_cons.mpr ⟨lw_p36, List.forall_mem_cons.mpr ⟨lw_p37, List.forall_mem_cons.mpr ⟨lw_p38, List.forall_mem_cons.mpr ⟨lw_p39, List.forall_mem_cons.mpr ⟨lw_p40, fun _ h => absurd h List.not_mem_nil⟩⟩⟩⟩⟩⟩⟩⟩⟩
def lw_privs : List (MethodName × Nat) := lw_privs_1 ++ (lw_privs_2 ++ (lw_privs_3))
def lw_tbl : List Cond := k2_sels lw_privs ++ tables_1
theorem lw_privs_ok : ∀ q ∈ lw_privs, lw_okq q := by
  show ∀ q ∈ lw_privs_1 ++ (lw_privs_2 ++ (lw_privs_3)), lw_okq q
  exact List.forall_mem_append.mpr ⟨lw_r1, List.forall_mem_append.mpr ⟨lw_r2, lw_r3⟩⟩
end
section
def RX0 : String := "VisitHall$Book"
def TX0 : u_T := fun k => match k with
  | 0 => ("VisitHall$Book", "visits", "[LVisitHall$Visit;", true)
  | 1 => ("VisitHall$Book", "size", "I", false)
  | _ => ("VisitHall$Book", "today", "I", false)
def tyX0 : Nat → FieldType := fun k => match k with
  | 0 => .array (.object "VisitHall$Visit")
  | 1 => .int
  | _ => .int
abbrev wsX00 : List Cond := u_ws RX0 TX0 3
theorem nmX0 : ∀ a, a < 3 → ∀ b, b < 3 → a ≠ b → (TX0 a).2.1 ≠ (TX0 b).2.1 := by decide +kernel
theorem tyX0_ok : ∀ k, k < 3 → parseFieldDescriptor (TX0 k).2.2.1 = some (tyX0 k) := by decide +kernel
abbrev cX0_init : ByteArray := prog_2_method_1_code
def yX0_init : MethodName := ⟨RX0, "<init>", "()V"⟩
abbrev cX0_isFull : ByteArray := prog_2_method_2_code
def yX0_isFull : MethodName := ⟨RX0, "isFull", "()Z"⟩
abbrev cX0_enter : ByteArray := prog_2_method_3_code
def yX0_enter : MethodName := ⟨RX0, "enter", "(LVisitHall$Visit;)I"⟩
abbrev cX0_at : ByteArray := prog_2_method_4_code
def yX0_at : MethodName := ⟨RX0, "at", "(I)LVisitHall$Visit;"⟩
abbrev cX0_inState : ByteArray := prog_2_method_5_code
def yX0_inState : MethodName := ⟨RX0, "inState", "(I)I"⟩
abbrev cX0_letAhead : ByteArray := prog_2_method_6_code
def yX0_letAhead : MethodName := ⟨RX0, "letAhead", "(I)I"⟩
abbrev cX0_letAt : ByteArray := prog_2_method_7_code
def yX0_letAt : MethodName := ⟨RX0, "letAt", "(II)I"⟩
abbrev cX0_lastThatYields : ByteArray := prog_2_method_8_code
def yX0_lastThatYields : MethodName := ⟨RX0, "lastThatYields", "(II)LVisitHall$Visit;"⟩
abbrev cX0_giveBackAll : ByteArray := prog_2_method_9_code
def yX0_giveBackAll : MethodName := ⟨RX0, "giveBackAll", "(III)I"⟩
abbrev cX0_hasMeetingOfSamePeople : ByteArray := prog_2_method_10_code
def yX0_hasMeetingOfSamePeople : MethodName := ⟨RX0, "hasMeetingOfSamePeople", "(LVisitHall$Visit;)Z"⟩
abbrev cX0_keepAll : ByteArray := prog_2_method_11_code
def yX0_keepAll : MethodName := ⟨RX0, "keepAll", "()V"⟩
abbrev cX0_sendLeaversToWait : ByteArray := prog_2_method_12_code
def yX0_sendLeaversToWait : MethodName := ⟨RX0, "sendLeaversToWait", "()V"⟩
def RX1 : String := "VisitHall$Gate"
def TX1 : u_T := fun k => match k with
  | 0 => ("VisitHall$Gate", "people", "LVisitHall$People;", true)
  | 1 => ("VisitHall$Gate", "rights", "[LVisitHall$Right;", true)
  | 2 => ("VisitHall$Gate", "book", "LVisitHall$Book;", true)
  | 3 => ("VisitHall$Gate", "tablesByDay", "LVisitHall$Sheet;", true)
  | 4 => ("VisitHall$Gate", "tables", "I", false)
  | _ => ("VisitHall$Gate", "tally", "[I", true)
def tyX1 : Nat → FieldType := fun k => match k with
  | 0 => .object "VisitHall$People"
  | 1 => .array (.object "VisitHall$Right")
  | 2 => .object "VisitHall$Book"
  | 3 => .object "VisitHall$Sheet"
  | 4 => .int
  | _ => .array .int
abbrev wsX10 : List Cond := u_ws RX1 TX1 6
theorem nmX1 : ∀ a, a < 6 → ∀ b, b < 6 → a ≠ b → (TX1 a).2.1 ≠ (TX1 b).2.1 := by decide +kernel
theorem tyX1_ok : ∀ k, k < 6 → parseFieldDescriptor (TX1 k).2.2.1 = some (tyX1 k) := by decide +kernel
abbrev cX1_init : ByteArray := prog_3_method_1_code
def yX1_init : MethodName := ⟨RX1, "<init>", "(LVisitHall$People;[LVisitHall$Right;LVisitHall$Book;LVisitHall$Sheet;)V"⟩
abbrev cX1_tablesOn : ByteArray := prog_3_method_2_code
def yX1_tablesOn : MethodName := ⟨RX1, "tablesOn", "(I)I"⟩
abbrev cX1_reason : ByteArray := prog_3_method_3_code
def yX1_reason : MethodName := ⟨RX1, "reason", "(LVisitHall$Visit;)I"⟩
abbrev cX1_admit : ByteArray := prog_3_method_4_code
def yX1_admit : MethodName := ⟨RX1, "admit", "(LVisitHall$Visit;)V"⟩
abbrev cX1_letWaiting : ByteArray := prog_3_method_5_code
def yX1_letWaiting : MethodName := ⟨RX1, "letWaiting", "()I"⟩
abbrev cX1_reasonOfPeople : ByteArray := prog_3_method_6_code
def yX1_reasonOfPeople : MethodName := ⟨RX1, "reasonOfPeople", "(LVisitHall$Visit;)I"⟩
abbrev cX1_reasonOfRight : ByteArray := prog_3_method_7_code
def yX1_reasonOfRight : MethodName := ⟨RX1, "reasonOfRight", "(LVisitHall$Visit;)I"⟩
abbrev cX1_mostInSpan : ByteArray := prog_3_method_8_code
def yX1_mostInSpan : MethodName := ⟨RX1, "mostInSpan", "(LVisitHall$Visit;I)I"⟩
abbrev cX1_tallyAround : ByteArray := prog_3_method_9_code
def yX1_tallyAround : MethodName := ⟨RX1, "tallyAround", "(LVisitHall$Visit;I)V"⟩
abbrev cX1_reasonOfHall : ByteArray := prog_3_method_10_code
def yX1_reasonOfHall : MethodName := ⟨RX1, "reasonOfHall", "(LVisitHall$Visit;)I"⟩
abbrev cX1_meetsRivals : ByteArray := prog_3_method_11_code
def yX1_meetsRivals : MethodName := ⟨RX1, "meetsRivals", "(LVisitHall$Visit;)Z"⟩
abbrev cX1_areOfRivals : ByteArray := prog_3_method_12_code
def yX1_areOfRivals : MethodName := ⟨RX1, "areOfRivals", "(LVisitHall$Visit;LVisitHall$Visit;)Z"⟩
abbrev cX1_marksRoom : ByteArray := prog_3_method_13_code
def yX1_marksRoom : MethodName := ⟨RX1, "marksRoom", "(LVisitHall$Visit;)Z"⟩
def RX2 : String := "VisitHall$People"
def TX2 : u_T := fun k => match k with
  | 0 => ("VisitHall$People", "prisoners", "[LVisitHall$Prisoner;", true)
  | 1 => ("VisitHall$People", "prisonerCount", "I", false)
  | 2 => ("VisitHall$People", "bitsOfKind", "[I", true)
  | 3 => ("VisitHall$People", "ways", "[I", true)
  | 4 => ("VisitHall$People", "visitorCount", "I", false)
  | _ => ("VisitHall$People", "rivalBits", "[I", true)
def tyX2 : Nat → FieldType := fun k => match k with
  | 0 => .array (.object "VisitHall$Prisoner")
  | 1 => .int
  | 2 => .array .int
  | 3 => .array .int
  | 4 => .int
  | _ => .array .int
abbrev wsX20 : List Cond := u_ws RX2 TX2 6
theorem nmX2 : ∀ a, a < 6 → ∀ b, b < 6 → a ≠ b → (TX2 a).2.1 ≠ (TX2 b).2.1 := by decide +kernel
theorem tyX2_ok : ∀ k, k < 6 → parseFieldDescriptor (TX2 k).2.2.1 = some (tyX2 k) := by decide +kernel
abbrev cX2_init : ByteArray := prog_4_method_1_code
def yX2_init : MethodName := ⟨RX2, "<init>", "()V"⟩
abbrev cX2_addPrisoner : ByteArray := prog_4_method_2_code
def yX2_addPrisoner : MethodName := ⟨RX2, "addPrisoner", "(II)I"⟩
abbrev cX2_prisonerAt : ByteArray := prog_4_method_3_code
def yX2_prisonerAt : MethodName := ⟨RX2, "prisonerAt", "(I)LVisitHall$Prisoner;"⟩
abbrev cX2_addVisitor : ByteArray := prog_4_method_4_code
def yX2_addVisitor : MethodName := ⟨RX2, "addVisitor", "(II)I"⟩
abbrev cX2_isVisitor : ByteArray := prog_4_method_5_code
def yX2_isVisitor : MethodName := ⟨RX2, "isVisitor", "(I)Z"⟩
abbrev cX2_ofKind : ByteArray := prog_4_method_6_code
def yX2_ofKind : MethodName := ⟨RX2, "ofKind", "(I)I"⟩
abbrev cX2_isParty : ByteArray := prog_4_method_7_code
def yX2_isParty : MethodName := ⟨RX2, "isParty", "(I)Z"⟩
abbrev cX2_areLawyers : ByteArray := prog_4_method_8_code
def yX2_areLawyers : MethodName := ⟨RX2, "areLawyers", "(I)Z"⟩
abbrev cX2_needsKin : ByteArray := prog_4_method_9_code
def yX2_needsKin : MethodName := ⟨RX2, "needsKin", "(I)Z"⟩
abbrev cX2_areListed : ByteArray := prog_4_method_10_code
def yX2_areListed : MethodName := ⟨RX2, "areListed", "(LVisitHall$Prisoner;I)Z"⟩
abbrev cX2_isChild : ByteArray := prog_4_method_11_code
def yX2_isChild : MethodName := ⟨RX2, "isChild", "(I)Z"⟩
abbrev cX2_comesFrom : ByteArray := prog_4_method_12_code
def yX2_comesFrom : MethodName := ⟨RX2, "comesFrom", "(II)Z"⟩
abbrev cX2_areRivals : ByteArray := prog_4_method_13_code
def yX2_areRivals : MethodName := ⟨RX2, "areRivals", "(II)Z"⟩
abbrev cX2_setRivals : ByteArray := prog_4_method_14_code
def yX2_setRivals : MethodName := ⟨RX2, "setRivals", "(III)V"⟩
abbrev cX2_rivalPairs : ByteArray := prog_4_method_15_code
def yX2_rivalPairs : MethodName := ⟨RX2, "rivalPairs", "()I"⟩
abbrev cX2_prisonersHere : ByteArray := prog_4_method_16_code
def yX2_prisonersHere : MethodName := ⟨RX2, "prisonersHere", "()I"⟩
abbrev cX2_orderCount : ByteArray := prog_4_method_17_code
def yX2_orderCount : MethodName := ⟨RX2, "orderCount", "()I"⟩
def RX3 : String := "VisitHall$Prisoner"
def TX3 : u_T := fun k => match k with
  | 0 => ("VisitHall$Prisoner", "aClass", "I", true)
  | 1 => ("VisitHall$Prisoner", "family", "I", true)
  | 2 => ("VisitHall$Prisoner", "here", "Z", false)
  | 3 => ("VisitHall$Prisoner", "listed", "I", false)
  | _ => ("VisitHall$Prisoner", "orders", "[I", true)
def tyX3 : Nat → FieldType := fun k => match k with
  | 0 => .int
  | 1 => .int
  | 2 => .boolean
  | 3 => .int
  | _ => .array .int
abbrev wsX30 : List Cond := u_ws RX3 TX3 5
theorem nmX3 : ∀ a, a < 5 → ∀ b, b < 5 → a ≠ b → (TX3 a).2.1 ≠ (TX3 b).2.1 := by decide +kernel
theorem tyX3_ok : ∀ k, k < 5 → parseFieldDescriptor (TX3 k).2.2.1 = some (tyX3 k) := by decide +kernel
abbrev cX3_init : ByteArray := prog_5_method_1_code
def yX3_init : MethodName := ⟨RX3, "<init>", "(II)V"⟩
abbrev cX3_barredFrom : ByteArray := prog_5_method_2_code
def yX3_barredFrom : MethodName := ⟨RX3, "barredFrom", "(I)I"⟩
abbrev cX3_barFrom : ByteArray := prog_5_method_3_code
def yX3_barFrom : MethodName := ⟨RX3, "barFrom", "(II)V"⟩
abbrev cX3_isBarred : ByteArray := prog_5_method_4_code
def yX3_isBarred : MethodName := ⟨RX3, "isBarred", "(II)Z"⟩
abbrev cX3_orderCount : ByteArray := prog_5_method_5_code
def yX3_orderCount : MethodName := ⟨RX3, "orderCount", "()I"⟩
def RX4 : String := "VisitHall$Right"
def TX4 : u_T := fun k => match k with
  | 0 => ("VisitHall$Right", "visits", "I", false)
  | 1 => ("VisitHall$Right", "span", "I", false)
  | 2 => ("VisitHall$Right", "far", "I", false)
  | 3 => ("VisitHall$Right", "more", "I", false)
  | 4 => ("VisitHall$Right", "longest", "I", false)
  | _ => ("VisitHall$Right", "closed", "I", false)
def tyX4 : Nat → FieldType := fun k => match k with
  | 0 => .int
  | 1 => .int
  | 2 => .int
  | 3 => .int
  | 4 => .int
  | _ => .int
abbrev wsX40 : List Cond := u_ws RX4 TX4 6
theorem nmX4 : ∀ a, a < 6 → ∀ b, b < 6 → a ≠ b → (TX4 a).2.1 ≠ (TX4 b).2.1 := by decide +kernel
theorem tyX4_ok : ∀ k, k < 6 → parseFieldDescriptor (TX4 k).2.2.1 = some (tyX4 k) := by decide +kernel
abbrev cX4_init : ByteArray := prog_6_method_1_code
def yX4_init : MethodName := ⟨RX4, "<init>", "()V"⟩
abbrev cX4_allows : ByteArray := prog_6_method_2_code
def yX4_allows : MethodName := ⟨RX4, "allows", "(LVisitHall$Visit;)Z"⟩
abbrev cX4_gives : ByteArray := prog_6_method_3_code
def yX4_gives : MethodName := ⟨RX4, "gives", "(Z)I"⟩
def RX5 : String := "VisitHall$RightReader"
def TX5 : u_T := fun k => match k with
  | 0 => ("VisitHall$RightReader", "tape", "LVisitHall$Tape;", true)
  | 1 => ("VisitHall$RightReader", "start", "I", false)
  | 2 => ("VisitHall$RightReader", "end", "I", false)
  | _ => ("VisitHall$RightReader", "fault", "I", false)
def tyX5 : Nat → FieldType := fun k => match k with
  | 0 => .object "VisitHall$Tape"
  | 1 => .int
  | 2 => .int
  | _ => .int
abbrev wsX50 : List Cond := u_ws RX5 TX5 4
theorem nmX5 : ∀ a, a < 4 → ∀ b, b < 4 → a ≠ b → (TX5 a).2.1 ≠ (TX5 b).2.1 := by decide +kernel
theorem tyX5_ok : ∀ k, k < 4 → parseFieldDescriptor (TX5 k).2.2.1 = some (tyX5 k) := by decide +kernel
abbrev cX5_init : ByteArray := prog_7_method_1_code
def yX5_init : MethodName := ⟨RX5, "<init>", "(LVisitHall$Tape;)V"⟩
abbrev cX5_hasFault : ByteArray := prog_7_method_2_code
def yX5_hasFault : MethodName := ⟨RX5, "hasFault", "()Z"⟩
abbrev cX5_read : ByteArray := prog_7_method_3_code
def yX5_read : MethodName := ⟨RX5, "read", "()LVisitHall$Right;"⟩
abbrev cX5_readFar : ByteArray := prog_7_method_4_code
def yX5_readFar : MethodName := ⟨RX5, "readFar", "(LVisitHall$Right;)V"⟩
abbrev cX5_readLong : ByteArray := prog_7_method_5_code
def yX5_readLong : MethodName := ⟨RX5, "readLong", "(LVisitHall$Right;)V"⟩
abbrev cX5_readNot : ByteArray := prog_7_method_6_code
def yX5_readNot : MethodName := ⟨RX5, "readNot", "(LVisitHall$Right;)V"⟩
abbrev cX5_refuse : ByteArray := prog_7_method_7_code
def yX5_refuse : MethodName := ⟨RX5, "refuse", "()V"⟩
abbrev cX5_next : ByteArray := prog_7_method_8_code
def yX5_next : MethodName := ⟨RX5, "next", "()V"⟩
abbrev cX5_isWord : ByteArray := prog_7_method_9_code
def yX5_isWord : MethodName := ⟨RX5, "isWord", "(Ljava/lang/String;)Z"⟩
abbrev cX5_nextMustBe : ByteArray := prog_7_method_10_code
def yX5_nextMustBe : MethodName := ⟨RX5, "nextMustBe", "(Ljava/lang/String;)V"⟩
abbrev cX5_nextNumber : ByteArray := prog_7_method_11_code
def yX5_nextNumber : MethodName := ⟨RX5, "nextNumber", "(II)I"⟩
abbrev cX5_wordAsNumber : ByteArray := prog_7_method_12_code
def yX5_wordAsNumber : MethodName := ⟨RX5, "wordAsNumber", "()I"⟩
def RX6 : String := "VisitHall$Searches"
def TX6 : u_T := fun k => match k with
  | 0 => ("VisitHall$Searches", "oneIn", "I", false)
  | 1 => ("VisitHall$Searches", "seed", "I", false)
  | 2 => ("VisitHall$Searches", "come", "I", false)
  | _ => ("VisitHall$Searches", "searched", "I", false)
def tyX6 : Nat → FieldType := fun k => match k with
  | 0 => .int
  | 1 => .int
  | 2 => .int
  | _ => .int
abbrev wsX60 : List Cond := u_ws RX6 TX6 4
theorem nmX6 : ∀ a, a < 4 → ∀ b, b < 4 → a ≠ b → (TX6 a).2.1 ≠ (TX6 b).2.1 := by decide +kernel
theorem tyX6_ok : ∀ k, k < 4 → parseFieldDescriptor (TX6 k).2.2.1 = some (tyX6 k) := by decide +kernel
abbrev cX6_init : ByteArray := prog_8_method_1_code
def yX6_init : MethodName := ⟨RX6, "<init>", "()V"⟩
abbrev cX6_draw : ByteArray := prog_8_method_2_code
def yX6_draw : MethodName := ⟨RX6, "draw", "(LVisitHall$Book;LVisitHall$People;I)V"⟩
def RX7 : String := "VisitHall$Sheet"
def TX7 : u_T := fun k => match k with
  | 0 => ("VisitHall$Sheet", "places", "[B", true)
  | _ => ("VisitHall$Sheet", "size", "I", false)
def tyX7 : Nat → FieldType := fun k => match k with
  | 0 => .array .byte
  | _ => .int
abbrev wsX70 : List Cond := u_ws RX7 TX7 2
theorem nmX7 : ∀ a, a < 2 → ∀ b, b < 2 → a ≠ b → (TX7 a).2.1 ≠ (TX7 b).2.1 := by decide +kernel
theorem tyX7_ok : ∀ k, k < 2 → parseFieldDescriptor (TX7 k).2.2.1 = some (tyX7 k) := by decide +kernel
abbrev cX7_init : ByteArray := prog_9_method_1_code
def yX7_init : MethodName := ⟨RX7, "<init>", "()V"⟩
abbrev cX7_isMissing : ByteArray := prog_9_method_2_code
def yX7_isMissing : MethodName := ⟨RX7, "isMissing", "()Z"⟩
abbrev cX7_clear : ByteArray := prog_9_method_3_code
def yX7_clear : MethodName := ⟨RX7, "clear", "(I)V"⟩
abbrev cX7_has : ByteArray := prog_9_method_4_code
def yX7_has : MethodName := ⟨RX7, "has", "(I)Z"⟩
abbrev cX7_hasRun : ByteArray := prog_9_method_5_code
def yX7_hasRun : MethodName := ⟨RX7, "hasRun", "(II)Z"⟩
def RX8 : String := "VisitHall$Tape"
def TX8 : u_T := fun k => match k with
  | 0 => ("VisitHall$Tape", "bytes", "[B", true)
  | _ => ("VisitHall$Tape", "size", "I", false)
def tyX8 : Nat → FieldType := fun k => match k with
  | 0 => .array .byte
  | _ => .int
abbrev wsX80 : List Cond := u_ws RX8 TX8 2
theorem nmX8 : ∀ a, a < 2 → ∀ b, b < 2 → a ≠ b → (TX8 a).2.1 ≠ (TX8 b).2.1 := by decide +kernel
theorem tyX8_ok : ∀ k, k < 2 → parseFieldDescriptor (TX8 k).2.2.1 = some (tyX8 k) := by decide +kernel
abbrev cX8_init : ByteArray := prog_10_method_1_code
def yX8_init : MethodName := ⟨RX8, "<init>", "()V"⟩
abbrev cX8_hasRoom : ByteArray := prog_10_method_2_code
def yX8_hasRoom : MethodName := ⟨RX8, "hasRoom", "()Z"⟩
abbrev cX8_add : ByteArray := prog_10_method_3_code
def yX8_add : MethodName := ⟨RX8, "add", "(I)V"⟩
def RX9 : String := "VisitHall$Visit"
def TX9 : u_T := fun k => match k with
  | 0 => ("VisitHall$Visit", "prisoner", "I", false)
  | 1 => ("VisitHall$Visit", "visitors", "I", false)
  | 2 => ("VisitHall$Visit", "day", "I", false)
  | 3 => ("VisitHall$Visit", "first", "I", false)
  | 4 => ("VisitHall$Visit", "many", "I", false)
  | 5 => ("VisitHall$Visit", "lawyers", "Z", false)
  | 6 => ("VisitHall$Visit", "state", "I", false)
  | _ => ("VisitHall$Visit", "leaves", "Z", false)
def tyX9 : Nat → FieldType := fun k => match k with
  | 0 => .int
  | 1 => .int
  | 2 => .int
  | 3 => .int
  | 4 => .int
  | 5 => .boolean
  | 6 => .int
  | _ => .boolean
abbrev wsX90 : List Cond := u_ws RX9 TX9 8
theorem nmX9 : ∀ a, a < 8 → ∀ b, b < 8 → a ≠ b → (TX9 a).2.1 ≠ (TX9 b).2.1 := by decide +kernel
theorem tyX9_ok : ∀ k, k < 8 → parseFieldDescriptor (TX9 k).2.2.1 = some (tyX9 k) := by decide +kernel
abbrev cX9_init : ByteArray := prog_11_method_1_code
def yX9_init : MethodName := ⟨RX9, "<init>", "()V"⟩
abbrev cX9_fill : ByteArray := prog_11_method_2_code
def yX9_fill : MethodName := ⟨RX9, "fill", "(IIIIZ)V"⟩
abbrev cX9_isLetAt : ByteArray := prog_11_method_3_code
def yX9_isLetAt : MethodName := ⟨RX9, "isLetAt", "(II)Z"⟩
abbrev cX9_sharesHalfWith : ByteArray := prog_11_method_4_code
def yX9_sharesHalfWith : MethodName := ⟨RX9, "sharesHalfWith", "(LVisitHall$Visit;)Z"⟩
abbrev cX9_sharesPeopleWith : ByteArray := prog_11_method_5_code
def yX9_sharesPeopleWith : MethodName := ⟨RX9, "sharesPeopleWith", "(LVisitHall$Visit;)Z"⟩
def RX10 : String := "VisitHall"
def TX10 : u_T := fun k => match k with
  | 0 => ("VisitHall", "people", "LVisitHall$People;", true)
  | 1 => ("VisitHall", "tape", "LVisitHall$Tape;", true)
  | 2 => ("VisitHall", "reader", "LVisitHall$RightReader;", true)
  | 3 => ("VisitHall", "rights", "[LVisitHall$Right;", true)
  | 4 => ("VisitHall", "book", "LVisitHall$Book;", true)
  | 5 => ("VisitHall", "sheets", "[LVisitHall$Sheet;", true)
  | 6 => ("VisitHall", "gate", "LVisitHall$Gate;", true)
  | 7 => ("VisitHall", "searches", "LVisitHall$Searches;", true)
  | _ => ("VisitHall", "asked", "LVisitHall$Visit;", false)
def tyX10 : Nat → FieldType := fun k => match k with
  | 0 => .object "VisitHall$People"
  | 1 => .object "VisitHall$Tape"
  | 2 => .object "VisitHall$RightReader"
  | 3 => .array (.object "VisitHall$Right")
  | 4 => .object "VisitHall$Book"
  | 5 => .array (.object "VisitHall$Sheet")
  | 6 => .object "VisitHall$Gate"
  | 7 => .object "VisitHall$Searches"
  | _ => .object "VisitHall$Visit"
abbrev wsX100 : List Cond := u_ws RX10 TX10 9
theorem nmX10 : ∀ a, a < 9 → ∀ b, b < 9 → a ≠ b → (TX10 a).2.1 ≠ (TX10 b).2.1 := by decide +kernel
theorem tyX10_ok : ∀ k, k < 9 → parseFieldDescriptor (TX10 k).2.2.1 = some (tyX10 k) := by decide +kernel
abbrev cX10_init : ByteArray := prog_1_method_1_code
def yX10_init : MethodName := ⟨RX10, "<init>", "()V"⟩
abbrev cX10_prisoner : ByteArray := prog_1_method_2_code
def yX10_prisoner : MethodName := ⟨RX10, "prisoner", "(II)I"⟩
abbrev cX10_visitor : ByteArray := prog_1_method_3_code
def yX10_visitor : MethodName := ⟨RX10, "visitor", "(III)I"⟩
abbrev cX10_isOf : ByteArray := prog_1_method_4_code
def yX10_isOf : MethodName := ⟨RX10, "isOf", "(II)I"⟩
abbrev cX10_list : ByteArray := prog_1_method_5_code
def yX10_list : MethodName := ⟨RX10, "list", "(III)I"⟩
abbrev cX10_order : ByteArray := prog_1_method_6_code
def yX10_order : MethodName := ⟨RX10, "order", "(III)I"⟩
abbrev cX10_lift : ByteArray := prog_1_method_7_code
def yX10_lift : MethodName := ⟨RX10, "lift", "(II)I"⟩
abbrev cX10_rivals : ByteArray := prog_1_method_8_code
def yX10_rivals : MethodName := ⟨RX10, "rivals", "(III)I"⟩
abbrev cX10_move : ByteArray := prog_1_method_9_code
def yX10_move : MethodName := ⟨RX10, "move", "(I)I"⟩
abbrev cX10_told : ByteArray := prog_1_method_10_code
def yX10_told : MethodName := ⟨RX10, "told", "(II)I"⟩
abbrev cX10_feed : ByteArray := prog_1_method_11_code
def yX10_feed : MethodName := ⟨RX10, "feed", "(III)I"⟩
abbrev cX10_trim : ByteArray := prog_1_method_12_code
def yX10_trim : MethodName := ⟨RX10, "trim", "(I)I"⟩
abbrev cX10_right : ByteArray := prog_1_method_13_code
def yX10_right : MethodName := ⟨RX10, "right", "(I)I"⟩
abbrev cX10_of : ByteArray := prog_1_method_14_code
def yX10_of : MethodName := ⟨RX10, "of", "(II)I"⟩
abbrev cX10_ask : ByteArray := prog_1_method_15_code
def yX10_ask : MethodName := ⟨RX10, "ask", "(IIIII)I"⟩
abbrev cX10_why : ByteArray := prog_1_method_16_code
def yX10_why : MethodName := ⟨RX10, "why", "(IIII)I"⟩
abbrev cX10_giveBack : ByteArray := prog_1_method_17_code
def yX10_giveBack : MethodName := ⟨RX10, "giveBack", "(I)I"⟩
abbrev cX10_visit : ByteArray := prog_1_method_18_code
def yX10_visit : MethodName := ⟨RX10, "visit", "(II)I"⟩
abbrev cX10_rule : ByteArray := prog_1_method_19_code
def yX10_rule : MethodName := ⟨RX10, "rule", "(II)I"⟩
abbrev cX10_days : ByteArray := prog_1_method_20_code
def yX10_days : MethodName := ⟨RX10, "days", "(I)I"⟩
abbrev cX10_hall : ByteArray := prog_1_method_21_code
def yX10_hall : MethodName := ⟨RX10, "hall", "(III)I"⟩
abbrev cX10_comes : ByteArray := prog_1_method_22_code
def yX10_comes : MethodName := ⟨RX10, "comes", "(II)I"⟩
abbrev cX10_sheet : ByteArray := prog_1_method_23_code
def yX10_sheet : MethodName := ⟨RX10, "sheet", "(II)I"⟩
abbrev cX10_mark : ByteArray := prog_1_method_24_code
def yX10_mark : MethodName := ⟨RX10, "mark", "(III)I"⟩
abbrev cX10_copy : ByteArray := prog_1_method_25_code
def yX10_copy : MethodName := ⟨RX10, "copy", "(IIIII)I"⟩
abbrev cX10_lose : ByteArray := prog_1_method_26_code
def yX10_lose : MethodName := ⟨RX10, "lose", "(I)I"⟩
abbrev cX10_count : ByteArray := prog_1_method_27_code
def yX10_count : MethodName := ⟨RX10, "count", "(I)I"⟩
abbrev cX10_isBelow : ByteArray := prog_1_method_28_code
def yX10_isBelow : MethodName := ⟨RX10, "isBelow", "(II)Z"⟩
abbrev cX10_withBit : ByteArray := prog_1_method_29_code
def yX10_withBit : MethodName := ⟨RX10, "withBit", "(III)I"⟩
abbrev cX10_canBeAsked : ByteArray := prog_1_method_30_code
def yX10_canBeAsked : MethodName := ⟨RX10, "canBeAsked", "(IIII)Z"⟩
abbrev cX10_areHalves : ByteArray := prog_1_method_31_code
def yX10_areHalves : MethodName := ⟨RX10, "areHalves", "(I)Z"⟩
abbrev cX10_mayRule : ByteArray := prog_1_method_32_code
def yX10_mayRule : MethodName := ⟨RX10, "mayRule", "(II)Z"⟩
def RX11 : String := "VisitHallModel"
def TX11 : u_T := fun k => match k with
  | 0 => ("VisitHallModel", "today", "I", false)
  | 1 => ("VisitHallModel", "prisoners", "I", false)
  | 2 => ("VisitHallModel", "pClass", "[I", true)
  | 3 => ("VisitHallModel", "pFamily", "[I", true)
  | 4 => ("VisitHallModel", "isHere", "[I", true)
  | 5 => ("VisitHallModel", "lists", "[I", true)
  | 6 => ("VisitHallModel", "orders", "[I", true)
  | 7 => ("VisitHallModel", "visitors", "I", false)
  | 8 => ("VisitHallModel", "kind", "[I", true)
  | 9 => ("VisitHallModel", "vFamily", "[I", true)
  | 10 => ("VisitHallModel", "way", "[I", true)
  | 11 => ("VisitHallModel", "rivals", "[I", true)
  | 12 => ("VisitHallModel", "hasText", "[Z", true)
  | 13 => ("VisitHallModel", "rN", "[I", true)
  | 14 => ("VisitHallModel", "rM", "[I", true)
  | 15 => ("VisitHallModel", "rFar", "[I", true)
  | 16 => ("VisitHallModel", "rMore", "[I", true)
  | 17 => ("VisitHallModel", "rLong", "[I", true)
  | 18 => ("VisitHallModel", "rNot", "[I", true)
  | 19 => ("VisitHallModel", "tape", "[I", true)
  | 20 => ("VisitHallModel", "taped", "I", false)
  | 21 => ("VisitHallModel", "visits", "I", false)
  | 22 => ("VisitHallModel", "vOf", "[I", true)
  | 23 => ("VisitHallModel", "vSet", "[I", true)
  | 24 => ("VisitHallModel", "vDay", "[I", true)
  | 25 => ("VisitHallModel", "vFirst", "[I", true)
  | 26 => ("VisitHallModel", "vMany", "[I", true)
  | 27 => ("VisitHallModel", "state", "[I", true)
  | 28 => ("VisitHallModel", "tables", "I", false)
  | 29 => ("VisitHallModel", "oneIn", "I", false)
  | 30 => ("VisitHallModel", "seed", "I", false)
  | 31 => ("VisitHallModel", "places", "[I", true)
  | 32 => ("VisitHallModel", "numbers", "[I", true)
  | 33 => ("VisitHallModel", "read", "I", false)
  | 34 => ("VisitHallModel", "from", "I", false)
  | 35 => ("VisitHallModel", "long1", "I", false)
  | 36 => ("VisitHallModel", "tN", "I", false)
  | 37 => ("VisitHallModel", "tM", "I", false)
  | 38 => ("VisitHallModel", "tFar", "I", false)
  | 39 => ("VisitHallModel", "tMore", "I", false)
  | 40 => ("VisitHallModel", "tLong", "I", false)
  | 41 => ("VisitHallModel", "tNot", "I", false)
  | 42 => ("VisitHallModel", "before", "[I", true)
  | _ => ("VisitHallModel", "carried", "[I", true)
def tyX11 : Nat → FieldType := fun k => match k with
  | 0 => .int
  | 1 => .int
  | 2 => .array .int
  | 3 => .array .int
  | 4 => .array .int
  | 5 => .array .int
  | 6 => .array .int
  | 7 => .int
  | 8 => .array .int
  | 9 => .array .int
  | 10 => .array .int
  | 11 => .array .int
  | 12 => .array .boolean
  | 13 => .array .int
  | 14 => .array .int
  | 15 => .array .int
  | 16 => .array .int
  | 17 => .array .int
  | 18 => .array .int
  | 19 => .array .int
  | 20 => .int
  | 21 => .int
  | 22 => .array .int
  | 23 => .array .int
  | 24 => .array .int
  | 25 => .array .int
  | 26 => .array .int
  | 27 => .array .int
  | 28 => .int
  | 29 => .int
  | 30 => .int
  | 31 => .array .int
  | 32 => .array .int
  | 33 => .int
  | 34 => .int
  | 35 => .int
  | 36 => .int
  | 37 => .int
  | 38 => .int
  | 39 => .int
  | 40 => .int
  | 41 => .int
  | 42 => .array .int
  | _ => .array .int
abbrev wsX110 : List Cond := u_ws RX11 TX11 44
theorem nmX11 : ∀ a, a < 44 → ∀ b, b < 44 → a ≠ b → (TX11 a).2.1 ≠ (TX11 b).2.1 := by decide +kernel
theorem tyX11_ok : ∀ k, k < 44 → parseFieldDescriptor (TX11 k).2.2.1 = some (tyX11 k) := by decide +kernel
abbrev cX11_init : ByteArray := prog_13_method_1_code
def yX11_init : MethodName := ⟨RX11, "<init>", "()V"⟩
abbrev cX11_isIn : ByteArray := prog_13_method_2_code
def yX11_isIn : MethodName := ⟨RX11, "isIn", "(III)Z"⟩
abbrev cX11_isPrisoner : ByteArray := prog_13_method_3_code
def yX11_isPrisoner : MethodName := ⟨RX11, "isPrisoner", "(I)Z"⟩
abbrev cX11_isVisitor : ByteArray := prog_13_method_4_code
def yX11_isVisitor : MethodName := ⟨RX11, "isVisitor", "(I)Z"⟩
abbrev cX11_has : ByteArray := prog_13_method_5_code
def yX11_has : MethodName := ⟨RX11, "has", "(II)Z"⟩
abbrev cX11_prisoner : ByteArray := prog_13_method_6_code
def yX11_prisoner : MethodName := ⟨RX11, "prisoner", "(II)I"⟩
abbrev cX11_visitor : ByteArray := prog_13_method_7_code
def yX11_visitor : MethodName := ⟨RX11, "visitor", "(III)I"⟩
abbrev cX11_isOf : ByteArray := prog_13_method_8_code
def yX11_isOf : MethodName := ⟨RX11, "isOf", "(II)I"⟩
abbrev cX11_list : ByteArray := prog_13_method_9_code
def yX11_list : MethodName := ⟨RX11, "list", "(III)I"⟩
abbrev cX11_order : ByteArray := prog_13_method_10_code
def yX11_order : MethodName := ⟨RX11, "order", "(III)I"⟩
abbrev cX11_lift : ByteArray := prog_13_method_11_code
def yX11_lift : MethodName := ⟨RX11, "lift", "(II)I"⟩
abbrev cX11_rivals : ByteArray := prog_13_method_12_code
def yX11_rivals : MethodName := ⟨RX11, "rivals", "(III)I"⟩
abbrev cX11_move : ByteArray := prog_13_method_13_code
def yX11_move : MethodName := ⟨RX11, "move", "(I)I"⟩
abbrev cX11_told : ByteArray := prog_13_method_14_code
def yX11_told : MethodName := ⟨RX11, "told", "(II)I"⟩
abbrev cX11_four : ByteArray := prog_13_method_15_code
def yX11_four : MethodName := ⟨RX11, "four", "(I)V"⟩
abbrev cX11_feed : ByteArray := prog_13_method_16_code
def yX11_feed : MethodName := ⟨RX11, "feed", "(III)I"⟩
abbrev cX11_trim : ByteArray := prog_13_method_17_code
def yX11_trim : MethodName := ⟨RX11, "trim", "(I)I"⟩
abbrev cX11_next : ByteArray := prog_13_method_18_code
def yX11_next : MethodName := ⟨RX11, "next", "()V"⟩
abbrev cX11_here : ByteArray := prog_13_method_19_code
def yX11_here : MethodName := ⟨RX11, "here", "()I"⟩
abbrev cX11_isWord : ByteArray := prog_13_method_20_code
def yX11_isWord : MethodName := ⟨RX11, "isWord", "(IIII)Z"⟩
abbrev cX11_number : ByteArray := prog_13_method_21_code
def yX11_number : MethodName := ⟨RX11, "number", "()I"⟩
abbrev cX11_readRight : ByteArray := prog_13_method_22_code
def yX11_readRight : MethodName := ⟨RX11, "readRight", "()I"⟩
abbrev cX11_right : ByteArray := prog_13_method_23_code
def yX11_right : MethodName := ⟨RX11, "right", "(I)I"⟩
abbrev cX11_of : ByteArray := prog_13_method_24_code
def yX11_of : MethodName := ⟨RX11, "of", "(II)I"⟩
abbrev cX11_isLawyers : ByteArray := prog_13_method_25_code
def yX11_isLawyers : MethodName := ⟨RX11, "isLawyers", "(I)Z"⟩
abbrev cX11_tablesOn : ByteArray := prog_13_method_26_code
def yX11_tablesOn : MethodName := ⟨RX11, "tablesOn", "(I)I"⟩
abbrev cX11_isAt : ByteArray := prog_13_method_27_code
def yX11_isAt : MethodName := ⟨RX11, "isAt", "(III)Z"⟩
abbrev cX11_letAt : ByteArray := prog_13_method_28_code
def yX11_letAt : MethodName := ⟨RX11, "letAt", "(II)I"⟩
abbrev cX11_meets : ByteArray := prog_13_method_29_code
def yX11_meets : MethodName := ⟨RX11, "meets", "(IIII)Z"⟩
abbrev cX11_isBarred : ByteArray := prog_13_method_30_code
def yX11_isBarred : MethodName := ⟨RX11, "isBarred", "(III)Z"⟩
abbrev cX11_isUnlisted : ByteArray := prog_13_method_31_code
def yX11_isUnlisted : MethodName := ⟨RX11, "isUnlisted", "(II)Z"⟩
abbrev cX11_isChildAlone : ByteArray := prog_13_method_32_code
def yX11_isChildAlone : MethodName := ⟨RX11, "isChildAlone", "(I)Z"⟩
abbrev cX11_isTooMany : ByteArray := prog_13_method_33_code
def yX11_isTooMany : MethodName := ⟨RX11, "isTooMany", "(III)Z"⟩
abbrev cX11_reason : ByteArray := prog_13_method_34_code
def yX11_reason : MethodName := ⟨RX11, "reason", "(IIIII)I"⟩
abbrev cX11_makesRoom : ByteArray := prog_13_method_35_code
def yX11_makesRoom : MethodName := ⟨RX11, "makesRoom", "(IIIZ)Z"⟩
abbrev cX11_refusal : ByteArray := prog_13_method_36_code
def yX11_refusal : MethodName := ⟨RX11, "refusal", "(IIIIIZ)I"⟩
abbrev cX11_walk : ByteArray := prog_13_method_37_code
def yX11_walk : MethodName := ⟨RX11, "walk", "()I"⟩
abbrev cX11_bits : ByteArray := prog_13_method_38_code
def yX11_bits : MethodName := ⟨RX11, "bits", "(I)I"⟩
abbrev cX11_isAsked : ByteArray := prog_13_method_39_code
def yX11_isAsked : MethodName := ⟨RX11, "isAsked", "(IIII)Z"⟩
abbrev cX11_ask : ByteArray := prog_13_method_40_code
def yX11_ask : MethodName := ⟨RX11, "ask", "(IIIII)I"⟩
abbrev cX11_why : ByteArray := prog_13_method_41_code
def yX11_why : MethodName := ⟨RX11, "why", "(IIII)I"⟩
abbrev cX11_isVisit : ByteArray := prog_13_method_42_code
def yX11_isVisit : MethodName := ⟨RX11, "isVisit", "(I)Z"⟩
abbrev cX11_giveBack : ByteArray := prog_13_method_43_code
def yX11_giveBack : MethodName := ⟨RX11, "giveBack", "(I)I"⟩
abbrev cX11_visit : ByteArray := prog_13_method_44_code
def yX11_visit : MethodName := ⟨RX11, "visit", "(II)I"⟩
abbrev cX11_rule : ByteArray := prog_13_method_45_code
def yX11_rule : MethodName := ⟨RX11, "rule", "(II)I"⟩
abbrev cX11_days : ByteArray := prog_13_method_46_code
def yX11_days : MethodName := ⟨RX11, "days", "(I)I"⟩
abbrev cX11_isDay : ByteArray := prog_13_method_47_code
def yX11_isDay : MethodName := ⟨RX11, "isDay", "(I)Z"⟩
abbrev cX11_hall : ByteArray := prog_13_method_48_code
def yX11_hall : MethodName := ⟨RX11, "hall", "(III)I"⟩
abbrev cX11_comes : ByteArray := prog_13_method_49_code
def yX11_comes : MethodName := ⟨RX11, "comes", "(II)I"⟩
abbrev cX11_isSheet : ByteArray := prog_13_method_50_code
def yX11_isSheet : MethodName := ⟨RX11, "isSheet", "(I)Z"⟩
abbrev cX11_sheet : ByteArray := prog_13_method_51_code
def yX11_sheet : MethodName := ⟨RX11, "sheet", "(II)I"⟩
abbrev cX11_mark : ByteArray := prog_13_method_52_code
def yX11_mark : MethodName := ⟨RX11, "mark", "(III)I"⟩
abbrev cX11_copy : ByteArray := prog_13_method_53_code
def yX11_copy : MethodName := ⟨RX11, "copy", "(IIIII)I"⟩
abbrev cX11_lose : ByteArray := prog_13_method_54_code
def yX11_lose : MethodName := ⟨RX11, "lose", "(I)I"⟩
abbrev cX11_count : ByteArray := prog_13_method_55_code
def yX11_count : MethodName := ⟨RX11, "count", "(I)I"⟩
def RJ6 : String := "java/lang/Integer"
def TJ6 : u_T := fun k => match k with
  | _ => ("", "", "", false)
def tyJ6 : Nat → FieldType := fun k => match k with
  | _ => .int
abbrev wsJ60 : List Cond := u_ws RJ6 TJ6 0
theorem nmJ6 : ∀ a, a < 0 → ∀ b, b < 0 → a ≠ b → (TJ6 a).2.1 ≠ (TJ6 b).2.1 := by decide +kernel
theorem tyJ6_ok : ∀ k, k < 0 → parseFieldDescriptor (TJ6 k).2.2.1 = some (tyJ6 k) := by decide +kernel
abbrev cJ6_bitCount_0f7a4 : ByteArray := prog_14_method_49_code
def yJ6_bitCount_0f7a4 : MethodName := ⟨RJ6, "bitCount", "(I)I"⟩
def RJ9 : String := "java/lang/Math"
def TJ9 : u_T := fun k => match k with
  | _ => ("", "", "", false)
def tyJ9 : Nat → FieldType := fun k => match k with
  | _ => .int
abbrev wsJ90 : List Cond := u_ws RJ9 TJ9 0
theorem nmJ9 : ∀ a, a < 0 → ∀ b, b < 0 → a ≠ b → (TJ9 a).2.1 ≠ (TJ9 b).2.1 := by decide +kernel
theorem tyJ9_ok : ∀ k, k < 0 → parseFieldDescriptor (TJ9 k).2.2.1 = some (tyJ9 k) := by decide +kernel
abbrev cJ9_max_7cf53 : ByteArray := prog_15_method_65_code
def yJ9_max_7cf53 : MethodName := ⟨RJ9, "max", "(II)I"⟩
abbrev cJ9_min_7cf53 : ByteArray := prog_15_method_69_code
def yJ9_min_7cf53 : MethodName := ⟨RJ9, "min", "(II)I"⟩
def RJ0 : String := "java/lang/String"
def TJ0 : u_T := fun k => match k with
  | _ => ("", "", "", false)
def tyJ0 : Nat → FieldType := fun k => match k with
  | _ => .int
abbrev wsJ00 : List Cond := u_ws RJ0 TJ0 0
theorem nmJ0 : ∀ a, a < 0 → ∀ b, b < 0 → a ≠ b → (TJ0 a).2.1 ≠ (TJ0 b).2.1 := by decide +kernel
theorem tyJ0_ok : ∀ k, k < 0 → parseFieldDescriptor (TJ0 k).2.2.1 = some (tyJ0 k) := by decide +kernel
abbrev cJ0_length_8abf5 : ByteArray := prog_16_method_54_code
def yJ0_length_8abf5 : MethodName := ⟨RJ0, "length", "()I"⟩
abbrev cJ0_charAt_5068e : ByteArray := prog_16_method_56_code
def yJ0_charAt_5068e : MethodName := ⟨RJ0, "charAt", "(I)C"⟩
abbrev cJ0_coder_7d493 : ByteArray := prog_16_method_152_code
def yJ0_coder_7d493 : MethodName := ⟨RJ0, "coder", "()B"⟩
abbrev cJ0_isLatin1_aae02 : ByteArray := prog_16_method_154_code
def yJ0_isLatin1_aae02 : MethodName := ⟨RJ0, "isLatin1", "()Z"⟩
abbrev cJ0_checkIndex_df160 : ByteArray := prog_16_method_155_code
def yJ0_checkIndex_df160 : MethodName := ⟨RJ0, "checkIndex", "(II)V"⟩
def RJ1 : String := "java/lang/StringLatin1"
def TJ1 : u_T := fun k => match k with
  | _ => ("", "", "", false)
def tyJ1 : Nat → FieldType := fun k => match k with
  | _ => .int
abbrev wsJ10 : List Cond := u_ws RJ1 TJ1 0
theorem nmJ1 : ∀ a, a < 0 → ∀ b, b < 0 → a ≠ b → (TJ1 a).2.1 ≠ (TJ1 b).2.1 := by decide +kernel
theorem tyJ1_ok : ∀ k, k < 0 → parseFieldDescriptor (TJ1 k).2.2.1 = some (tyJ1 k) := by decide +kernel
abbrev cJ1_charAt_3b067 : ByteArray := prog_17_method_2_code
def yJ1_charAt_3b067 : MethodName := ⟨RJ1, "charAt", "([BI)C"⟩
def RJ2 : String := "java/lang/StringUTF16"
def TJ2 : u_T := fun k => match k with
  | _ => ("", "", "", false)
def tyJ2 : Nat → FieldType := fun k => match k with
  | _ => .int
abbrev wsJ20 : List Cond := u_ws RJ2 TJ2 0
theorem nmJ2 : ∀ a, a < 0 → ∀ b, b < 0 → a ≠ b → (TJ2 a).2.1 ≠ (TJ2 b).2.1 := by decide +kernel
theorem tyJ2_ok : ∀ k, k < 0 → parseFieldDescriptor (TJ2 k).2.2.1 = some (tyJ2 k) := by decide +kernel
abbrev cJ2_getChar_3b067 : ByteArray := prog_18_method_5_code
def yJ2_getChar_3b067 : MethodName := ⟨RJ2, "getChar", "([BI)C"⟩
abbrev cJ2_length_9d52b : ByteArray := prog_18_method_6_code
def yJ2_length_9d52b : MethodName := ⟨RJ2, "length", "([B)I"⟩
abbrev cJ2_charAt_3b067 : ByteArray := prog_18_method_83_code
def yJ2_charAt_3b067 : MethodName := ⟨RJ2, "charAt", "([BI)C"⟩
abbrev cJ2_checkIndex_2214a : ByteArray := prog_18_method_91_code
def yJ2_checkIndex_2214a : MethodName := ⟨RJ2, "checkIndex", "(I[B)V"⟩
def RJ10 : String := "java/lang/System"
def TJ10 : u_T := fun k => match k with
  | _ => ("", "", "", false)
def tyJ10 : Nat → FieldType := fun k => match k with
  | _ => .int
abbrev wsJ100 : List Cond := u_ws RJ10 TJ10 0
theorem nmJ10 : ∀ a, a < 0 → ∀ b, b < 0 → a ≠ b → (TJ10 a).2.1 ≠ (TJ10 b).2.1 := by decide +kernel
theorem tyJ10_ok : ∀ k, k < 0 → parseFieldDescriptor (TJ10 k).2.2.1 = some (tyJ10 k) := by decide +kernel
def RJ7 : String := "java/util/Arrays"
def TJ7 : u_T := fun k => match k with
  | _ => ("", "", "", false)
def tyJ7 : Nat → FieldType := fun k => match k with
  | _ => .int
abbrev wsJ70 : List Cond := u_ws RJ7 TJ7 0
theorem nmJ7 : ∀ a, a < 0 → ∀ b, b < 0 → a ≠ b → (TJ7 a).2.1 ≠ (TJ7 b).2.1 := by decide +kernel
theorem tyJ7_ok : ∀ k, k < 0 → parseFieldDescriptor (TJ7 k).2.2.1 = some (tyJ7 k) := by decide +kernel
abbrev cJ7_fill_53178 : ByteArray := prog_20_method_103_code
def yJ7_fill_53178 : MethodName := ⟨RJ7, "fill", "([II)V"⟩
abbrev cJ7_fill_031fb : ByteArray := prog_20_method_109_code
def yJ7_fill_031fb : MethodName := ⟨RJ7, "fill", "([BB)V"⟩
def RJ3 : String := "jdk/internal/util/Preconditions"
def TJ3 : u_T := fun k => match k with
  | _ => ("", "", "", false)
def tyJ3 : Nat → FieldType := fun k => match k with
  | _ => .int
abbrev wsJ30 : List Cond := u_ws RJ3 TJ3 0
theorem nmJ3 : ∀ a, a < 0 → ∀ b, b < 0 → a ≠ b → (TJ3 a).2.1 ≠ (TJ3 b).2.1 := by decide +kernel
theorem tyJ3_ok : ∀ k, k < 0 → parseFieldDescriptor (TJ3 k).2.2.1 = some (tyJ3 k) := by decide +kernel
abbrev cJ3_checkIndex_8e157 : ByteArray := prog_21_method_11_code
def yJ3_checkIndex_8e157 : MethodName := ⟨RJ3, "checkIndex", "(IILjava/util/function/BiFunction;)I"⟩
def RL : String := "VisitHallLaw"
abbrev cL_law : ByteArray := code
def yL_law : MethodName := ⟨RL, "law", "([I)Z"⟩
abbrev vwCl : List vw_C := [(RX0, TX0, 3), (RX1, TX1, 6), (RX2, TX2, 6), (RX3, TX3, 5), (RX4, TX4, 6), (RX5, TX5, 4), (RX6, TX6, 4), (RX7, TX7, 2), (RX8, TX8, 2), (RX9, TX9, 8), (RX10, TX10, 9), (RX11, TX11, 44)]
def isNest : Cond → Bool
  | .fieldLinkNest .. => true
  | .methodLinkNest .. => true
  | _ => false
def okw (w : Cond) : Bool := goodWord w || isNest w
def TT : List Cond := lw_tbl.filter okw
theorem inX0 : ∀ w ∈ wsX00, w ∈ TT := by decide +kernel
theorem inX1 : ∀ w ∈ wsX10, w ∈ TT := by decide +kernel
theorem inX2 : ∀ w ∈ wsX20, w ∈ TT := by decide +kernel
theorem inX3 : ∀ w ∈ wsX30, w ∈ TT := by decide +kernel
theorem inX4 : ∀ w ∈ wsX40, w ∈ TT := by decide +kernel
theorem inX5 : ∀ w ∈ wsX50, w ∈ TT := by decide +kernel
theorem inX6 : ∀ w ∈ wsX60, w ∈ TT := by decide +kernel
theorem inX7 : ∀ w ∈ wsX70, w ∈ TT := by decide +kernel
theorem inX8 : ∀ w ∈ wsX80, w ∈ TT := by decide +kernel
theorem inX9 : ∀ w ∈ wsX90, w ∈ TT := by decide +kernel
theorem inX10 : ∀ w ∈ wsX100, w ∈ TT := by decide +kernel
theorem inX11 : ∀ w ∈ wsX110, w ∈ TT := by decide +kernel
end
section
/-! OUR FRAME, 1: abstract values (an int, a reference by kind and number, a long), the world (how many of each kind; what rows of references hold), the store of ints; what a heap that holds them is -/
abbrev HV : Type := Int32 ⊕ (Nat × Option Nat) ⊕ Int64
abbrev HI (x : Int32) : HV := Sum.inl x
abbrev HO (k : Nat) (o : Option Nat) : HV := Sum.inr (Sum.inl (k, o))
abbrev HR (k i : Nat) : HV := Sum.inr (Sum.inl (k, some i))
abbrev HL (x : Int64) : HV := Sum.inr (Sum.inr x)
abbrev HA : Type := Nat → Nat → Nat
abbrev HW : Type := (Nat → Nat) × (Nat → Nat → Option Nat)
abbrev HS : Type := Nat → Nat → Nat → Int32
abbrev HLs : Type := List (Option HV)
abbrev HK : Type := Nat → HLs → List HV → HW → HS → Prop
abbrev HKp : Type := HLs → List HV → HW → HS → Prop
abbrev HRt : Type := Option HV → HW → HS → Prop
abbrev HSp : Type := List HV → HW → HS → HRt → Prop
abbrev HOp : Type := HK → HRt → HLs → List HV → HW → HS → Prop
abbrev HG : Type := va_G × (Nat → ClassId) × (Nat → Nat) × (Nat → Nat)
def toV (g : HA) (v : HV) : Value := match v with
  | .inl x => .int x
  | .inr (.inl (_, none)) => .null
  | .inr (.inl (k, some i)) => .ref (g k i)
  | .inr (.inr x) => .long x
def VLv (w : HW) (v : HV) : Prop := match v with
  | .inr (.inl (k, some i)) => i < w.1 k
  | _ => True
def up3 (σ : HS) (k i f : Nat) (v : Int32) : HS := fun a b c => if a = k ∧ b = i ∧ c = f then v else σ a b c
def up2 (r : Nat → Nat → Option Nat) (k j : Nat) (o : Option Nat) : Nat → Nat → Option Nat := fun a b => if a = k ∧ b = j then o else r a b
/-- which fields are references, and to what -/
def fr (w : HW) (k i f : Nat) : Option (Nat × Option Nat) := match k with
  | 0 => (match f with | 0 => some (18, some 0) | _ => none)
  | 1 => (match f with | 0 => some (2, some 0) | 1 => some (16, some 0) | 2 => some (0, some 0) | 3 => some (7, some 0) | 5 => some (13, some 3) | _ => none)
  | 2 => (match f with | 0 => some (15, some 0) | 2 => some (13, some 0) | 3 => some (13, some 1) | 5 => some (13, some 2) | _ => none)
  | 3 => (match f with | 4 => some (13, some (i + 4)) | _ => none)
  | 5 => (match f with | 0 => some (8, some 0) | _ => none)
  | 7 => (match f with | 0 => some (12, some (1 + i)) | _ => none)
  | 8 => (match f with | 0 => some (12, some 0) | _ => none)
  | 10 => (match f with | 0 => some (2, some 0) | 1 => some (8, some 0) | 2 => some (5, some 0) | 3 => some (16, some 0) | 4 => some (0, some 0) | 5 => some (17, some 0) | 6 => some (1, some 0) | 7 => some (6, some 0) | 8 => some (9, w.2 10 0) | _ => none)
  | 11 => (match f with | 2 => some (20, some 0) | 3 => some (20, some 1) | 4 => some (20, some 2) | 5 => some (20, some 3) | 6 => some (20, some 4) | 8 => some (20, some 5) | 9 => some (20, some 6) | 10 => some (20, some 7) | 11 => some (20, some 8) | 12 => some (21, some 0) | 13 => some (20, some 9) | 14 => some (20, some 10) | 15 => some (20, some 11) | 16 => some (20, some 12) | 17 => some (20, some 13) | 18 => some (20, some 14) | 19 => some (20, some 15) | 22 => some (20, some 16) | 23 => some (20, some 17) | 24 => some (20, some 18) | 25 => some (20, some 19) | 26 => some (20, some 20) | 27 => some (20, some 21) | 31 => some (20, some 22) | 32 => some (20, some 23) | 42 => some (20, some 24) | 43 => some (20, some 25) | _ => none)
  | _ => none
def fld (w : HW) (σ : HS) (k i f : Nat) : HV := match fr w k i f with
  | some r => .inr (.inl r)
  | none => .inl (σ k i f)
def nfd (k : Nat) : Nat := match k with
  | 0 => 3 | 1 => 6 | 2 => 6 | 3 => 5 | 4 => 6 | 5 => 4 | 6 => 4 | 7 => 2 | 8 => 2 | 9 => 8 | 10 => 9 | 11 => 44 | _ => 0
def al (k i : Nat) : Nat := match k with
  | 12 => 60
  | 13 => (match i with | 0 => 4 | 1 => 14 | 2 => 10 | 3 => 119 | _ => 14)
  | 15 => 10 | 16 => 4 | 17 => 2 | 18 => 100
  | 20 => (match i with | 4 => 140 | 5 => 14 | 6 => 14 | 7 => 14 | 9 => 4 | 10 => 4 | 11 => 4 | 12 => 4 | 13 => 4 | 14 => 4 | 15 => 60 | 16 => 100 | 17 => 100 | 18 => 100 | 19 => 100 | 20 => 100 | 21 => 100 | 22 => 2 | 23 => 120 | 24 => 100 | 25 => 60 | _ => 10)
  | 21 => 4
  | _ => 0
/-- rows of references; the kind of what they hold; the number of a row's class -/
def isRA (k : Nat) : Bool := Nat.ble 15 k && Nat.ble k 18
def ek (k : Nat) : Nat := match k with
  | 15 => 3 | 16 => 4 | 17 => 7 | _ => 9
def ac (k : Nat) : Nat := match k with
  | 12 => 0 | 13 => 1 | 20 => 1 | 21 => 2 | 15 => 3 | 16 => 4 | 17 => 5 | _ => 6
def ent (G : HG) (g : HA) (w : HW) (σ : HS) (k i : Nat) : va_E :=
  bif Nat.blt k 12 then .inr (k, (List.range (nfd k)).map fun f => toV g (fld w σ k i f))
  else bif isRA k then .inl (G.2.1 (ac k), al k i, .inr (.inr (.inr (.inr fun j => (w.2 k j).map (g (ek k))))))
  else .inl (G.2.1 (ac k), al k i, .inl (σ k i))
def tysG (G : HG) : List (ClassId × FieldType) := [(G.2.1 0, .byte), (G.2.1 1, .int), (G.2.1 2, .boolean), (G.2.1 3, .object RX3), (G.2.1 4, .object RX4), (G.2.1 5, .object RX7), (G.2.1 6, .object RX9)]
def GE (g : HA) (w : HW) (g' : HA) (w' : HW) : Prop := ∀ k i, i < w.1 k → i < w'.1 k ∧ g' k i = g k i
def Wf (w : HW) : Prop := (∀ k i f kk o, i < w.1 k → fr w k i f = some (kk, some o) → o < w.1 kk) ∧ (∀ k j o, isRA k = true → w.2 k j = some o → o < w.1 (ek k)) ∧ (∀ k, isRA k = true → w.1 k ≤ 1) ∧ w.1 10 ≤ 1
def RepS (G : HG) (A : Nat → Prop) (g : HA) (w : HW) (σ : HS) (H : Heap) : Prop :=
  (∀ k i, k < 22 → i < w.1 k → va_at G.1 vwCl (g k i, ent G g w σ k i) H ∧ A (g k i)) ∧
  (∀ k i k' i', k < 22 → k' < 22 → i < w.1 k → i' < w.1 k' → g k i = g k' i' → k = k' ∧ i = i') ∧ (∀ c, g 23 c = G.2.2.1 c) ∧ Wf w
theorem GE.rf {g : HA} {w : HW} : GE g w g w := fun _ _ h => ⟨h, rfl⟩
theorem GE.tr {g g' g'' : HA} {w w' w'' : HW} (h1 : GE g w g' w') (h2 : GE g' w' g'' w'') : GE g w g'' w'' := fun k i h =>
  ⟨(h2 k i (h1 k i h).1).1, ((h2 k i (h1 k i h).1).2).trans (h1 k i h).2⟩
theorem toV_ge {g g' : HA} {w w' : HW} (h : GE g w g' w') {v : HV} (hv : VLv w v) : toV g' v = toV g v ∧ VLv w' v := by
  rcases v with x | ⟨k, _ | i⟩ | x
  · exact ⟨rfl, trivial⟩
  · exact ⟨rfl, trivial⟩
  · exact ⟨congrArg Value.ref (h k i hv).2, (h k i hv).1⟩
  · exact ⟨rfl, trivial⟩
theorem map_ge {g g' : HA} {w w' : HW} (h : GE g w g' w') : ∀ {st : List HV}, (∀ v ∈ st, VLv w v) → st.map (toV g') = st.map (toV g) ∧ ∀ v ∈ st, VLv w' v
  | [], _ => ⟨rfl, fun _ hv => absurd hv List.not_mem_nil⟩
  | a :: r, hs => by
    have h1 := toV_ge h (hs a List.mem_cons_self)
    have h2 := map_ge h (st := r) (fun v hv => hs v (List.mem_cons_of_mem _ hv))
    exact ⟨by rw [List.map_cons, List.map_cons, h1.1, h2.1], fun v hv => (List.mem_cons.mp hv).elim (fun e => e ▸ h1.2) (h2.2 v)⟩
theorem up3_ne {σ : HS} {k i f k' i' : Nat} {v : Int32} (h : ¬ (k' = k ∧ i' = i)) : up3 σ k i f v k' i' = σ k' i' := by
  funext c
  exact if_neg fun q => h ⟨q.1, q.2.1⟩
theorem up3_row (σ : HS) (k i f : Nat) (v : Int32) : up3 σ k i f v k i = upd (σ k i) f v := by
  funext c
  by_cases h : c = f
  · subst h; simp [up3, upd]
  · simp [up3, upd, h]
theorem ent_congr {G : HG} {g : HA} {w : HW} {σ σ' : HS} {k i : Nat} (h : σ' k i = σ k i) : ent G g w σ' k i = ent G g w σ k i := by
  simp only [ent, fld, h]
theorem RepS.upd {G : HG} {A : Nat → Prop} {g : HA} {w : HW} {σ σ' : HS} {H H1 : Heap} (hR : RepS G A g w σ H) {k i : Nat} (hk : k < 22) (hi : i < w.1 k) (he : va_at G.1 vwCl (g k i, ent G g w σ' k i) H1) (ho : ∀ q : Nat, q ≠ g k i → H1[q]? = H[q]?) (hσ : ∀ k' i', ¬ (k' = k ∧ i' = i) → σ' k' i' = σ k' i') : RepS G A g w σ' H1 := by
  refine ⟨fun k' i' hk' hi' => ?_, hR.2⟩
  by_cases h : k' = k ∧ i' = i
  · obtain ⟨rfl, rfl⟩ := h
    exact ⟨he, (hR.1 _ _ hk hi).2⟩
  · rw [ent_congr (hσ _ _ h)]
    exact ⟨(hR.1 k' i' hk' hi').1.kept (ho _ fun e => h (hR.2.1 _ _ _ _ hk' hk hi' hi e)), (hR.1 k' i' hk' hi').2⟩
theorem set_map {n f : Nat} (F F' : Nat → Value) (h1 : ∀ j, j ≠ f → F' j = F j) (hf : f < n) : ((List.range n).map F).set f (F' f) = (List.range n).map F' := by
  apply List.ext_getElem?
  intro j
  by_cases hj : j = f
  · subst hj
    rw [List.getElem?_set_self (by simpa using hf)]
    simp [hf]
  · rw [List.getElem?_set_ne (Ne.symm hj)]
    by_cases hn : j < n
    · simp [hn, h1 j hj]
    · simp [hn]
theorem ent_obj {G : HG} {g : HA} {w : HW} {σ : HS} {k i : Nat} (hk : Nat.blt k 12 = true) : ent G g w σ k i = .inr (k, (List.range (nfd k)).map fun f => toV g (fld w σ k i f)) := by
  simp [ent, hk]
theorem ent_row {G : HG} {g : HA} {w : HW} {σ : HS} {k i : Nat} (hk : Nat.blt k 12 = false) (h2 : isRA k = false) : ent G g w σ k i = .inl (G.2.1 (ac k), al k i, .inl (σ k i)) := by
  simp [ent, hk, h2]
theorem ent_ref {G : HG} {g : HA} {w : HW} {σ : HS} {k i : Nat} (hk : Nat.blt k 12 = false) (h2 : isRA k = true) : ent G g w σ k i = .inl (G.2.1 (ac k), al k i, .inr (.inr (.inr (.inr fun j => (w.2 k j).map (g (ek k)))))) := by
  simp [ent, hk, h2]
theorem fld_put {g : HA} {w : HW} {σ : HS} {k i f : Nat} {v : Int32} (hf : fr w k i f = none) (hn : f < nfd k) : ((List.range (nfd k)).map fun f => toV g (fld w σ k i f)).set f (.int v) = (List.range (nfd k)).map fun f' => toV g (fld w (up3 σ k i f v) k i f') := by
  have h := set_map (n := nfd k) (f := f) (fun f => toV g (fld w σ k i f)) (fun f' => toV g (fld w (up3 σ k i f v) k i f')) (fun j hj => by
    show toV g (fld w (up3 σ k i f v) k i j) = _
    have : up3 σ k i f v k i j = σ k i j := if_neg fun q => hj q.2.2
    simp only [fld, this]) hn
  have e : toV g (fld w (up3 σ k i f v) k i f) = .int v := by
    have : up3 σ k i f v k i f = v := if_pos ⟨rfl, rfl, rfl⟩
    simp only [fld, hf, this]
    rfl
  rw [← h]
  show _ = ((List.range (nfd k)).map _).set f (toV g (fld w (up3 σ k i f v) k i f))
  rw [e]
theorem va_one {D : va_G} {cl : List vw_C} {q : Nat × va_E} {H : Heap} (h : va_at D cl q H) : va_P D cl [q] H := by
  intro k r hk
  cases k with
  | zero => rw [List.getElem?_cons_zero] at hk; cases hk; exact h
  | succ k => rw [List.getElem?_cons_succ] at hk; simp at hk
section HX
variable {p : Program} {l : Launch} {e : Env} {R : Room} {s : State} {m : MethodId} {args : Array Value} {below : List Frame} {meth : Method} {c : Code} {H : Heap} {locs : List Loc} {cells slots : Nat} {Q : State → Prop}
variable {cc : ByteArray} {pc : Nat} {ls : Array Slot} {rest : List Value} {D : va_G} {cl : List vw_C} {A : Nat → Prop} {a : Nat} {tys : List (ClassId × FieldType)} {H0 : Heap}
theorem hx_put (hexec : p.tables.exec = Jvm.exec) (hb : c.code = cc) {own C : String} {T : u_T} {N ci index : Nat} {Ts : List Cond} (hts : ∀ w ∈ Ts, w.before args s = true) (hin : ∀ w ∈ u_ws C T N, w ∈ Ts) (ty0 : Nat → FieldType) (hty : ∀ k, k < N → parseFieldDescriptor (T k).2.2.1 = some (ty0 k)) (hnm : ∀ a, a < N → ∀ b, b < N → a ≠ b → (T a).2.1 ≠ (T b).2.1) (hown : s.vm.findClass own = some m.cls) (hK : va_K D cl tys s) {fs : List Value} (hat : va_at D cl (a, .inr (ci, fs)) H) (hc : cl[ci]? = some (C, T, N)) (k : Nat) (hk : k < N) (hlink : (Cond.fieldLink own index (T k).1 (T k).2.1 (T k).2.2.1).before args s = true) (hfin : (T k).2.2.2 = false) {ty : FieldType} {v : Value} (hd : parseFieldDescriptor (T k).2.2.1 = some ty) (hn : narrow ty v = v) (hfit : fits ty v = true) (hl : k < fs.length)
    (hdg : decode cc pc = .ok (.putfield index, 3)) (kk : ∀ (H1 : Heap) (sl : Nat), va_at D cl (a, .inr (ci, fs.set k v)) H1 → H1.size = H.size → (∀ q : Nat, q ≠ a → H1[q]? = H[q]?) → W p l e R s m args below meth c H1 (locs ++ [⟨a, sl⟩]) cells slots Q (F0 m (pc + 3) ls rest)) : W p l e R s m args below meth c H locs cells slots Q (F0 m pc ls (v :: .ref a :: rest)) := by
  have hap := va_apart (own := own) hts hin ty0 hty hnm hK hc
  obtain ⟨r, h1, cell, q1, q2, q3, q4⟩ := hat
  have hr : r = (C, T, N) := Option.some.inj (h1.symm.trans hc)
  subst hr
  obtain ⟨hS, hfc, kC, hkC, hkind⟩ := hK.1 ci _ hc
  obtain ⟨cf, kf, fi, f, hi, hsl⟩ := hS k hk
  have hlay := hts _ (hin _ (u_in_lay hk))
  unfold u_lay at hlay
  rw [if_neg (by rw [hfin]; decide)] at hlay
  have hst := (u_facts hfc hkC (u_lays hts hin hk) hi).1
  have h6 := u_store hfc hkC hkind hlay hi hd hn hfit
  refine W.putK hexec hb (f := f) ⟨hown, hlink, ⟨_, _, _, hi⟩, hst⟩ (by rw [q2]; exact h6) q1 q3 (by rw [hsl]; exact k2_hasslot (q4 k hk)) rfl rfl hdg fun H' e1 e2 e3 => ?_
  rw [hsl] at e1 ⊢
  exact kk H' _ ⟨_, hc, t_OB.to (V := updV (vp_V fs) k v) ⟨_, e1, q2, q3, t_set q4 hap hk v⟩ (fun j _ => vp_updV_set hl v j)⟩ e2 e3
theorem hx_putN (hexec : p.tables.exec = Jvm.exec) (hb : c.code = cc) {own C host : String} {T : u_T} {N ci index : Nat} {Ts : List Cond} (hts : ∀ w ∈ Ts, w.before args s = true) (hin : ∀ w ∈ u_ws C T N, w ∈ Ts) (ty0 : Nat → FieldType) (hty : ∀ k, k < N → parseFieldDescriptor (T k).2.2.1 = some (ty0 k)) (hnm : ∀ a, a < N → ∀ b, b < N → a ≠ b → (T a).2.1 ≠ (T b).2.1) (hown : s.vm.findClass own = some m.cls) (hK : va_K D cl tys s) {fs : List Value} (hat : va_at D cl (a, .inr (ci, fs)) H) (hc : cl[ci]? = some (C, T, N)) (k : Nat) (hk : k < N) (hlink : (Cond.fieldLinkNest own index (T k).1 (T k).2.1 (T k).2.2.1 host).before args s = true) (hfin : (T k).2.2.2 = false) {ty : FieldType} {v : Value} (hd : parseFieldDescriptor (T k).2.2.1 = some ty) (hn : narrow ty v = v) (hfit : fits ty v = true) (hl : k < fs.length)
    (hdg : decode cc pc = .ok (.putfield index, 3)) (kk : ∀ (H1 : Heap) (sl : Nat), va_at D cl (a, .inr (ci, fs.set k v)) H1 → H1.size = H.size → (∀ q : Nat, q ≠ a → H1[q]? = H[q]?) → W p l e R s m args below meth c H1 (locs ++ [⟨a, sl⟩]) cells slots Q (F0 m (pc + 3) ls rest)) : W p l e R s m args below meth c H locs cells slots Q (F0 m pc ls (v :: .ref a :: rest)) := by
  have hap := va_apart (own := own) hts hin ty0 hty hnm hK hc
  obtain ⟨r, h1, cell, q1, q2, q3, q4⟩ := hat
  have hr : r = (C, T, N) := Option.some.inj (h1.symm.trans hc)
  subst hr
  obtain ⟨hS, hfc, kC, hkC, hkind⟩ := hK.1 ci _ hc
  obtain ⟨cf, kf, fi, f, hi, hsl⟩ := hS k hk
  have hlay := hts _ (hin _ (u_in_lay hk))
  unfold u_lay at hlay
  rw [if_neg (by rw [hfin]; decide)] at hlay
  have hst := (u_facts hfc hkC (u_lays hts hin hk) hi).1
  have h6 := u_store hfc hkC hkind hlay hi hd hn hfit
  refine va_WputK hexec hb (f := f) hown hlink hi hst (by rw [q2]; exact h6) q1 q3 (by rw [hsl]; exact k2_hasslot (q4 k hk)) rfl rfl hdg fun H' e1 e2 e3 => ?_
  rw [hsl] at e1 ⊢
  exact kk H' _ ⟨_, hc, t_OB.to (V := updV (vp_V fs) k v) ⟨_, e1, q2, q3, t_set q4 hap hk v⟩ (fun j _ => vp_updV_set hl v j)⟩ e2 e3
theorem hx_iast (hexec : p.tables.exec = Jvm.exec) (hb : c.code = cc) (hK : va_K D cl tys s) {t0 : Nat} {cA : ClassId} {n : Nat} {f : Nat → Int32} (hat : va_at D cl (a, .inl (cA, n, .inl f)) H) (ht : tys[t0]? = some (cA, .int)) {i : Int32} {x : Int32} (hin : vp_in i n) (hdg : decode cc pc = .ok (.iastore, 1))
    (kk : ∀ (H1 : Heap) (sl : Nat), va_at D cl (a, .inl (cA, n, .inl (upd f i.toNatClampNeg x))) H1 → H1.size = H.size → (∀ q : Nat, q ≠ a → H1[q]? = H[q]?) → W p l e R s m args below meth c H1 (locs ++ [⟨a, sl⟩]) cells slots Q (F0 m (pc + 1) ls rest)) : W p l e R s m args below meth c H locs cells slots Q (F0 m pc ls (.int x :: .int i :: .ref a :: rest)) := by
  refine W.iast hexec hb hat ((hK.2 t0 _ ht).1 n (fun j => .int (f j))) (fun q => by cases q) (by show ¬ (i < 0 ∨ (arrV _ _ _).slots.size ≤ _); rw [arrV_size]; exact hin) rfl rfl hdg fun H1 e z oq => ?_
  refine kk H1 _ ?_ z oq
  show H1[a]? = some (vp_cell _ _)
  rw [e]
  show some ((vp_cell cA (n, .inl f)).setSlot _ _) = _
  rw [vp_cell_i, vp_cell_i, arrV_store]
  congr 2
  funext q
  by_cases hq : q = i.toNatClampNeg
  · subst hq
    simp [updV, upd]
  · simp [updV, upd, hq]
theorem hx_bast (hexec : p.tables.exec = Jvm.exec) (hb : c.code = cc) (hK : va_K D cl tys s) {t0 : Nat} {cA : ClassId} {n : Nat} {f : Nat → Int32} (hat : va_at D cl (a, .inl (cA, n, .inl f)) H) (ht : tys[t0]? = some (cA, .byte)) {i : Int32} {x : Int32} (hin : vp_in i n) (hdg : decode cc pc = .ok (.bastore, 1))
    (kk : ∀ (H1 : Heap) (sl : Nat), va_at D cl (a, .inl (cA, n, .inl (upd f i.toNatClampNeg x.toInt8.toInt32))) H1 → H1.size = H.size → (∀ q : Nat, q ≠ a → H1[q]? = H[q]?) → W p l e R s m args below meth c H1 (locs ++ [⟨a, sl⟩]) cells slots Q (F0 m (pc + 1) ls rest)) : W p l e R s m args below meth c H locs cells slots Q (F0 m pc ls (.int x :: .int i :: .ref a :: rest)) := by
  refine W.bast hexec hb hat ((hK.2 t0 _ ht).1 n (fun j => .int (f j))) (fun q => by cases q) (by show ¬ (i < 0 ∨ (arrV _ _ _).slots.size ≤ _); rw [arrV_size]; exact hin) rfl rfl hdg fun H1 e z oq => ?_
  refine kk H1 _ ?_ z oq
  show H1[a]? = some (vp_cell _ _)
  rw [e]
  show some ((vp_cell cA (n, .inl f)).setSlot _ _) = _
  rw [← vp_nar_byte, vp_cell_i, vp_cell_i, arrV_store]
  congr 2
  funext q
  by_cases hq : q = i.toNatClampNeg
  · subst hq
    simp [updV, upd, vp_nar]
    try rfl
  · simp [updV, upd, hq]
theorem hx_zast (hexec : p.tables.exec = Jvm.exec) (hb : c.code = cc) (hK : va_K D cl tys s) {t0 : Nat} {cA : ClassId} {n : Nat} {f : Nat → Int32} (hat : va_at D cl (a, .inl (cA, n, .inl f)) H) (ht : tys[t0]? = some (cA, .boolean)) {i : Int32} {x : Int32} (hin : vp_in i n) (hnr : narrow .boolean (.int x) = .int x) (hdg : decode cc pc = .ok (.bastore, 1))
    (kk : ∀ (H1 : Heap) (sl : Nat), va_at D cl (a, .inl (cA, n, .inl (upd f i.toNatClampNeg x))) H1 → H1.size = H.size → (∀ q : Nat, q ≠ a → H1[q]? = H[q]?) → W p l e R s m args below meth c H1 (locs ++ [⟨a, sl⟩]) cells slots Q (F0 m (pc + 1) ls rest)) : W p l e R s m args below meth c H locs cells slots Q (F0 m pc ls (.int x :: .int i :: .ref a :: rest)) := by
  refine W.zast hexec hb hat ((hK.2 t0 _ ht).1 n (fun j => .int (f j))) (fun q => by cases q) (by show ¬ (i < 0 ∨ (arrV _ _ _).slots.size ≤ _); rw [arrV_size]; exact hin) rfl rfl hdg fun H1 e z oq => ?_
  refine kk H1 _ ?_ z oq
  show H1[a]? = some (vp_cell _ _)
  rw [e, hnr]
  show some ((vp_cell cA (n, .inl f)).setSlot _ _) = _
  rw [vp_cell_i, vp_cell_i, arrV_store]
  congr 2
  funext q
  by_cases hq : q = i.toNatClampNeg
  · subst hq
    simp [updV, upd]
  · simp [updV, upd, hq]
end HX
end
section
/-! OUR FRAME, 2: instructions as steps of verification conditions, and that each is sound -/
def hpop (l : List HV) (f : HV → List HV → Prop) : Prop := match l with
  | a :: r => f a r
  | [] => False
def hpI (v : HV) (f : Int32 → Prop) : Prop := match v with
  | .inl x => f x
  | _ => False
def hpO (v : HV) (f : Nat → Option Nat → Prop) : Prop := match v with
  | .inr (.inl (k, o)) => f k o
  | _ => False
def hpR (v : HV) (f : Nat → Nat → Prop) : Prop := match v with
  | .inr (.inl (k, some i)) => f k i
  | _ => False
def hpL (v : HV) (f : Int64 → Prop) : Prop := match v with
  | .inr (.inr x) => f x
  | _ => False
def hp1 (v : HV) (P : Prop) : Prop := match v with
  | .inr (.inr _) => False
  | _ => P
def hnil (l : List HV) (P : Prop) : Prop := match l with
  | [] => P
  | _ => False
def hopt (o : Option Nat) (a b : Prop) : Prop := match o with
  | none => a
  | some _ => b
def lkp (ls : HLs) (i : Nat) : Option HV := match ls, i with
  | [], _ => none
  | a :: _, 0 => a
  | _ :: r, n + 1 => lkp r n
def hget (o : Option HV) (f : HV → Prop) : Prop := match o with
  | some v => f v
  | none => False
def popI (st : List HV) (f : Int32 → List HV → Prop) : Prop := hpop st fun v r => hpI v fun x => f x r
def popO (st : List HV) (f : Nat → Option Nat → List HV → Prop) : Prop := hpop st fun v r => hpO v fun k o => f k o r
def popR (st : List HV) (f : Nat → Nat → List HV → Prop) : Prop := hpop st fun v r => hpR v fun k i => f k i r
def popL (st : List HV) (f : Int64 → List HV → Prop) : Prop := hpop st fun v r => hpL v fun x => f x r
def pop1 (st : List HV) (f : HV → List HV → Prop) : Prop := hpop st fun v r => hp1 v (f v r)
theorem hpop_s {l : List HV} {f : HV → List HV → Prop} (h : hpop l f) : ∃ a r, l = a :: r ∧ f a r := by
  cases l with
  | nil => exact h.elim
  | cons a r => exact ⟨a, r, rfl, h⟩
theorem popI_s {l : List HV} {f : Int32 → List HV → Prop} (h : popI l f) : ∃ x r, l = HI x :: r ∧ f x r := by
  obtain ⟨a, r, rfl, h⟩ := hpop_s h
  rcases a with x | ⟨k, o⟩ | x
  · exact ⟨x, r, rfl, h⟩
  · exact h.elim
  · exact h.elim
theorem popO_s {l : List HV} {f : Nat → Option Nat → List HV → Prop} (h : popO l f) : ∃ k o r, l = HO k o :: r ∧ f k o r := by
  obtain ⟨a, r, rfl, h⟩ := hpop_s h
  rcases a with x | ⟨k, o⟩ | x
  · exact h.elim
  · exact ⟨k, o, r, rfl, h⟩
  · exact h.elim
theorem popR_s {l : List HV} {f : Nat → Nat → List HV → Prop} (h : popR l f) : ∃ k i r, l = HR k i :: r ∧ f k i r := by
  obtain ⟨a, r, rfl, h⟩ := hpop_s h
  rcases a with x | ⟨k, _ | i⟩ | x
  · exact h.elim
  · exact h.elim
  · exact ⟨k, i, r, rfl, h⟩
  · exact h.elim
theorem popL_s {l : List HV} {f : Int64 → List HV → Prop} (h : popL l f) : ∃ x r, l = HL x :: r ∧ f x r := by
  obtain ⟨a, r, rfl, h⟩ := hpop_s h
  rcases a with x | ⟨k, o⟩ | x
  · exact h.elim
  · exact h.elim
  · exact ⟨x, r, rfl, h⟩
theorem pop1_s {l : List HV} {f : HV → List HV → Prop} (h : pop1 l f) : ∃ a r, l = a :: r ∧ (∀ g, (toV g a).category = 1) ∧ f a r := by
  obtain ⟨a, r, rfl, h⟩ := hpop_s h
  rcases a with x | ⟨k, _ | i⟩ | x
  · exact ⟨_, r, rfl, fun _ => rfl, h⟩
  · exact ⟨_, r, rfl, fun _ => rfl, h⟩
  · exact ⟨_, r, rfl, fun _ => rfl, h⟩
  · exact h.elim
theorem hget_s {o : Option HV} {f : HV → Prop} (h : hget o f) : ∃ v, o = some v ∧ f v := by
  cases o with
  | none => exact h.elim
  | some v => exact ⟨v, rfl, h⟩
theorem hpI_s {v : HV} {f : Int32 → Prop} (h : hpI v f) : ∃ x, v = HI x ∧ f x := by
  rcases v with x | ⟨k, o⟩ | x
  · exact ⟨x, rfl, h⟩
  · exact h.elim
  · exact h.elim
theorem hpO_s {v : HV} {f : Nat → Option Nat → Prop} (h : hpO v f) : ∃ k o, v = HO k o ∧ f k o := by
  rcases v with x | ⟨k, o⟩ | x
  · exact h.elim
  · exact ⟨k, o, rfl, h⟩
  · exact h.elim
theorem hnil_s {l : List HV} {P : Prop} (h : hnil l P) : l = [] ∧ P := by
  cases l with
  | nil => exact ⟨rfl, h⟩
  | cons a r => exact h.elim
theorem bif_s {b : Bool} {P : Prop} (h : bif b then P else False) : b = true ∧ P := by
  cases b with
  | true => exact ⟨rfl, h⟩
  | false => exact h.elim
/-- locals -/
def asl (g : HA) : Nat → HLs → List (Nat × Value)
  | _, [] => []
  | n, none :: r => asl g (n + 1) r
  | n, some v :: r => (n, toV g v) :: asl g (n + 1) r
theorem asl_mem {g : HA} : ∀ {ls : HLs} {n j : Nat} {v : HV}, lkp ls j = some v → (n + j, toV g v) ∈ asl g n ls
  | [], n, j, v, h => by simp [lkp] at h
  | a :: r, n, 0, v, h => by
    simp [lkp] at h
    subst h
    simp [asl]
  | a :: r, n, j + 1, v, h => by
    have h2 := asl_mem (g := g) (ls := r) (n := n + 1) (j := j) (v := v) (by simpa [lkp] using h)
    have e : n + 1 + j = n + (j + 1) := by omega
    rw [e] at h2
    cases a with
    | none => simpa [asl] using h2
    | some b => exact List.mem_cons_of_mem _ h2
theorem asl_of {g : HA} : ∀ {ls : HLs} {n : Nat} {q : Nat × Value}, q ∈ asl g n ls → ∃ j v, lkp ls j = some v ∧ q = (n + j, toV g v)
  | [], n, q, h => by simp [asl] at h
  | none :: r, n, q, h => by
    obtain ⟨j, v, h1, h2⟩ := asl_of (g := g) (ls := r) (n := n + 1) (by simpa [asl] using h)
    exact ⟨j + 1, v, by simpa [lkp] using h1, by rw [h2]; congr 1; omega⟩
  | some b :: r, n, q, h => by
    rcases List.mem_cons.mp h with h | h
    · exact ⟨0, b, rfl, h⟩
    · obtain ⟨j, v, h1, h2⟩ := asl_of (g := g) (ls := r) (n := n + 1) h
      exact ⟨j + 1, v, by simpa [lkp] using h1, by rw [h2]; congr 1; omega⟩
theorem lkp_set : ∀ {ls : HLs} {i j : Nat} {x : Option HV} {v : HV}, lkp (ls.set i x) j = some v → (j = i ∧ x = some v) ∨ (j ≠ i ∧ lkp ls j = some v)
  | [], i, j, x, v, h => by simp [lkp] at h
  | a :: r, 0, 0, x, v, h => by simp [lkp] at h; exact Or.inl ⟨rfl, h⟩
  | a :: r, 0, j + 1, x, v, h => by simp [lkp] at h; exact Or.inr ⟨by omega, by simpa [lkp] using h⟩
  | a :: r, i + 1, 0, x, v, h => by simp [lkp] at h; exact Or.inr ⟨by omega, by simpa [lkp] using h⟩
  | a :: r, i + 1, j + 1, x, v, h => by
    have h1 : lkp (r.set i x) j = some v := by simpa [lkp] using h
    rcases lkp_set h1 with ⟨e, h2⟩ | ⟨e, h2⟩
    · exact Or.inl ⟨by omega, h2⟩
    · exact Or.inr ⟨by omega, by simpa [lkp] using h2⟩
def LsOK (g : HA) (w : HW) (nL : Nat) (ls : HLs) (la : Array Slot) : Prop := lv_has la nL (asl g 0 ls) ∧ ∀ j v, lkp ls j = some v → VLv w v ∧ (toV g v).category = 1
theorem LsOK.at {g : HA} {w : HW} {nL : Nat} {ls : HLs} {la : Array Slot} (h : LsOK g w nL ls la) {i : Nat} {v : HV} (hv : lkp ls i = some v) : la[i]? = some (.val (toV g v)) := by
  have h1 := h.1.2.2 (0 + i, toV g v) (asl_mem hv)
  rw [Nat.zero_add] at h1
  exact h1
theorem LsOK.store {g : HA} {w : HW} {nL : Nat} {ls : HLs} {la la' : Array Slot} (h : LsOK g w nL ls la) {i : Nat} {v : HV} (hv : VLv w v) (hc : (toV g v).category = 1) (hn : lv_has la' nL ((i, toV g v) :: (asl g 0 ls).filter (fun q => !(q.1 == i) && !(q.1 + 1 == i && q.2.category == 2)))) : LsOK g w nL (ls.set i (some v)) la' := by
  refine ⟨⟨hn.1, hn.2.1, fun q hq => ?_⟩, fun j u hu => ?_⟩
  · obtain ⟨j, u, h1, rfl⟩ := asl_of hq
    rw [Nat.zero_add]
    rcases lkp_set h1 with ⟨e, h2⟩ | ⟨e, h2⟩
    · cases h2
      subst e
      exact hn.2.2 _ List.mem_cons_self
    · refine hn.2.2 (j, toV g u) (List.mem_cons_of_mem _ (List.mem_filter.mpr ⟨?_, ?_⟩))
      · have := asl_mem (g := g) (n := 0) h2
        rwa [Nat.zero_add] at this
      · have h3 := (h.2 j u h2).2
        simp [e, h3]
  · rcases lkp_set hu with ⟨e, h2⟩ | ⟨e, h2⟩
    · cases h2
      exact ⟨hv, hc⟩
    · exact h.2 j u h2
theorem asl_ge {g g' : HA} {w w' : HW} (h : GE g w g' w') : ∀ {ls : HLs} {n : Nat}, (∀ j v, lkp ls j = some v → VLv w v) → asl g' n ls = asl g n ls
  | [], _, _ => rfl
  | none :: r, n, hs => asl_ge h (ls := r) (n := n + 1) (fun j v hv => hs (j + 1) v (by simpa [lkp] using hv))
  | some b :: r, n, hs => by
    have h1 := (toV_ge h (hs 0 b rfl)).1
    have h2 := asl_ge h (ls := r) (n := n + 1) (fun j v hv => hs (j + 1) v (by simpa [lkp] using hv))
    simp only [asl, h1, h2]
theorem LsOK.ge {g g' : HA} {w w' : HW} {nL : Nat} {ls : HLs} {la : Array Slot} (hl : LsOK g w nL ls la) (h : GE g w g' w') : LsOK g' w' nL ls la := by
  refine ⟨?_, fun j v hv => ?_⟩
  · rw [asl_ge h fun j v hv => (hl.2 j v hv).1]
    exact hl.1
  · have h1 := toV_ge h (hl.2 j v hv).1
    exact ⟨h1.2, by rw [h1.1]; exact (hl.2 j v hv).2⟩
/-- what the machine's state at a place of a method is, in abstract words; it comes to a state with Q -/
def Wat (p : Program) (l : Launch) (e : Env) (R : Room) (s : State) (m : MethodId) (args : Array Value) (below : List Frame) (meth : Method) (c : Code) (cells slots : Nat) (Q : State → Prop) (G : HG) (A : Nat → Prop) (g0 : HA) (w0 : HW) (nL : Nat) (pc : Nat) (ls : HLs) (st : List HV) (w : HW) (σ : HS) : Prop :=
  ∀ (g : HA) (H : Heap) (locs : List Loc) (la : Array Slot), GE g0 w0 g w → RepS G A g w σ H → va_S A s.heap H locs → LsOK g w nL ls la → (∀ v ∈ st, VLv w v) → W p l e R s m args below meth c H locs cells slots Q (F0 m pc la (st.map (toV g)))
def slen : List Nat := [2, 3, 3, 4, 3, 2]
def sbyt : List (List Int32) := [[105, 110], [102, 97, 114], [97, 110, 100], [108, 111, 110, 103], [110, 111, 116], [111, 114]]
def SRf (G : HG) (U : State) : Prop := vk_R RX5 35 "in" (G.2.2.1 0) U ∧ vk_R RX5 65 "far" (G.2.2.1 1) U ∧ vk_R RX5 73 "and" (G.2.2.1 2) U ∧ vk_R RX5 78 "long" (G.2.2.1 3) U ∧ vk_R RX5 83 "not" (G.2.2.1 4) U ∧ vk_R RX5 88 "or" (G.2.2.1 5) U
def QQ (G : HG) (A : Nat → Prop) (g : HA) (w : HW) (K : HRt) : Array Value → State → Outcome → State → Prop := fun _ st oc t => (∃ (r : Option HV) (w' : HW) (σ' : HS) (g' : HA), oc = .returned (r.map (toV g')) ∧ K r w' σ' ∧ GE g w g' w' ∧ (∀ v, r = some v → VLv w' v) ∧ RepS G A g' w' σ' t.heap) ∧ va_F A st t
def HCx (p : Program) (_ : Launch) (_ : Env) (R : Room) (s : State) (m : MethodId) (args : Array Value) (below : List Frame) (meth : Method) (c : Code) (cells slots mc ms : Nat) (Q : State → Prop) (G : HG) (A : Nat → Prop) (g0 : HA) (w0 : HW) (q : HRt) (cc : ByteArray) (own : String) (nL : Nat) (ret : Option FieldType) (lv : Nat) : Prop :=
  p.tables.exec = Jvm.exec ∧ c.code = cc ∧ c.maxLocals = nL ∧ s.vm.findClass own = some m.cls ∧ (∀ x ∈ TT, x.before args s = true) ∧ va_K G.1 vwCl (tysG G) s ∧ meth.sig.returnType = ret ∧ meth.locks = false ∧ vk_S 6 slen sbyt G.2.2.1 G.2.2.2 A s s.heap ∧ SRf G s ∧ (∀ q, s.heap.size ≤ q → A q) ∧ (lv ≤ R.frames ∧ 30 * lv ≤ R.locals) ∧ (cells ≤ R.cells ∧ slots ≤ R.slots) ∧ (cells ≤ mc ∧ slots ≤ ms) ∧ (∀ v w σ, q v w σ → Q = MQ below (QQ G A g0 w0 q) args s mc ms A)
def HOK (cc : ByteArray) (own : String) (nL : Nat) (ret : Option FieldType) (lv : Nat) (pc : Nat) (op : HOp) : Prop :=
  ∀ (p : Program) (l : Launch) (e : Env) (R : Room) (s : State) (m : MethodId) (args : Array Value) (below : List Frame) (meth : Method) (c : Code) (cells slots mc ms : Nat) (Q : State → Prop) (G : HG) (A : Nat → Prop) (g0 : HA) (w0 : HW) (q : HRt),
    HCx p l e R s m args below meth c cells slots mc ms Q G A g0 w0 q cc own nL ret lv →
    ∀ k : HK, (∀ pc' ls st w σ, k pc' ls st w σ → Wat p l e R s m args below meth c cells slots Q G A g0 w0 nL pc' ls st w σ) → ∀ ls st w σ, op k q ls st w σ → Wat p l e R s m args below meth c cells slots Q G A g0 w0 nL pc ls st w σ
def o_bad : HOp := fun _ _ _ _ _ _ => False
def o_iload (i nx : Nat) : HOp := fun k _ ls st w σ => hget (lkp ls i) fun v => hpI v fun x => k nx ls (HI x :: st) w σ
def o_aload (i nx : Nat) : HOp := fun k _ ls st w σ => hget (lkp ls i) fun v => hpO v fun kd o => k nx ls (HO kd o :: st) w σ
def o_const (v : Int32) (nx : Nat) : HOp := fun k _ ls st w σ => k nx ls (HI v :: st) w σ
def o_null (kd nx : Nat) : HOp := fun k _ ls st w σ => k nx ls (HO kd none :: st) w σ
def o_istore (i nx : Nat) : HOp := fun k _ ls st w σ => popI st fun x r => k nx (ls.set i (some (HI x))) r w σ
def o_astore (i nx : Nat) : HOp := fun k _ ls st w σ => popO st fun kd o r => k nx (ls.set i (some (HO kd o))) r w σ
def o_iinc (i : Nat) (d : Int32) (nx : Nat) : HOp := fun k _ ls st w σ => hget (lkp ls i) fun v => hpI v fun x => k nx (ls.set i (some (HI (x + d)))) st w σ
def o_bin (f : Int32 → Int32 → Int32) (nx : Nat) : HOp := fun k _ ls st w σ => popI st fun y r => popI r fun x r => k nx ls (HI (f x y) :: r) w σ
def o_un (f : Int32 → Int32) (nx : Nat) : HOp := fun k _ ls st w σ => popI st fun x r => k nx ls (HI (f x) :: r) w σ
def o_dv (f : Int32 → Int32 → Int32) (nx : Nat) : HOp := fun k _ ls st w σ => popI st fun y r => popI r fun x r => ¬ y = 0 ∧ k nx ls (HI (f x y) :: r) w σ
def o_if (c : Int32 → Prop) (t1 t2 : Nat) : HOp := fun k _ ls st w σ => popI st fun x r => (c x → k t1 ls r w σ) ∧ (¬ c x → k t2 ls r w σ)
def o_icmp (c : Int32 → Int32 → Prop) (t1 t2 : Nat) : HOp := fun k _ ls st w σ => popI st fun y r => popI r fun x r => (c x y → k t1 ls r w σ) ∧ (¬ c x y → k t2 ls r w σ)
def o_goto (t : Nat) : HOp := fun k _ ls st w σ => k t ls st w σ
def o_ifnull (t nx : Nat) : HOp := fun k _ ls st w σ => popO st fun _ o r => hopt o (k t ls r w σ) (k nx ls r w σ)
def o_dup (nx : Nat) : HOp := fun k _ ls st w σ => pop1 st fun v r => k nx ls (v :: v :: r) w σ
def o_pop (nx : Nat) : HOp := fun k _ ls st w σ => pop1 st fun _ r => k nx ls r w σ
def o_dupx1 (nx : Nat) : HOp := fun k _ ls st w σ => pop1 st fun a r => pop1 r fun b r => k nx ls (a :: b :: a :: r) w σ
def o_dup2 (nx : Nat) : HOp := fun k _ ls st w σ => pop1 st fun a r => pop1 r fun b r => k nx ls (a :: b :: a :: b :: r) w σ
def o_getf (kd f nx : Nat) : HOp := fun k _ ls st w σ => popR st fun kk i r => bif Nat.beq kk kd then k nx ls (fld w σ kd i f :: r) w σ else False
/-- a field whose reference is not known beforehand -/
def o_getq (kd f t nx : Nat) : HOp := fun k _ ls st w σ => popR st fun kk _ r => bif Nat.beq kk kd then (∀ o, w.2 kd 0 = o → k nx ls (HO t o :: r) w σ) else False
def o_putf (kd f nx : Nat) : HOp := fun k _ ls st w σ => popI st fun v r => popR r fun kk i r => bif Nat.beq kk kd then k nx ls r w (up3 σ kd i f v) else False
def o_putz (kd f nx : Nat) : HOp := fun k _ ls st w σ => popI st fun v r => popR r fun kk i r => bif Nat.beq kk kd then (v = 0 ∨ v = 1) ∧ k nx ls r w (up3 σ kd i f v) else False
def o_alen (nx : Nat) : HOp := fun k _ ls st w σ => popR st fun kk i r => bif Nat.ble 12 kk && Nat.ble kk 21 then k nx ls (HI (nI (al kk i)) :: r) w σ else False
def o_iald (nx : Nat) : HOp := fun k _ ls st w σ => popI st fun j r => popR r fun kk i r => bif Nat.beq kk 13 || Nat.beq kk 20 then vp_in j (al kk i) ∧ k nx ls (HI (σ kk i j.toNatClampNeg) :: r) w σ else False
def o_bald (nx : Nat) : HOp := fun k _ ls st w σ => popI st fun j r => popR r fun kk i r => bif Nat.beq kk 12 || Nat.beq kk 21 then vp_in j (al kk i) ∧ k nx ls (HI (σ kk i j.toNatClampNeg) :: r) w σ else False
def o_aald (nx : Nat) : HOp := fun k _ ls st w σ => popI st fun j r => popR r fun kk i r => bif isRA kk then vp_in j (al kk i) ∧ (∀ o, w.2 kk j.toNatClampNeg = o → k nx ls (HO (ek kk) o :: r) w σ) else False
def o_iast (nx : Nat) : HOp := fun k _ ls st w σ => popI st fun v r => popI r fun j r => popR r fun kk i r => bif Nat.beq kk 13 || Nat.beq kk 20 then vp_in j (al kk i) ∧ k nx ls r w (up3 σ kk i j.toNatClampNeg v) else False
def o_bast (nx : Nat) : HOp := fun k _ ls st w σ => popI st fun v r => popI r fun j r => popR r fun kk i r => bif Nat.beq kk 12 then vp_in j (al kk i) ∧ k nx ls r w (up3 σ kk i j.toNatClampNeg v.toInt8.toInt32) else False
def o_zast (nx : Nat) : HOp := fun k _ ls st w σ => popI st fun v r => popI r fun j r => popR r fun kk i r => bif Nat.beq kk 21 then (v = 0 ∨ v = 1) ∧ vp_in j (al kk i) ∧ k nx ls r w (up3 σ kk i j.toNatClampNeg v) else False
def o_iret : HOp := fun _ q _ st w σ => popI st fun v r => hnil r (q (some (HI v)) w σ)
def o_zret : HOp := fun _ q _ st w σ => popI st fun v r => hnil r ((v = 0 ∨ v = 1) ∧ q (some (HI v)) w σ)
def o_aret : HOp := fun _ q _ st w σ => popO st fun kd o r => hnil r (q (some (HO kd o)) w σ)
def o_vret : HOp := fun _ q _ st w σ => hnil st (q none w σ)
def o_call (n : Nat) (sp : HSp) (nx : Nat) : HOp := fun k _ ls st w σ => sp (st.take n).reverse w σ fun r w' σ' => k nx ls (r.toList ++ st.drop n) w' σ'
def swc (k : Nat → Prop) (d : Nat) (x : Int32) : List (Int32 × Nat) → Prop
  | [] => k d
  | q :: r => (x = q.1 → k q.2) ∧ (¬ x = q.1 → swc k d x r)
def o_sw (ps : List (Int32 × Nat)) (d : Nat) : HOp := fun k _ ls st w σ => popI st fun x r => swc (fun t => k t ls r w σ) d x ps
def o_i2l (nx : Nat) : HOp := fun k _ ls st w σ => popI st fun x r => k nx ls (HL x.toInt64 :: r) w σ
def o_ladd (nx : Nat) : HOp := fun k _ ls st w σ => popL st fun y r => popL r fun x r => k nx ls (HL (x + y) :: r) w σ
theorem ok_bad {cc : ByteArray} {own : String} {nL : Nat} {ret : Option FieldType} {lv pc : Nat} : HOK cc own nL ret lv pc o_bad := fun _ _ _ _ _ _ _ _ _ _ _ _ _ _ _ _ _ _ _ _ _ _ _ _ _ _ _ h => h.elim
end
section
/-! OUR FRAME, 3: each instruction's step is sound -/
theorem ok_iload {cc : ByteArray} {own : String} {nL : Nat} {ret : Option FieldType} {lv pc : Nat} {i nx : Nat} (hd : decode cc pc = .ok (.iload i, 2)) (hn : pc + 2 = nx) : HOK cc own nL ret lv pc (o_iload i nx) := by
  intro p l e R s m args below meth c cells slots mc ms Q G A g0 w0 q C k hk ls st w σ ho
  obtain ⟨hx, hb, hml, hown, hts, hK, hr, hlk, hZ, hSR, hA, hlv, hcs, hcm, hQ⟩ := C
  subst hn
  intro g H locs la hge hR hS hL hst
  obtain ⟨v, hv, ho⟩ := hget_s ho
  obtain ⟨x, rfl, ho⟩ := hpI_s ho
  exact lv_iload hx hb hd (hL.at hv) (hk _ _ _ _ _ ho g H locs la hge hR hS hL (fun u hu => (List.mem_cons.mp hu).elim (fun e => e ▸ trivial) (hst u)))
theorem ok_iload_n {cc : ByteArray} {own : String} {nL : Nat} {ret : Option FieldType} {lv pc : Nat} {j : Fin 4} {i nx : Nat} (hd : decode cc pc = .ok (.iload_n j, 1)) (hj : (j : Nat) = i) (hn : pc + 1 = nx) : HOK cc own nL ret lv pc (o_iload i nx) := by
  intro p l e R s m args below meth c cells slots mc ms Q G A g0 w0 q C k hk ls st w σ ho
  obtain ⟨hx, hb, hml, hown, hts, hK, hr, hlk, hZ, hSR, hA, hlv, hcs, hcm, hQ⟩ := C
  subst hn
  intro g H locs la hge hR hS hL hst
  obtain ⟨v, hv, ho⟩ := hget_s ho
  obtain ⟨x, rfl, ho⟩ := hpI_s ho
  exact lv_iload_n hx hb hd hj (hL.at hv) (hk _ _ _ _ _ ho g H locs la hge hR hS hL (fun u hu => (List.mem_cons.mp hu).elim (fun e => e ▸ trivial) (hst u)))
theorem ok_aload {cc : ByteArray} {own : String} {nL : Nat} {ret : Option FieldType} {lv pc : Nat} {i nx : Nat} (hd : decode cc pc = .ok (.aload i, 2)) (hn : pc + 2 = nx) : HOK cc own nL ret lv pc (o_aload i nx) := by
  intro p l e R s m args below meth c cells slots mc ms Q G A g0 w0 q C k hk ls st w σ ho
  obtain ⟨hx, hb, hml, hown, hts, hK, hr, hlk, hZ, hSR, hA, hlv, hcs, hcm, hQ⟩ := C
  subst hn
  intro g H locs la hge hR hS hL hst
  obtain ⟨v, hv, ho⟩ := hget_s ho
  obtain ⟨kd, o, rfl, ho⟩ := hpO_s ho
  have hl := (hL.2 i _ hv).1
  have h2 := hk _ _ _ _ _ ho g H locs la hge hR hS hL (fun u hu => (List.mem_cons.mp hu).elim (fun e => e ▸ hl) (hst u))
  cases o with
  | none => exact lv_aloadN hx hb hd (hL.at hv) h2
  | some z => exact lv_aload hx hb hd (hL.at hv) h2
theorem ok_aload_n {cc : ByteArray} {own : String} {nL : Nat} {ret : Option FieldType} {lv pc : Nat} {j : Fin 4} {i nx : Nat} (hd : decode cc pc = .ok (.aload_n j, 1)) (hj : (j : Nat) = i) (hn : pc + 1 = nx) : HOK cc own nL ret lv pc (o_aload i nx) := by
  intro p l e R s m args below meth c cells slots mc ms Q G A g0 w0 q C k hk ls st w σ ho
  obtain ⟨hx, hb, hml, hown, hts, hK, hr, hlk, hZ, hSR, hA, hlv, hcs, hcm, hQ⟩ := C
  subst hn
  intro g H locs la hge hR hS hL hst
  obtain ⟨v, hv, ho⟩ := hget_s ho
  obtain ⟨kd, o, rfl, ho⟩ := hpO_s ho
  have hl := (hL.2 i _ hv).1
  have h2 := hk _ _ _ _ _ ho g H locs la hge hR hS hL (fun u hu => (List.mem_cons.mp hu).elim (fun e => e ▸ hl) (hst u))
  cases o with
  | none => exact lv_aload_nN hx hb hd hj (hL.at hv) h2
  | some z => exact lv_aload_n hx hb hd hj (hL.at hv) h2
theorem ok_iconst {cc : ByteArray} {own : String} {nL : Nat} {ret : Option FieldType} {lv pc : Nat} {n : Int} {v : Int32} {nx : Nat} (hd : decode cc pc = .ok (.iconst n, 1)) (hv : Int32.ofInt n = v) (hn : pc + 1 = nx) : HOK cc own nL ret lv pc (o_const v nx) := by
  intro p l e R s m args below meth c cells slots mc ms Q G A g0 w0 q C k hk ls st w σ ho
  obtain ⟨hx, hb, hml, hown, hts, hK, hr, hlk, hZ, hSR, hA, hlv, hcs, hcm, hQ⟩ := C
  subst hn
  intro g H locs la hge hR hS hL hst
  exact lv_iconst hx hb hd hv (hk _ _ _ _ _ ho g H locs la hge hR hS hL (fun u hu => (List.mem_cons.mp hu).elim (fun e => e ▸ trivial) (hst u)))
theorem ok_bipush {cc : ByteArray} {own : String} {nL : Nat} {ret : Option FieldType} {lv pc : Nat} {n : Int} {v : Int32} {nx : Nat} (hd : decode cc pc = .ok (.bipush n, 2)) (hv : (Int8.ofInt n).toInt32 = v) (hn : pc + 2 = nx) : HOK cc own nL ret lv pc (o_const v nx) := by
  intro p l e R s m args below meth c cells slots mc ms Q G A g0 w0 q C k hk ls st w σ ho
  obtain ⟨hx, hb, hml, hown, hts, hK, hr, hlk, hZ, hSR, hA, hlv, hcs, hcm, hQ⟩ := C
  subst hn
  intro g H locs la hge hR hS hL hst
  exact lv_bipush hx hb hd hv (hk _ _ _ _ _ ho g H locs la hge hR hS hL (fun u hu => (List.mem_cons.mp hu).elim (fun e => e ▸ trivial) (hst u)))
theorem ok_sipush {cc : ByteArray} {own : String} {nL : Nat} {ret : Option FieldType} {lv pc : Nat} {n : Int} {v : Int32} {nx : Nat} (hd : decode cc pc = .ok (.sipush n, 3)) (hv : (Int16.ofInt n).toInt32 = v) (hn : pc + 3 = nx) : HOK cc own nL ret lv pc (o_const v nx) := by
  intro p l e R s m args below meth c cells slots mc ms Q G A g0 w0 q C k hk ls st w σ ho
  obtain ⟨hx, hb, hml, hown, hts, hK, hr, hlk, hZ, hSR, hA, hlv, hcs, hcm, hQ⟩ := C
  subst hn
  intro g H locs la hge hR hS hL hst
  exact lv_sipush hx hb hd hv (hk _ _ _ _ _ ho g H locs la hge hR hS hL (fun u hu => (List.mem_cons.mp hu).elim (fun e => e ▸ trivial) (hst u)))
theorem ok_ldc {cc : ByteArray} {own : String} {nL : Nat} {ret : Option FieldType} {lv pc : Nat} {ix : Nat} {v : Int32} {nx : Nat} (hd : decode cc pc = .ok (.ldc ix, 2)) (hw : Cond.constant own ix v ∈ TT) (hn : pc + 2 = nx) : HOK cc own nL ret lv pc (o_const v nx) := by
  intro p l e R s m args below meth c cells slots mc ms Q G A g0 w0 q C k hk ls st w σ ho
  obtain ⟨hx, hb, hml, hown, hts, hK, hr, hlk, hZ, hSR, hA, hlv, hcs, hcm, hQ⟩ := C
  subst hn
  intro g H locs la hge hR hS hL hst
  exact lv_ldc hx hb hown (hts _ hw) hd (hk _ _ _ _ _ ho g H locs la hge hR hS hL (fun u hu => (List.mem_cons.mp hu).elim (fun e => e ▸ trivial) (hst u)))
theorem ok_ldcw {cc : ByteArray} {own : String} {nL : Nat} {ret : Option FieldType} {lv pc : Nat} {ix : Nat} {v : Int32} {nx : Nat} (hd : decode cc pc = .ok (.ldc_w ix, 3)) (hw : Cond.constant own ix v ∈ TT) (hn : pc + 3 = nx) : HOK cc own nL ret lv pc (o_const v nx) := by
  intro p l e R s m args below meth c cells slots mc ms Q G A g0 w0 q C k hk ls st w σ ho
  obtain ⟨hx, hb, hml, hown, hts, hK, hr, hlk, hZ, hSR, hA, hlv, hcs, hcm, hQ⟩ := C
  subst hn
  intro g H locs la hge hR hS hL hst
  exact lv_ldcw hx hb hown (hts _ hw) hd (hk _ _ _ _ _ ho g H locs la hge hR hS hL (fun u hu => (List.mem_cons.mp hu).elim (fun e => e ▸ trivial) (hst u)))
theorem ok_null {cc : ByteArray} {own : String} {nL : Nat} {ret : Option FieldType} {lv pc : Nat} {kd nx : Nat} (hd : decode cc pc = .ok (.aconst_null, 1)) (hn : pc + 1 = nx) : HOK cc own nL ret lv pc (o_null kd nx) := by
  intro p l e R s m args below meth c cells slots mc ms Q G A g0 w0 q C k hk ls st w σ ho
  obtain ⟨hx, hb, hml, hown, hts, hK, hr, hlk, hZ, hSR, hA, hlv, hcs, hcm, hQ⟩ := C
  subst hn
  intro g H locs la hge hR hS hL hst
  exact lv_null hx hb hd (hk _ _ _ _ _ ho g H locs la hge hR hS hL (fun u hu => (List.mem_cons.mp hu).elim (fun e => e ▸ trivial) (hst u)))
theorem ok_istore {cc : ByteArray} {own : String} {nL : Nat} {ret : Option FieldType} {lv pc : Nat} {i nx : Nat} (hd : decode cc pc = .ok (.istore i, 2)) (hi : i < nL) (hn : pc + 2 = nx) : HOK cc own nL ret lv pc (o_istore i nx) := by
  intro p l e R s m args below meth c cells slots mc ms Q G A g0 w0 q C k hk ls st w σ ho
  obtain ⟨hx, hb, hml, hown, hts, hK, hr, hlk, hZ, hSR, hA, hlv, hcs, hcm, hQ⟩ := C
  subst hn
  intro g H locs la hge hR hS hL hst
  obtain ⟨x, r, rfl, ho⟩ := popI_s ho
  exact lv_istore hx hb hd hL.1 hi rfl fun la' h' => hk _ _ _ _ _ ho g H locs la' hge hR hS (hL.store (v := HI x) trivial rfl h') (fun u hu => hst u (List.mem_cons_of_mem _ hu))
theorem ok_istore_n {cc : ByteArray} {own : String} {nL : Nat} {ret : Option FieldType} {lv pc : Nat} {j : Fin 4} {i nx : Nat} (hd : decode cc pc = .ok (.istore_n j, 1)) (hj : (j : Nat) = i) (hi : i < nL) (hn : pc + 1 = nx) : HOK cc own nL ret lv pc (o_istore i nx) := by
  intro p l e R s m args below meth c cells slots mc ms Q G A g0 w0 q C k hk ls st w σ ho
  obtain ⟨hx, hb, hml, hown, hts, hK, hr, hlk, hZ, hSR, hA, hlv, hcs, hcm, hQ⟩ := C
  subst hn
  intro g H locs la hge hR hS hL hst
  obtain ⟨x, r, rfl, ho⟩ := popI_s ho
  exact lv_istore_n hx hb hd hj hL.1 hi rfl fun la' h' => hk _ _ _ _ _ ho g H locs la' hge hR hS (hL.store (v := HI x) trivial rfl h') (fun u hu => hst u (List.mem_cons_of_mem _ hu))
theorem ok_astore {cc : ByteArray} {own : String} {nL : Nat} {ret : Option FieldType} {lv pc : Nat} {i nx : Nat} (hd : decode cc pc = .ok (.astore i, 2)) (hi : i < nL) (hn : pc + 2 = nx) : HOK cc own nL ret lv pc (o_astore i nx) := by
  intro p l e R s m args below meth c cells slots mc ms Q G A g0 w0 q C k hk ls st w σ ho
  obtain ⟨hx, hb, hml, hown, hts, hK, hr, hlk, hZ, hSR, hA, hlv, hcs, hcm, hQ⟩ := C
  subst hn
  intro g H locs la hge hR hS hL hst
  obtain ⟨kd, o, r, rfl, ho⟩ := popO_s ho
  have hl := hst _ List.mem_cons_self
  cases o with
  | none => exact lv_astoreN hx hb hd hL.1 hi rfl fun la' h' => hk _ _ _ _ _ ho g H locs la' hge hR hS (hL.store (v := HO kd none) hl rfl h') (fun u hu => hst u (List.mem_cons_of_mem _ hu))
  | some z => exact lv_astore hx hb hd hL.1 hi rfl fun la' h' => hk _ _ _ _ _ ho g H locs la' hge hR hS (hL.store (v := HR kd z) hl rfl h') (fun u hu => hst u (List.mem_cons_of_mem _ hu))
theorem ok_astore_n {cc : ByteArray} {own : String} {nL : Nat} {ret : Option FieldType} {lv pc : Nat} {j : Fin 4} {i nx : Nat} (hd : decode cc pc = .ok (.astore_n j, 1)) (hj : (j : Nat) = i) (hi : i < nL) (hn : pc + 1 = nx) : HOK cc own nL ret lv pc (o_astore i nx) := by
  intro p l e R s m args below meth c cells slots mc ms Q G A g0 w0 q C k hk ls st w σ ho
  obtain ⟨hx, hb, hml, hown, hts, hK, hr, hlk, hZ, hSR, hA, hlv, hcs, hcm, hQ⟩ := C
  subst hn
  intro g H locs la hge hR hS hL hst
  obtain ⟨kd, o, r, rfl, ho⟩ := popO_s ho
  have hl := hst _ List.mem_cons_self
  cases o with
  | none => exact lv_astore_nN hx hb hd hj hL.1 hi rfl fun la' h' => hk _ _ _ _ _ ho g H locs la' hge hR hS (hL.store (v := HO kd none) hl rfl h') (fun u hu => hst u (List.mem_cons_of_mem _ hu))
  | some z => exact lv_astore_n hx hb hd hj hL.1 hi rfl fun la' h' => hk _ _ _ _ _ ho g H locs la' hge hR hS (hL.store (v := HR kd z) hl rfl h') (fun u hu => hst u (List.mem_cons_of_mem _ hu))
theorem asl_idx {g : HA} {ls : HLs} {i : Nat} {v : HV} (h : lkp ls i = some v) : ∃ k : Nat, (asl g 0 ls)[k]? = some (i, toV g v) := by
  have h1 := asl_mem (g := g) (n := 0) h
  rw [Nat.zero_add] at h1
  exact List.getElem?_of_mem h1
theorem ok_iinc {cc : ByteArray} {own : String} {nL : Nat} {ret : Option FieldType} {lv pc : Nat} {i nx : Nat} {n : Int} {d : Int32} (hd : decode cc pc = .ok (.iinc i n, 3)) (hdd : Int32.ofInt n = d) (hi : i < nL) (hn : pc + 3 = nx) : HOK cc own nL ret lv pc (o_iinc i d nx) := by
  intro p l e R s m args below meth c cells slots mc ms Q G A g0 w0 q C k hk ls st w σ ho
  obtain ⟨hx, hb, hml, hown, hts, hK, hr, hlk, hZ, hSR, hA, hlv, hcs, hcm, hQ⟩ := C
  subst hn
  intro g H locs la hge hR hS hL hst
  obtain ⟨v, hv, ho⟩ := hget_s ho
  obtain ⟨x, rfl, ho⟩ := hpI_s ho
  obtain ⟨kx, hkx⟩ := asl_idx (g := g) hv
  exact lv_iinc hx hb hd hL.1 hkx (by rw [hdd]) hi rfl fun la' h' => hk _ _ _ _ _ ho g H locs la' hge hR hS (hL.store (v := HI (x + d)) trivial rfl h') hst
theorem ok_iadd {cc : ByteArray} {own : String} {nL : Nat} {ret : Option FieldType} {lv pc : Nat} {nx : Nat} (hd : decode cc pc = .ok (.iadd, 1)) (hn : pc + 1 = nx) : HOK cc own nL ret lv pc (o_bin (fun x y => x + y) nx) := by
  intro p l e R s m args below meth c cells slots mc ms Q G A g0 w0 q C k hk ls st w σ ho
  obtain ⟨hx, hb, hml, hown, hts, hK, hr, hlk, hZ, hSR, hA, hlv, hcs, hcm, hQ⟩ := C
  subst hn
  intro g H locs la hge hR hS hL hst
  obtain ⟨y, r0, rfl, ho1⟩ := popI_s ho
  obtain ⟨x, r, rfl, ho⟩ := popI_s ho1
  exact lv_iadd hx hb hd (hk _ _ _ _ _ ho g H locs la hge hR hS hL (fun u hu => (List.mem_cons.mp hu).elim (fun e => e ▸ trivial) (fun h => hst u (List.mem_cons_of_mem _ (List.mem_cons_of_mem _ h)))))
theorem ok_isub {cc : ByteArray} {own : String} {nL : Nat} {ret : Option FieldType} {lv pc : Nat} {nx : Nat} (hd : decode cc pc = .ok (.isub, 1)) (hn : pc + 1 = nx) : HOK cc own nL ret lv pc (o_bin (fun x y => x - y) nx) := by
  intro p l e R s m args below meth c cells slots mc ms Q G A g0 w0 q C k hk ls st w σ ho
  obtain ⟨hx, hb, hml, hown, hts, hK, hr, hlk, hZ, hSR, hA, hlv, hcs, hcm, hQ⟩ := C
  subst hn
  intro g H locs la hge hR hS hL hst
  obtain ⟨y, r0, rfl, ho1⟩ := popI_s ho
  obtain ⟨x, r, rfl, ho⟩ := popI_s ho1
  exact lv_isub hx hb hd (hk _ _ _ _ _ ho g H locs la hge hR hS hL (fun u hu => (List.mem_cons.mp hu).elim (fun e => e ▸ trivial) (fun h => hst u (List.mem_cons_of_mem _ (List.mem_cons_of_mem _ h)))))
theorem ok_imul {cc : ByteArray} {own : String} {nL : Nat} {ret : Option FieldType} {lv pc : Nat} {nx : Nat} (hd : decode cc pc = .ok (.imul, 1)) (hn : pc + 1 = nx) : HOK cc own nL ret lv pc (o_bin (fun x y => x * y) nx) := by
  intro p l e R s m args below meth c cells slots mc ms Q G A g0 w0 q C k hk ls st w σ ho
  obtain ⟨hx, hb, hml, hown, hts, hK, hr, hlk, hZ, hSR, hA, hlv, hcs, hcm, hQ⟩ := C
  subst hn
  intro g H locs la hge hR hS hL hst
  obtain ⟨y, r0, rfl, ho1⟩ := popI_s ho
  obtain ⟨x, r, rfl, ho⟩ := popI_s ho1
  exact lv_imul hx hb hd (hk _ _ _ _ _ ho g H locs la hge hR hS hL (fun u hu => (List.mem_cons.mp hu).elim (fun e => e ▸ trivial) (fun h => hst u (List.mem_cons_of_mem _ (List.mem_cons_of_mem _ h)))))
theorem ok_iand {cc : ByteArray} {own : String} {nL : Nat} {ret : Option FieldType} {lv pc : Nat} {nx : Nat} (hd : decode cc pc = .ok (.iand, 1)) (hn : pc + 1 = nx) : HOK cc own nL ret lv pc (o_bin (fun x y => x &&& y) nx) := by
  intro p l e R s m args below meth c cells slots mc ms Q G A g0 w0 q C k hk ls st w σ ho
  obtain ⟨hx, hb, hml, hown, hts, hK, hr, hlk, hZ, hSR, hA, hlv, hcs, hcm, hQ⟩ := C
  subst hn
  intro g H locs la hge hR hS hL hst
  obtain ⟨y, r0, rfl, ho1⟩ := popI_s ho
  obtain ⟨x, r, rfl, ho⟩ := popI_s ho1
  exact lv_iand hx hb hd (hk _ _ _ _ _ ho g H locs la hge hR hS hL (fun u hu => (List.mem_cons.mp hu).elim (fun e => e ▸ trivial) (fun h => hst u (List.mem_cons_of_mem _ (List.mem_cons_of_mem _ h)))))
theorem ok_ior {cc : ByteArray} {own : String} {nL : Nat} {ret : Option FieldType} {lv pc : Nat} {nx : Nat} (hd : decode cc pc = .ok (.ior, 1)) (hn : pc + 1 = nx) : HOK cc own nL ret lv pc (o_bin (fun x y => x ||| y) nx) := by
  intro p l e R s m args below meth c cells slots mc ms Q G A g0 w0 q C k hk ls st w σ ho
  obtain ⟨hx, hb, hml, hown, hts, hK, hr, hlk, hZ, hSR, hA, hlv, hcs, hcm, hQ⟩ := C
  subst hn
  intro g H locs la hge hR hS hL hst
  obtain ⟨y, r0, rfl, ho1⟩ := popI_s ho
  obtain ⟨x, r, rfl, ho⟩ := popI_s ho1
  exact lv_ior hx hb hd (hk _ _ _ _ _ ho g H locs la hge hR hS hL (fun u hu => (List.mem_cons.mp hu).elim (fun e => e ▸ trivial) (fun h => hst u (List.mem_cons_of_mem _ (List.mem_cons_of_mem _ h)))))
theorem ok_ixor {cc : ByteArray} {own : String} {nL : Nat} {ret : Option FieldType} {lv pc : Nat} {nx : Nat} (hd : decode cc pc = .ok (.ixor, 1)) (hn : pc + 1 = nx) : HOK cc own nL ret lv pc (o_bin (fun x y => x ^^^ y) nx) := by
  intro p l e R s m args below meth c cells slots mc ms Q G A g0 w0 q C k hk ls st w σ ho
  obtain ⟨hx, hb, hml, hown, hts, hK, hr, hlk, hZ, hSR, hA, hlv, hcs, hcm, hQ⟩ := C
  subst hn
  intro g H locs la hge hR hS hL hst
  obtain ⟨y, r0, rfl, ho1⟩ := popI_s ho
  obtain ⟨x, r, rfl, ho⟩ := popI_s ho1
  exact lv_ixor hx hb hd (hk _ _ _ _ _ ho g H locs la hge hR hS hL (fun u hu => (List.mem_cons.mp hu).elim (fun e => e ▸ trivial) (fun h => hst u (List.mem_cons_of_mem _ (List.mem_cons_of_mem _ h)))))
theorem ok_ishl {cc : ByteArray} {own : String} {nL : Nat} {ret : Option FieldType} {lv pc : Nat} {nx : Nat} (hd : decode cc pc = .ok (.ishl, 1)) (hn : pc + 1 = nx) : HOK cc own nL ret lv pc (o_bin (fun x y => x <<< (y &&& 31)) nx) := by
  intro p l e R s m args below meth c cells slots mc ms Q G A g0 w0 q C k hk ls st w σ ho
  obtain ⟨hx, hb, hml, hown, hts, hK, hr, hlk, hZ, hSR, hA, hlv, hcs, hcm, hQ⟩ := C
  subst hn
  intro g H locs la hge hR hS hL hst
  obtain ⟨y, r0, rfl, ho1⟩ := popI_s ho
  obtain ⟨x, r, rfl, ho⟩ := popI_s ho1
  exact lv_ishl hx hb hd (hk _ _ _ _ _ ho g H locs la hge hR hS hL (fun u hu => (List.mem_cons.mp hu).elim (fun e => e ▸ trivial) (fun h => hst u (List.mem_cons_of_mem _ (List.mem_cons_of_mem _ h)))))
theorem ok_ishr {cc : ByteArray} {own : String} {nL : Nat} {ret : Option FieldType} {lv pc : Nat} {nx : Nat} (hd : decode cc pc = .ok (.ishr, 1)) (hn : pc + 1 = nx) : HOK cc own nL ret lv pc (o_bin (fun x y => x >>> (y &&& 31)) nx) := by
  intro p l e R s m args below meth c cells slots mc ms Q G A g0 w0 q C k hk ls st w σ ho
  obtain ⟨hx, hb, hml, hown, hts, hK, hr, hlk, hZ, hSR, hA, hlv, hcs, hcm, hQ⟩ := C
  subst hn
  intro g H locs la hge hR hS hL hst
  obtain ⟨y, r0, rfl, ho1⟩ := popI_s ho
  obtain ⟨x, r, rfl, ho⟩ := popI_s ho1
  exact lv_ishr hx hb hd (hk _ _ _ _ _ ho g H locs la hge hR hS hL (fun u hu => (List.mem_cons.mp hu).elim (fun e => e ▸ trivial) (fun h => hst u (List.mem_cons_of_mem _ (List.mem_cons_of_mem _ h)))))
theorem ok_iushr {cc : ByteArray} {own : String} {nL : Nat} {ret : Option FieldType} {lv pc : Nat} {nx : Nat} (hd : decode cc pc = .ok (.iushr, 1)) (hn : pc + 1 = nx) : HOK cc own nL ret lv pc (o_bin (fun x y => (x.toUInt32 >>> (y.toUInt32 &&& Int32.toUInt32 31)).toInt32) nx) := by
  intro p l e R s m args below meth c cells slots mc ms Q G A g0 w0 q C k hk ls st w σ ho
  obtain ⟨hx, hb, hml, hown, hts, hK, hr, hlk, hZ, hSR, hA, hlv, hcs, hcm, hQ⟩ := C
  subst hn
  intro g H locs la hge hR hS hL hst
  obtain ⟨y, r0, rfl, ho1⟩ := popI_s ho
  obtain ⟨x, r, rfl, ho⟩ := popI_s ho1
  exact lv_iushr hx hb hd rfl (hk _ _ _ _ _ ho g H locs la hge hR hS hL (fun u hu => (List.mem_cons.mp hu).elim (fun e => e ▸ trivial) (fun h => hst u (List.mem_cons_of_mem _ (List.mem_cons_of_mem _ h)))))
theorem ok_idiv {cc : ByteArray} {own : String} {nL : Nat} {ret : Option FieldType} {lv pc : Nat} {nx : Nat} (hd : decode cc pc = .ok (.idiv, 1)) (hn : pc + 1 = nx) : HOK cc own nL ret lv pc (o_dv (fun x y => x / y) nx) := by
  intro p l e R s m args below meth c cells slots mc ms Q G A g0 w0 q C k hk ls st w σ ho
  obtain ⟨hx, hb, hml, hown, hts, hK, hr, hlk, hZ, hSR, hA, hlv, hcs, hcm, hQ⟩ := C
  subst hn
  intro g H locs la hge hR hS hL hst
  obtain ⟨y, r0, rfl, ho1⟩ := popI_s ho
  obtain ⟨x, r, rfl, h0, ho⟩ := popI_s ho1
  exact lv_idiv hx hb hd h0 (hk _ _ _ _ _ ho g H locs la hge hR hS hL (fun u hu => (List.mem_cons.mp hu).elim (fun e => e ▸ trivial) (fun h => hst u (List.mem_cons_of_mem _ (List.mem_cons_of_mem _ h)))))
theorem ok_irem {cc : ByteArray} {own : String} {nL : Nat} {ret : Option FieldType} {lv pc : Nat} {nx : Nat} (hd : decode cc pc = .ok (.irem, 1)) (hn : pc + 1 = nx) : HOK cc own nL ret lv pc (o_dv (fun x y => x - x / y * y) nx) := by
  intro p l e R s m args below meth c cells slots mc ms Q G A g0 w0 q C k hk ls st w σ ho
  obtain ⟨hx, hb, hml, hown, hts, hK, hr, hlk, hZ, hSR, hA, hlv, hcs, hcm, hQ⟩ := C
  subst hn
  intro g H locs la hge hR hS hL hst
  obtain ⟨y, r0, rfl, ho1⟩ := popI_s ho
  obtain ⟨x, r, rfl, h0, ho⟩ := popI_s ho1
  exact lv_irem hx hb hd h0 (hk _ _ _ _ _ ho g H locs la hge hR hS hL (fun u hu => (List.mem_cons.mp hu).elim (fun e => e ▸ trivial) (fun h => hst u (List.mem_cons_of_mem _ (List.mem_cons_of_mem _ h)))))
theorem ok_i2b {cc : ByteArray} {own : String} {nL : Nat} {ret : Option FieldType} {lv pc : Nat} {nx : Nat} (hd : decode cc pc = .ok (.i2b, 1)) (hn : pc + 1 = nx) : HOK cc own nL ret lv pc (o_un (fun x => x.toInt8.toInt32) nx) := by
  intro p l e R s m args below meth c cells slots mc ms Q G A g0 w0 q C k hk ls st w σ ho
  obtain ⟨hx, hb, hml, hown, hts, hK, hr, hlk, hZ, hSR, hA, hlv, hcs, hcm, hQ⟩ := C
  subst hn
  intro g H locs la hge hR hS hL hst
  obtain ⟨x, r, rfl, ho⟩ := popI_s ho
  exact lv_i2b hx hb hd rfl (hk _ _ _ _ _ ho g H locs la hge hR hS hL (fun u hu => (List.mem_cons.mp hu).elim (fun e => e ▸ trivial) (fun h => hst u (List.mem_cons_of_mem _ h))))
theorem ok_i2l {cc : ByteArray} {own : String} {nL : Nat} {ret : Option FieldType} {lv pc : Nat} {nx : Nat} (hd : decode cc pc = .ok (.i2l, 1)) (hn : pc + 1 = nx) : HOK cc own nL ret lv pc (o_i2l nx) := by
  intro p l e R s m args below meth c cells slots mc ms Q G A g0 w0 q C k hk ls st w σ ho
  obtain ⟨hx, hb, hml, hown, hts, hK, hr, hlk, hZ, hSR, hA, hlv, hcs, hcm, hQ⟩ := C
  subst hn
  intro g H locs la hge hR hS hL hst
  obtain ⟨x, r, rfl, ho⟩ := popI_s ho
  exact lv_i2l hx hb hd rfl (hk _ _ _ _ _ ho g H locs la hge hR hS hL (fun u hu => (List.mem_cons.mp hu).elim (fun e => e ▸ trivial) (fun h => hst u (List.mem_cons_of_mem _ h))))
theorem ok_ladd {cc : ByteArray} {own : String} {nL : Nat} {ret : Option FieldType} {lv pc : Nat} {nx : Nat} (hd : decode cc pc = .ok (.ladd, 1)) (hn : pc + 1 = nx) : HOK cc own nL ret lv pc (o_ladd nx) := by
  intro p l e R s m args below meth c cells slots mc ms Q G A g0 w0 q C k hk ls st w σ ho
  obtain ⟨hx, hb, hml, hown, hts, hK, hr, hlk, hZ, hSR, hA, hlv, hcs, hcm, hQ⟩ := C
  subst hn
  intro g H locs la hge hR hS hL hst
  obtain ⟨y, r0, rfl, ho1⟩ := popL_s ho
  obtain ⟨x, r, rfl, ho⟩ := popL_s ho1
  exact lv_ladd hx hb hd (hk _ _ _ _ _ ho g H locs la hge hR hS hL (fun u hu => (List.mem_cons.mp hu).elim (fun e => e ▸ trivial) (fun h => hst u (List.mem_cons_of_mem _ (List.mem_cons_of_mem _ h)))))
theorem ok_if_eq {cc : ByteArray} {own : String} {nL : Nat} {ret : Option FieldType} {lv pc : Nat} {off : Int} {t nx : Nat} (hd : decode cc pc = .ok (.ifCond .eq off, 3)) (ht : (pc : Int) + off = (t : Int)) (hn : pc + 3 = nx) : HOK cc own nL ret lv pc (o_if (fun x => x = 0) t nx) := by
  intro p l e R s m args below meth c cells slots mc ms Q G A g0 w0 q C k hk ls st w σ ho
  obtain ⟨hx, hb, hml, hown, hts, hK, hr, hlk, hZ, hSR, hA, hlv, hcs, hcm, hQ⟩ := C
  subst hn
  intro g H locs la hge hR hS hL hst
  obtain ⟨x, r, rfl, ho⟩ := popI_s ho
  obtain ⟨h1, h2⟩ := ho
  exact lv_if_eq hx hb hd ht (fun h => hk _ _ _ _ _ (h1 h) g H locs la hge hR hS hL (fun u hu => hst u (List.mem_cons_of_mem _ hu))) (fun h => hk _ _ _ _ _ (h2 h) g H locs la hge hR hS hL (fun u hu => hst u (List.mem_cons_of_mem _ hu)))
theorem ok_if_ne {cc : ByteArray} {own : String} {nL : Nat} {ret : Option FieldType} {lv pc : Nat} {off : Int} {t nx : Nat} (hd : decode cc pc = .ok (.ifCond .ne off, 3)) (ht : (pc : Int) + off = (t : Int)) (hn : pc + 3 = nx) : HOK cc own nL ret lv pc (o_if (fun x => x = 0) nx t) := by
  intro p l e R s m args below meth c cells slots mc ms Q G A g0 w0 q C k hk ls st w σ ho
  obtain ⟨hx, hb, hml, hown, hts, hK, hr, hlk, hZ, hSR, hA, hlv, hcs, hcm, hQ⟩ := C
  subst hn
  intro g H locs la hge hR hS hL hst
  obtain ⟨x, r, rfl, ho⟩ := popI_s ho
  obtain ⟨h1, h2⟩ := ho
  exact lv_if_ne hx hb hd ht (fun h => hk _ _ _ _ _ (h2 h) g H locs la hge hR hS hL (fun u hu => hst u (List.mem_cons_of_mem _ hu))) (fun h => hk _ _ _ _ _ (h1 h) g H locs la hge hR hS hL (fun u hu => hst u (List.mem_cons_of_mem _ hu)))
theorem ok_if_lt {cc : ByteArray} {own : String} {nL : Nat} {ret : Option FieldType} {lv pc : Nat} {off : Int} {t nx : Nat} (hd : decode cc pc = .ok (.ifCond .lt off, 3)) (ht : (pc : Int) + off = (t : Int)) (hn : pc + 3 = nx) : HOK cc own nL ret lv pc (o_if (fun x => x < 0) t nx) := by
  intro p l e R s m args below meth c cells slots mc ms Q G A g0 w0 q C k hk ls st w σ ho
  obtain ⟨hx, hb, hml, hown, hts, hK, hr, hlk, hZ, hSR, hA, hlv, hcs, hcm, hQ⟩ := C
  subst hn
  intro g H locs la hge hR hS hL hst
  obtain ⟨x, r, rfl, ho⟩ := popI_s ho
  obtain ⟨h1, h2⟩ := ho
  exact lv_if_lt hx hb hd ht (fun h => hk _ _ _ _ _ (h1 h) g H locs la hge hR hS hL (fun u hu => hst u (List.mem_cons_of_mem _ hu))) (fun h => hk _ _ _ _ _ (h2 h) g H locs la hge hR hS hL (fun u hu => hst u (List.mem_cons_of_mem _ hu)))
theorem ok_if_ge {cc : ByteArray} {own : String} {nL : Nat} {ret : Option FieldType} {lv pc : Nat} {off : Int} {t nx : Nat} (hd : decode cc pc = .ok (.ifCond .ge off, 3)) (ht : (pc : Int) + off = (t : Int)) (hn : pc + 3 = nx) : HOK cc own nL ret lv pc (o_if (fun x => 0 ≤ x) t nx) := by
  intro p l e R s m args below meth c cells slots mc ms Q G A g0 w0 q C k hk ls st w σ ho
  obtain ⟨hx, hb, hml, hown, hts, hK, hr, hlk, hZ, hSR, hA, hlv, hcs, hcm, hQ⟩ := C
  subst hn
  intro g H locs la hge hR hS hL hst
  obtain ⟨x, r, rfl, ho⟩ := popI_s ho
  obtain ⟨h1, h2⟩ := ho
  exact lv_if_ge hx hb hd ht (fun h => hk _ _ _ _ _ (h1 h) g H locs la hge hR hS hL (fun u hu => hst u (List.mem_cons_of_mem _ hu))) (fun h => hk _ _ _ _ _ (h2 h) g H locs la hge hR hS hL (fun u hu => hst u (List.mem_cons_of_mem _ hu)))
theorem ok_if_gt {cc : ByteArray} {own : String} {nL : Nat} {ret : Option FieldType} {lv pc : Nat} {off : Int} {t nx : Nat} (hd : decode cc pc = .ok (.ifCond .gt off, 3)) (ht : (pc : Int) + off = (t : Int)) (hn : pc + 3 = nx) : HOK cc own nL ret lv pc (o_if (fun x => 0 < x) t nx) := by
  intro p l e R s m args below meth c cells slots mc ms Q G A g0 w0 q C k hk ls st w σ ho
  obtain ⟨hx, hb, hml, hown, hts, hK, hr, hlk, hZ, hSR, hA, hlv, hcs, hcm, hQ⟩ := C
  subst hn
  intro g H locs la hge hR hS hL hst
  obtain ⟨x, r, rfl, ho⟩ := popI_s ho
  obtain ⟨h1, h2⟩ := ho
  exact lv_if_gt hx hb hd ht (fun h => hk _ _ _ _ _ (h1 h) g H locs la hge hR hS hL (fun u hu => hst u (List.mem_cons_of_mem _ hu))) (fun h => hk _ _ _ _ _ (h2 h) g H locs la hge hR hS hL (fun u hu => hst u (List.mem_cons_of_mem _ hu)))
theorem ok_if_le {cc : ByteArray} {own : String} {nL : Nat} {ret : Option FieldType} {lv pc : Nat} {off : Int} {t nx : Nat} (hd : decode cc pc = .ok (.ifCond .le off, 3)) (ht : (pc : Int) + off = (t : Int)) (hn : pc + 3 = nx) : HOK cc own nL ret lv pc (o_if (fun x => x ≤ 0) t nx) := by
  intro p l e R s m args below meth c cells slots mc ms Q G A g0 w0 q C k hk ls st w σ ho
  obtain ⟨hx, hb, hml, hown, hts, hK, hr, hlk, hZ, hSR, hA, hlv, hcs, hcm, hQ⟩ := C
  subst hn
  intro g H locs la hge hR hS hL hst
  obtain ⟨x, r, rfl, ho⟩ := popI_s ho
  obtain ⟨h1, h2⟩ := ho
  exact lv_if_le hx hb hd ht (fun h => hk _ _ _ _ _ (h1 h) g H locs la hge hR hS hL (fun u hu => hst u (List.mem_cons_of_mem _ hu))) (fun h => hk _ _ _ _ _ (h2 h) g H locs la hge hR hS hL (fun u hu => hst u (List.mem_cons_of_mem _ hu)))
theorem ok_icmp_eq {cc : ByteArray} {own : String} {nL : Nat} {ret : Option FieldType} {lv pc : Nat} {off : Int} {t nx : Nat} (hd : decode cc pc = .ok (.if_icmp .eq off, 3)) (ht : (pc : Int) + off = (t : Int)) (hn : pc + 3 = nx) : HOK cc own nL ret lv pc (o_icmp (fun x y => x = y) t nx) := by
  intro p l e R s m args below meth c cells slots mc ms Q G A g0 w0 q C k hk ls st w σ ho
  obtain ⟨hx, hb, hml, hown, hts, hK, hr, hlk, hZ, hSR, hA, hlv, hcs, hcm, hQ⟩ := C
  subst hn
  intro g H locs la hge hR hS hL hst
  obtain ⟨y, r0, rfl, ho1⟩ := popI_s ho
  obtain ⟨x, r, rfl, ho⟩ := popI_s ho1
  obtain ⟨h1, h2⟩ := ho
  exact lv_icmp_eq hx hb hd ht (fun h => hk _ _ _ _ _ (h1 h) g H locs la hge hR hS hL (fun u hu => hst u (List.mem_cons_of_mem _ (List.mem_cons_of_mem _ hu)))) (fun h => hk _ _ _ _ _ (h2 h) g H locs la hge hR hS hL (fun u hu => hst u (List.mem_cons_of_mem _ (List.mem_cons_of_mem _ hu))))
theorem ok_icmp_ne {cc : ByteArray} {own : String} {nL : Nat} {ret : Option FieldType} {lv pc : Nat} {off : Int} {t nx : Nat} (hd : decode cc pc = .ok (.if_icmp .ne off, 3)) (ht : (pc : Int) + off = (t : Int)) (hn : pc + 3 = nx) : HOK cc own nL ret lv pc (o_icmp (fun x y => x = y) nx t) := by
  intro p l e R s m args below meth c cells slots mc ms Q G A g0 w0 q C k hk ls st w σ ho
  obtain ⟨hx, hb, hml, hown, hts, hK, hr, hlk, hZ, hSR, hA, hlv, hcs, hcm, hQ⟩ := C
  subst hn
  intro g H locs la hge hR hS hL hst
  obtain ⟨y, r0, rfl, ho1⟩ := popI_s ho
  obtain ⟨x, r, rfl, ho⟩ := popI_s ho1
  obtain ⟨h1, h2⟩ := ho
  exact lv_icmp_ne hx hb hd ht (fun h => hk _ _ _ _ _ (h2 h) g H locs la hge hR hS hL (fun u hu => hst u (List.mem_cons_of_mem _ (List.mem_cons_of_mem _ hu)))) (fun h => hk _ _ _ _ _ (h1 h) g H locs la hge hR hS hL (fun u hu => hst u (List.mem_cons_of_mem _ (List.mem_cons_of_mem _ hu))))
theorem ok_icmp_lt {cc : ByteArray} {own : String} {nL : Nat} {ret : Option FieldType} {lv pc : Nat} {off : Int} {t nx : Nat} (hd : decode cc pc = .ok (.if_icmp .lt off, 3)) (ht : (pc : Int) + off = (t : Int)) (hn : pc + 3 = nx) : HOK cc own nL ret lv pc (o_icmp (fun x y => x < y) t nx) := by
  intro p l e R s m args below meth c cells slots mc ms Q G A g0 w0 q C k hk ls st w σ ho
  obtain ⟨hx, hb, hml, hown, hts, hK, hr, hlk, hZ, hSR, hA, hlv, hcs, hcm, hQ⟩ := C
  subst hn
  intro g H locs la hge hR hS hL hst
  obtain ⟨y, r0, rfl, ho1⟩ := popI_s ho
  obtain ⟨x, r, rfl, ho⟩ := popI_s ho1
  obtain ⟨h1, h2⟩ := ho
  exact lv_icmp_lt hx hb hd ht (fun h => hk _ _ _ _ _ (h1 h) g H locs la hge hR hS hL (fun u hu => hst u (List.mem_cons_of_mem _ (List.mem_cons_of_mem _ hu)))) (fun h => hk _ _ _ _ _ (h2 h) g H locs la hge hR hS hL (fun u hu => hst u (List.mem_cons_of_mem _ (List.mem_cons_of_mem _ hu))))
theorem ok_icmp_ge {cc : ByteArray} {own : String} {nL : Nat} {ret : Option FieldType} {lv pc : Nat} {off : Int} {t nx : Nat} (hd : decode cc pc = .ok (.if_icmp .ge off, 3)) (ht : (pc : Int) + off = (t : Int)) (hn : pc + 3 = nx) : HOK cc own nL ret lv pc (o_icmp (fun x y => y ≤ x) t nx) := by
  intro p l e R s m args below meth c cells slots mc ms Q G A g0 w0 q C k hk ls st w σ ho
  obtain ⟨hx, hb, hml, hown, hts, hK, hr, hlk, hZ, hSR, hA, hlv, hcs, hcm, hQ⟩ := C
  subst hn
  intro g H locs la hge hR hS hL hst
  obtain ⟨y, r0, rfl, ho1⟩ := popI_s ho
  obtain ⟨x, r, rfl, ho⟩ := popI_s ho1
  obtain ⟨h1, h2⟩ := ho
  exact lv_icmp_ge hx hb hd ht (fun h => hk _ _ _ _ _ (h1 h) g H locs la hge hR hS hL (fun u hu => hst u (List.mem_cons_of_mem _ (List.mem_cons_of_mem _ hu)))) (fun h => hk _ _ _ _ _ (h2 h) g H locs la hge hR hS hL (fun u hu => hst u (List.mem_cons_of_mem _ (List.mem_cons_of_mem _ hu))))
theorem ok_icmp_gt {cc : ByteArray} {own : String} {nL : Nat} {ret : Option FieldType} {lv pc : Nat} {off : Int} {t nx : Nat} (hd : decode cc pc = .ok (.if_icmp .gt off, 3)) (ht : (pc : Int) + off = (t : Int)) (hn : pc + 3 = nx) : HOK cc own nL ret lv pc (o_icmp (fun x y => y < x) t nx) := by
  intro p l e R s m args below meth c cells slots mc ms Q G A g0 w0 q C k hk ls st w σ ho
  obtain ⟨hx, hb, hml, hown, hts, hK, hr, hlk, hZ, hSR, hA, hlv, hcs, hcm, hQ⟩ := C
  subst hn
  intro g H locs la hge hR hS hL hst
  obtain ⟨y, r0, rfl, ho1⟩ := popI_s ho
  obtain ⟨x, r, rfl, ho⟩ := popI_s ho1
  obtain ⟨h1, h2⟩ := ho
  exact lv_icmp_gt hx hb hd ht (fun h => hk _ _ _ _ _ (h1 h) g H locs la hge hR hS hL (fun u hu => hst u (List.mem_cons_of_mem _ (List.mem_cons_of_mem _ hu)))) (fun h => hk _ _ _ _ _ (h2 h) g H locs la hge hR hS hL (fun u hu => hst u (List.mem_cons_of_mem _ (List.mem_cons_of_mem _ hu))))
theorem ok_icmp_le {cc : ByteArray} {own : String} {nL : Nat} {ret : Option FieldType} {lv pc : Nat} {off : Int} {t nx : Nat} (hd : decode cc pc = .ok (.if_icmp .le off, 3)) (ht : (pc : Int) + off = (t : Int)) (hn : pc + 3 = nx) : HOK cc own nL ret lv pc (o_icmp (fun x y => x ≤ y) t nx) := by
  intro p l e R s m args below meth c cells slots mc ms Q G A g0 w0 q C k hk ls st w σ ho
  obtain ⟨hx, hb, hml, hown, hts, hK, hr, hlk, hZ, hSR, hA, hlv, hcs, hcm, hQ⟩ := C
  subst hn
  intro g H locs la hge hR hS hL hst
  obtain ⟨y, r0, rfl, ho1⟩ := popI_s ho
  obtain ⟨x, r, rfl, ho⟩ := popI_s ho1
  obtain ⟨h1, h2⟩ := ho
  exact lv_icmp_le hx hb hd ht (fun h => hk _ _ _ _ _ (h1 h) g H locs la hge hR hS hL (fun u hu => hst u (List.mem_cons_of_mem _ (List.mem_cons_of_mem _ hu)))) (fun h => hk _ _ _ _ _ (h2 h) g H locs la hge hR hS hL (fun u hu => hst u (List.mem_cons_of_mem _ (List.mem_cons_of_mem _ hu))))
theorem ok_goto {cc : ByteArray} {own : String} {nL : Nat} {ret : Option FieldType} {lv pc : Nat} {off : Int} {t : Nat} (hd : decode cc pc = .ok (.goto off, 3)) (ht : (pc : Int) + off = (t : Int)) : HOK cc own nL ret lv pc (o_goto t) := by
  intro p l e R s m args below meth c cells slots mc ms Q G A g0 w0 q C k hk ls st w σ ho
  obtain ⟨hx, hb, hml, hown, hts, hK, hr, hlk, hZ, hSR, hA, hlv, hcs, hcm, hQ⟩ := C
  intro g H locs la hge hR hS hL hst
  exact lv_goto hx hb hd ht (hk _ _ _ _ _ ho g H locs la hge hR hS hL hst)
theorem ok_ifnull {cc : ByteArray} {own : String} {nL : Nat} {ret : Option FieldType} {lv pc : Nat} {off : Int} {t nx : Nat} (hd : decode cc pc = .ok (.ifnull off, 3)) (ht : (pc : Int) + off = (t : Int)) (hn : pc + 3 = nx) : HOK cc own nL ret lv pc (o_ifnull t nx) := by
  intro p l e R s m args below meth c cells slots mc ms Q G A g0 w0 q C k hk ls st w σ ho
  obtain ⟨hx, hb, hml, hown, hts, hK, hr, hlk, hZ, hSR, hA, hlv, hcs, hcm, hQ⟩ := C
  subst hn
  intro g H locs la hge hR hS hL hst
  obtain ⟨kd, o, r, rfl, ho⟩ := popO_s ho
  cases o with
  | none => exact lv_ifnullN hx hb hd ht (hk _ _ _ _ _ ho g H locs la hge hR hS hL (fun u hu => hst u (List.mem_cons_of_mem _ hu)))
  | some z => exact lv_ifnull hx hb hd (hk _ _ _ _ _ ho g H locs la hge hR hS hL (fun u hu => hst u (List.mem_cons_of_mem _ hu)))
theorem ok_ifnonnull {cc : ByteArray} {own : String} {nL : Nat} {ret : Option FieldType} {lv pc : Nat} {off : Int} {t nx : Nat} (hd : decode cc pc = .ok (.ifnonnull off, 3)) (ht : (pc : Int) + off = (t : Int)) (hn : pc + 3 = nx) : HOK cc own nL ret lv pc (o_ifnull nx t) := by
  intro p l e R s m args below meth c cells slots mc ms Q G A g0 w0 q C k hk ls st w σ ho
  obtain ⟨hx, hb, hml, hown, hts, hK, hr, hlk, hZ, hSR, hA, hlv, hcs, hcm, hQ⟩ := C
  subst hn
  intro g H locs la hge hR hS hL hst
  obtain ⟨kd, o, r, rfl, ho⟩ := popO_s ho
  cases o with
  | none => exact lv_ifnonnullN hx hb hd (hk _ _ _ _ _ ho g H locs la hge hR hS hL (fun u hu => hst u (List.mem_cons_of_mem _ hu)))
  | some z => exact lv_ifnonnull hx hb hd ht (hk _ _ _ _ _ ho g H locs la hge hR hS hL (fun u hu => hst u (List.mem_cons_of_mem _ hu)))
theorem ok_dup {cc : ByteArray} {own : String} {nL : Nat} {ret : Option FieldType} {lv pc : Nat} {nx : Nat} (hd : decode cc pc = .ok (.dup, 1)) (hn : pc + 1 = nx) : HOK cc own nL ret lv pc (o_dup nx) := by
  intro p l e R s m args below meth c cells slots mc ms Q G A g0 w0 q C k hk ls st w σ ho
  obtain ⟨hx, hb, hml, hown, hts, hK, hr, hlk, hZ, hSR, hA, hlv, hcs, hcm, hQ⟩ := C
  subst hn
  intro g H locs la hge hR hS hL hst
  obtain ⟨v, r, rfl, hc, ho⟩ := pop1_s ho
  exact lv_dup hx hb hd (hc g) (hk _ _ _ _ _ ho g H locs la hge hR hS hL (fun u hu => (List.mem_cons.mp hu).elim (fun e => e ▸ hst v List.mem_cons_self) (hst u)))
theorem ok_pop {cc : ByteArray} {own : String} {nL : Nat} {ret : Option FieldType} {lv pc : Nat} {nx : Nat} (hd : decode cc pc = .ok (.pop, 1)) (hn : pc + 1 = nx) : HOK cc own nL ret lv pc (o_pop nx) := by
  intro p l e R s m args below meth c cells slots mc ms Q G A g0 w0 q C k hk ls st w σ ho
  obtain ⟨hx, hb, hml, hown, hts, hK, hr, hlk, hZ, hSR, hA, hlv, hcs, hcm, hQ⟩ := C
  subst hn
  intro g H locs la hge hR hS hL hst
  obtain ⟨v, r, rfl, hc, ho⟩ := pop1_s ho
  exact lv_pop hx hb hd (hc g) (hk _ _ _ _ _ ho g H locs la hge hR hS hL (fun u hu => hst u (List.mem_cons_of_mem _ hu)))
theorem ok_dupx1 {cc : ByteArray} {own : String} {nL : Nat} {ret : Option FieldType} {lv pc : Nat} {nx : Nat} (hd : decode cc pc = .ok (.dup_x1, 1)) (hn : pc + 1 = nx) : HOK cc own nL ret lv pc (o_dupx1 nx) := by
  intro p l e R s m args below meth c cells slots mc ms Q G A g0 w0 q C k hk ls st w σ ho
  obtain ⟨hx, hb, hml, hown, hts, hK, hr, hlk, hZ, hSR, hA, hlv, hcs, hcm, hQ⟩ := C
  subst hn
  intro g H locs la hge hR hS hL hst
  obtain ⟨a, r0, rfl, hc, ho1⟩ := pop1_s ho
  obtain ⟨b, r, rfl, hc2, ho⟩ := pop1_s ho1
  exact lv_dup_x1 hx hb hd (hc g) (hc2 g) (hk _ _ _ _ _ ho g H locs la hge hR hS hL (fun u hu => by
    simp only [List.mem_cons] at hu hst
    rcases hu with h | h | h | h <;> exact hst u (by simp [h])))
theorem ok_dup2 {cc : ByteArray} {own : String} {nL : Nat} {ret : Option FieldType} {lv pc : Nat} {nx : Nat} (hd : decode cc pc = .ok (.dup2, 1)) (hn : pc + 1 = nx) : HOK cc own nL ret lv pc (o_dup2 nx) := by
  intro p l e R s m args below meth c cells slots mc ms Q G A g0 w0 q C k hk ls st w σ ho
  obtain ⟨hx, hb, hml, hown, hts, hK, hr, hlk, hZ, hSR, hA, hlv, hcs, hcm, hQ⟩ := C
  subst hn
  intro g H locs la hge hR hS hL hst
  obtain ⟨a, r0, rfl, hc, ho1⟩ := pop1_s ho
  obtain ⟨b, r, rfl, hc2, ho⟩ := pop1_s ho1
  exact lv_dup2_11 hx hb hd (hc g) (hc2 g) (hk _ _ _ _ _ ho g H locs la hge hR hS hL (fun u hu => by
    simp only [List.mem_cons] at hu hst
    rcases hu with h | h | h | h | h <;> exact hst u (by simp [h])))
end
section
/-! OUR FRAME, 4: fields, rows, returns -/
theorem fld_lv {w : HW} {σ : HS} {k i f : Nat} (hW : Wf w) (hi : i < w.1 k) : VLv w (fld w σ k i f) := by
  unfold fld
  cases h : fr w k i f with
  | none => exact trivial
  | some r =>
    obtain ⟨kk, o⟩ := r
    cases o with
    | none => exact trivial
    | some o => exact hW.1 k i f kk o hi h
theorem fld_at {g : HA} {w : HW} {σ : HS} {k i f N : Nat} (hN : nfd k = N) (hf : f < N) : ((List.range (nfd k)).map fun f => toV g (fld w σ k i f))[f]? = some (toV g (fld w σ k i f)) := by
  simp [hN, hf]
theorem tail1 {w : HW} {a : HV} {r : List HV} (h : ∀ v ∈ a :: r, VLv w v) : ∀ v ∈ r, VLv w v := fun v hv => h v (List.mem_cons_of_mem _ hv)
theorem cons1 {w : HW} {a : HV} {r : List HV} (ha : VLv w a) (h : ∀ v ∈ r, VLv w v) : ∀ v ∈ a :: r, VLv w v := fun v hv => (List.mem_cons.mp hv).elim (fun e => e ▸ ha) (h v)
theorem b12 {k : Nat} (h : Nat.blt k 12 = true) : k < 12 := by
  rw [Nat.blt_eq] at h
  exact h
theorem ok_getf {cc : ByteArray} {own : String} {nL : Nat} {ret : Option FieldType} {lv pc : Nat} {ix kd f nx N : Nat} {C : String} {T : u_T} (hd : decode cc pc = .ok (.getfield ix, 3)) (hc : vwCl[kd]? = some (C, T, N)) (hN : nfd kd = N) (hf : f < N) (h12 : Nat.blt kd 12 = true) (hin : ∀ w ∈ u_ws C T N, w ∈ TT) (hw : Cond.fieldLink own ix (T f).1 (T f).2.1 (T f).2.2.1 ∈ TT) (hn : pc + 3 = nx) : HOK cc own nL ret lv pc (o_getf kd f nx) := by
  intro p l e R s m args below meth c cells slots mc ms Q G A g0 w0 q C k hk ls st w σ ho
  obtain ⟨hx, hb, hml, hown, hts, hK, hr, hlk, hZ, hSR, hA, hlv, hcs, hcm, hQ⟩ := C
  subst hn
  intro g H locs la hge hR hS hL hst
  obtain ⟨kk, i, r, rfl, ho1⟩ := popR_s ho
  obtain ⟨hkk, ho2⟩ := bif_s ho1
  have ek : kk = kd := Nat.eq_of_beq_eq_true hkk
  subst ek
  have hi : i < w.1 kk := hst _ List.mem_cons_self
  have h22 : kk < 22 := Nat.lt_trans (b12 h12) (by decide)
  have hat := (hR.1 kk i h22 hi).1
  rw [ent_obj h12] at hat
  exact va_get (D := G.1) (tys := tysG G) hx hb hts hin hown hK (va_one hat) 0 rfl hc f hf (hts _ hw) (fun _ h => h) (fld_at hN hf) hd (hk _ _ _ _ _ ho2 g H locs la hge hR hS hL (cons1 (fld_lv hR.2.2.2 hi) (tail1 hst)))
theorem ok_getfN {cc : ByteArray} {own : String} {nL : Nat} {ret : Option FieldType} {lv pc : Nat} {ix kd f nx N : Nat} {C host : String} {T : u_T} (hd : decode cc pc = .ok (.getfield ix, 3)) (hc : vwCl[kd]? = some (C, T, N)) (hN : nfd kd = N) (hf : f < N) (h12 : Nat.blt kd 12 = true) (hin : ∀ w ∈ u_ws C T N, w ∈ TT) (hw : Cond.fieldLinkNest own ix (T f).1 (T f).2.1 (T f).2.2.1 host ∈ TT) (hn : pc + 3 = nx) : HOK cc own nL ret lv pc (o_getf kd f nx) := by
  intro p l e R s m args below meth c cells slots mc ms Q G A g0 w0 q C k hk ls st w σ ho
  obtain ⟨hx, hb, hml, hown, hts, hK, hr, hlk, hZ, hSR, hA, hlv, hcs, hcm, hQ⟩ := C
  subst hn
  intro g H locs la hge hR hS hL hst
  obtain ⟨kk, i, r, rfl, ho1⟩ := popR_s ho
  obtain ⟨hkk, ho2⟩ := bif_s ho1
  have ek : kk = kd := Nat.eq_of_beq_eq_true hkk
  subst ek
  have hi : i < w.1 kk := hst _ List.mem_cons_self
  have h22 : kk < 22 := Nat.lt_trans (b12 h12) (by decide)
  have hat := (hR.1 kk i h22 hi).1
  rw [ent_obj h12] at hat
  exact va_getN (D := G.1) (tys := tysG G) hx hb hts hin hown hK (va_one hat) 0 rfl hc f hf (hts _ hw) (fun _ h => h) (fld_at hN hf) hd (hk _ _ _ _ _ ho2 g H locs la hge hR hS hL (cons1 (fld_lv hR.2.2.2 hi) (tail1 hst)))
theorem ok_getq {cc : ByteArray} {own : String} {nL : Nat} {ret : Option FieldType} {lv pc : Nat} {ix nx : Nat} (hd : decode cc pc = .ok (.getfield ix, 3)) (hw : Cond.fieldLink own ix (TX10 8).1 (TX10 8).2.1 (TX10 8).2.2.1 ∈ TT) (hn : pc + 3 = nx) : HOK cc own nL ret lv pc (o_getq 10 8 9 nx) := by
  intro p l e R s m args below meth c cells slots mc ms Q G A g0 w0 q C k hk ls st w σ ho
  obtain ⟨hx, hb, hml, hown, hts, hK, hr, hlk, hZ, hSR, hA, hlv, hcs, hcm, hQ⟩ := C
  subst hn
  intro g H locs la hge hR hS hL hst
  obtain ⟨kk, i, r, rfl, ho1⟩ := popR_s ho
  obtain ⟨hkk, ho2⟩ := bif_s ho1
  have ek : kk = 10 := Nat.eq_of_beq_eq_true hkk
  subst ek
  have hi : i < w.1 10 := hst _ List.mem_cons_self
  have hat := (hR.1 10 i (by decide) hi).1
  rw [ent_obj rfl] at hat
  exact va_get (D := G.1) (tys := tysG G) hx hb hts inX10 hown hK (va_one hat) 0 rfl rfl 8 (by decide) (hts _ hw) (fun _ h => h) (fld_at (f := 8) rfl (by decide)) hd (hk _ _ _ _ _ (ho2 _ rfl) g H locs la hge hR hS hL (cons1 (fld_lv (σ := σ) (f := 8) hR.2.2.2 hi) (tail1 hst)))
theorem nar_z {v : Int32} (h : v = 0 ∨ v = 1) : narrow .boolean (.int v) = .int v ∧ fits .boolean (.int v) = true := by
  rcases h with rfl | rfl <;> exact ⟨by decide, by decide⟩
theorem ok_putf {cc : ByteArray} {own : String} {nL : Nat} {ret : Option FieldType} {lv pc : Nat} {ix kd f nx N : Nat} {C : String} {T : u_T} {ty : Nat → FieldType} (hd : decode cc pc = .ok (.putfield ix, 3)) (hc : vwCl[kd]? = some (C, T, N)) (hN : nfd kd = N) (hf : f < N) (h12 : Nat.blt kd 12 = true) (hin : ∀ w ∈ u_ws C T N, w ∈ TT) (hty : ∀ k, k < N → parseFieldDescriptor (T k).2.2.1 = some (ty k)) (hnm : ∀ a, a < N → ∀ b, b < N → a ≠ b → (T a).2.1 ≠ (T b).2.1) (hfin : (T f).2.2.2 = false) (ht : parseFieldDescriptor (T f).2.2.1 = some .int) (hfr : ∀ w i, fr w kd i f = none) (hw : Cond.fieldLink own ix (T f).1 (T f).2.1 (T f).2.2.1 ∈ TT) (hn : pc + 3 = nx) : HOK cc own nL ret lv pc (o_putf kd f nx) := by
  intro p l e R s m args below meth c cells slots mc ms Q G A g0 w0 q C k hk ls st w σ ho
  obtain ⟨hx, hb, hml, hown, hts, hK, hr, hlk, hZ, hSR, hA, hlv, hcs, hcm, hQ⟩ := C
  subst hn
  intro g H locs la hge hR hS hL hst
  obtain ⟨v, r0, rfl, ho0⟩ := popI_s ho
  obtain ⟨kk, i, r, rfl, ho1⟩ := popR_s ho0
  obtain ⟨hkk, ho2⟩ := bif_s ho1
  have ek : kk = kd := Nat.eq_of_beq_eq_true hkk
  subst ek
  have hi : i < w.1 kk := tail1 hst _ List.mem_cons_self
  have h22 : kk < 22 := Nat.lt_trans (b12 h12) (by decide)
  have hat := (hR.1 kk i h22 hi).1
  rw [ent_obj h12] at hat
  exact hx_put (D := G.1) (tys := tysG G) hx hb hts hin ty hty hnm hown hK hat hc f hf (hts _ hw) hfin ht (vp_nar_int v) rfl (by simp [hN, hf]) hd fun H1 sl h1 hz oq =>
    hk _ _ _ _ _ ho2 g H1 _ la hge (hR.upd h22 hi (by rw [ent_obj h12, ← fld_put (hfr w i) (by rw [hN]; exact hf)]; exact h1) oq (fun k' i' h => up3_ne h)) (hS.put hz oq (hR.1 kk i h22 hi).2) hL (tail1 (tail1 hst))
theorem ok_putfN {cc : ByteArray} {own : String} {nL : Nat} {ret : Option FieldType} {lv pc : Nat} {ix kd f nx N : Nat} {C host : String} {T : u_T} {ty : Nat → FieldType} (hd : decode cc pc = .ok (.putfield ix, 3)) (hc : vwCl[kd]? = some (C, T, N)) (hN : nfd kd = N) (hf : f < N) (h12 : Nat.blt kd 12 = true) (hin : ∀ w ∈ u_ws C T N, w ∈ TT) (hty : ∀ k, k < N → parseFieldDescriptor (T k).2.2.1 = some (ty k)) (hnm : ∀ a, a < N → ∀ b, b < N → a ≠ b → (T a).2.1 ≠ (T b).2.1) (hfin : (T f).2.2.2 = false) (ht : parseFieldDescriptor (T f).2.2.1 = some .int) (hfr : ∀ w i, fr w kd i f = none) (hw : Cond.fieldLinkNest own ix (T f).1 (T f).2.1 (T f).2.2.1 host ∈ TT) (hn : pc + 3 = nx) : HOK cc own nL ret lv pc (o_putf kd f nx) := by
  intro p l e R s m args below meth c cells slots mc ms Q G A g0 w0 q C k hk ls st w σ ho
  obtain ⟨hx, hb, hml, hown, hts, hK, hr, hlk, hZ, hSR, hA, hlv, hcs, hcm, hQ⟩ := C
  subst hn
  intro g H locs la hge hR hS hL hst
  obtain ⟨v, r0, rfl, ho0⟩ := popI_s ho
  obtain ⟨kk, i, r, rfl, ho1⟩ := popR_s ho0
  obtain ⟨hkk, ho2⟩ := bif_s ho1
  have ek : kk = kd := Nat.eq_of_beq_eq_true hkk
  subst ek
  have hi : i < w.1 kk := tail1 hst _ List.mem_cons_self
  have h22 : kk < 22 := Nat.lt_trans (b12 h12) (by decide)
  have hat := (hR.1 kk i h22 hi).1
  rw [ent_obj h12] at hat
  exact hx_putN (D := G.1) (tys := tysG G) hx hb hts hin ty hty hnm hown hK hat hc f hf (hts _ hw) hfin ht (vp_nar_int v) rfl (by simp [hN, hf]) hd fun H1 sl h1 hz oq =>
    hk _ _ _ _ _ ho2 g H1 _ la hge (hR.upd h22 hi (by rw [ent_obj h12, ← fld_put (hfr w i) (by rw [hN]; exact hf)]; exact h1) oq (fun k' i' h => up3_ne h)) (hS.put hz oq (hR.1 kk i h22 hi).2) hL (tail1 (tail1 hst))
theorem ok_putz {cc : ByteArray} {own : String} {nL : Nat} {ret : Option FieldType} {lv pc : Nat} {ix kd f nx N : Nat} {C : String} {T : u_T} {ty : Nat → FieldType} (hd : decode cc pc = .ok (.putfield ix, 3)) (hc : vwCl[kd]? = some (C, T, N)) (hN : nfd kd = N) (hf : f < N) (h12 : Nat.blt kd 12 = true) (hin : ∀ w ∈ u_ws C T N, w ∈ TT) (hty : ∀ k, k < N → parseFieldDescriptor (T k).2.2.1 = some (ty k)) (hnm : ∀ a, a < N → ∀ b, b < N → a ≠ b → (T a).2.1 ≠ (T b).2.1) (hfin : (T f).2.2.2 = false) (ht : parseFieldDescriptor (T f).2.2.1 = some .boolean) (hfr : ∀ w i, fr w kd i f = none) (hw : Cond.fieldLink own ix (T f).1 (T f).2.1 (T f).2.2.1 ∈ TT) (hn : pc + 3 = nx) : HOK cc own nL ret lv pc (o_putz kd f nx) := by
  intro p l e R s m args below meth c cells slots mc ms Q G A g0 w0 q C k hk ls st w σ ho
  obtain ⟨hx, hb, hml, hown, hts, hK, hr, hlk, hZ, hSR, hA, hlv, hcs, hcm, hQ⟩ := C
  subst hn
  intro g H locs la hge hR hS hL hst
  obtain ⟨v, r0, rfl, ho0⟩ := popI_s ho
  obtain ⟨kk, i, r, rfl, ho1⟩ := popR_s ho0
  obtain ⟨hkk, hz1, ho2⟩ := bif_s ho1
  have ek : kk = kd := Nat.eq_of_beq_eq_true hkk
  subst ek
  have hi : i < w.1 kk := tail1 hst _ List.mem_cons_self
  have h22 : kk < 22 := Nat.lt_trans (b12 h12) (by decide)
  have hat := (hR.1 kk i h22 hi).1
  rw [ent_obj h12] at hat
  exact hx_put (D := G.1) (tys := tysG G) hx hb hts hin ty hty hnm hown hK hat hc f hf (hts _ hw) hfin ht (nar_z hz1).1 (nar_z hz1).2 (by simp [hN, hf]) hd fun H1 sl h1 hz oq =>
    hk _ _ _ _ _ ho2 g H1 _ la hge (hR.upd h22 hi (by rw [ent_obj h12, ← fld_put (hfr w i) (by rw [hN]; exact hf)]; exact h1) oq (fun k' i' h => up3_ne h)) (hS.put hz oq (hR.1 kk i h22 hi).2) hL (tail1 (tail1 hst))
theorem ok_putzN {cc : ByteArray} {own : String} {nL : Nat} {ret : Option FieldType} {lv pc : Nat} {ix kd f nx N : Nat} {C host : String} {T : u_T} {ty : Nat → FieldType} (hd : decode cc pc = .ok (.putfield ix, 3)) (hc : vwCl[kd]? = some (C, T, N)) (hN : nfd kd = N) (hf : f < N) (h12 : Nat.blt kd 12 = true) (hin : ∀ w ∈ u_ws C T N, w ∈ TT) (hty : ∀ k, k < N → parseFieldDescriptor (T k).2.2.1 = some (ty k)) (hnm : ∀ a, a < N → ∀ b, b < N → a ≠ b → (T a).2.1 ≠ (T b).2.1) (hfin : (T f).2.2.2 = false) (ht : parseFieldDescriptor (T f).2.2.1 = some .boolean) (hfr : ∀ w i, fr w kd i f = none) (hw : Cond.fieldLinkNest own ix (T f).1 (T f).2.1 (T f).2.2.1 host ∈ TT) (hn : pc + 3 = nx) : HOK cc own nL ret lv pc (o_putz kd f nx) := by
  intro p l e R s m args below meth c cells slots mc ms Q G A g0 w0 q C k hk ls st w σ ho
  obtain ⟨hx, hb, hml, hown, hts, hK, hr, hlk, hZ, hSR, hA, hlv, hcs, hcm, hQ⟩ := C
  subst hn
  intro g H locs la hge hR hS hL hst
  obtain ⟨v, r0, rfl, ho0⟩ := popI_s ho
  obtain ⟨kk, i, r, rfl, ho1⟩ := popR_s ho0
  obtain ⟨hkk, hz1, ho2⟩ := bif_s ho1
  have ek : kk = kd := Nat.eq_of_beq_eq_true hkk
  subst ek
  have hi : i < w.1 kk := tail1 hst _ List.mem_cons_self
  have h22 : kk < 22 := Nat.lt_trans (b12 h12) (by decide)
  have hat := (hR.1 kk i h22 hi).1
  rw [ent_obj h12] at hat
  exact hx_putN (D := G.1) (tys := tysG G) hx hb hts hin ty hty hnm hown hK hat hc f hf (hts _ hw) hfin ht (nar_z hz1).1 (nar_z hz1).2 (by simp [hN, hf]) hd fun H1 sl h1 hz oq =>
    hk _ _ _ _ _ ho2 g H1 _ la hge (hR.upd h22 hi (by rw [ent_obj h12, ← fld_put (hfr w i) (by rw [hN]; exact hf)]; exact h1) oq (fun k' i' h => up3_ne h)) (hS.put hz oq (hR.1 kk i h22 hi).2) hL (tail1 (tail1 hst))
theorem tys_at (G : HG) (k : Nat) : ∃ ty, (tysG G)[ac k]? = some (G.2.1 (ac k), ty) := by
  unfold ac
  split <;> exact ⟨_, rfl⟩
theorem ok_alen {cc : ByteArray} {own : String} {nL : Nat} {ret : Option FieldType} {lv pc : Nat} {nx : Nat} (hd : decode cc pc = .ok (.arraylength, 1)) (hn : pc + 1 = nx) : HOK cc own nL ret lv pc (o_alen nx) := by
  intro p l e R s m args below meth c cells slots mc ms Q G A g0 w0 q C k hk ls st w σ ho
  obtain ⟨hx, hb, hml, hown, hts, hK, hr, hlk, hZ, hSR, hA, hlv, hcs, hcm, hQ⟩ := C
  subst hn
  intro g H locs la hge hR hS hL hst
  obtain ⟨kk, i, r, rfl, ho1⟩ := popR_s ho
  obtain ⟨hkk, ho2⟩ := bif_s ho1
  have hb2 : 12 ≤ kk ∧ kk ≤ 21 := by
    rw [Bool.and_eq_true] at hkk
    exact ⟨Nat.le_of_ble_eq_true hkk.1, Nat.le_of_ble_eq_true hkk.2⟩
  have hi : i < w.1 kk := hst _ List.mem_cons_self
  have h12 : Nat.blt kk 12 = false := by
    cases h : Nat.blt kk 12 with
    | false => rfl
    | true => have := b12 h; omega
  have hat := (hR.1 kk i (by omega) hi).1
  obtain ⟨ty, hty⟩ := tys_at G kk
  have h2 := hk _ _ _ _ _ ho2 g H locs la hge hR hS hL (cons1 (a := HI _) trivial (tail1 hst))
  cases hra : isRA kk with
  | true =>
    rw [ent_ref h12 hra] at hat
    exact va_alen (D := G.1) (tys := tysG G) hx hb hK (va_one hat) 0 (ac kk) rfl hty rfl hd h2
  | false =>
    rw [ent_row h12 hra] at hat
    exact va_alen (D := G.1) (tys := tysG G) hx hb hK (va_one hat) 0 (ac kk) rfl hty rfl hd h2
theorem or_beq {a b c : Nat} (h : (Nat.beq a b || Nat.beq a c) = true) : a = b ∨ a = c := by
  rw [Bool.or_eq_true] at h
  exact h.imp Nat.eq_of_beq_eq_true Nat.eq_of_beq_eq_true
theorem ok_iald {cc : ByteArray} {own : String} {nL : Nat} {ret : Option FieldType} {lv pc : Nat} {nx : Nat} (hd : decode cc pc = .ok (.iaload, 1)) (hn : pc + 1 = nx) : HOK cc own nL ret lv pc (o_iald nx) := by
  intro p l e R s m args below meth c cells slots mc ms Q G A g0 w0 q C k hk ls st w σ ho
  obtain ⟨hx, hb, hml, hown, hts, hK, hr, hlk, hZ, hSR, hA, hlv, hcs, hcm, hQ⟩ := C
  subst hn
  intro g H locs la hge hR hS hL hst
  obtain ⟨j, r0, rfl, ho0⟩ := popI_s ho
  obtain ⟨kk, i, r, rfl, ho1⟩ := popR_s ho0
  obtain ⟨hkk, hin, ho2⟩ := bif_s ho1
  have hi : i < w.1 kk := tail1 hst _ List.mem_cons_self
  have h2 := hk _ _ _ _ _ ho2 g H locs la hge hR hS hL (cons1 (a := HI _) trivial (tail1 (tail1 hst)))
  rcases or_beq hkk with rfl | rfl
  · exact va_iald (D := G.1) (tys := tysG G) hx hb hK (va_one (hR.1 13 i (by decide) hi).1) 0 1 rfl rfl hin hd h2
  · exact va_iald (D := G.1) (tys := tysG G) hx hb hK (va_one (hR.1 20 i (by decide) hi).1) 0 1 rfl rfl hin hd h2
theorem ok_bald {cc : ByteArray} {own : String} {nL : Nat} {ret : Option FieldType} {lv pc : Nat} {nx : Nat} (hd : decode cc pc = .ok (.baload, 1)) (hn : pc + 1 = nx) : HOK cc own nL ret lv pc (o_bald nx) := by
  intro p l e R s m args below meth c cells slots mc ms Q G A g0 w0 q C k hk ls st w σ ho
  obtain ⟨hx, hb, hml, hown, hts, hK, hr, hlk, hZ, hSR, hA, hlv, hcs, hcm, hQ⟩ := C
  subst hn
  intro g H locs la hge hR hS hL hst
  obtain ⟨j, r0, rfl, ho0⟩ := popI_s ho
  obtain ⟨kk, i, r, rfl, ho1⟩ := popR_s ho0
  obtain ⟨hkk, hin, ho2⟩ := bif_s ho1
  have hi : i < w.1 kk := tail1 hst _ List.mem_cons_self
  have h2 := hk _ _ _ _ _ ho2 g H locs la hge hR hS hL (cons1 (a := HI _) trivial (tail1 (tail1 hst)))
  rcases or_beq hkk with rfl | rfl
  · exact va_bald (D := G.1) (tys := tysG G) hx hb hK (va_one (hR.1 12 i (by decide) hi).1) 0 0 rfl rfl hin hd h2
  · exact va_zald (D := G.1) (tys := tysG G) hx hb hK (va_one (hR.1 21 i (by decide) hi).1) 0 2 rfl rfl hin hd h2
theorem ra4 {k : Nat} (h : isRA k = true) : k = 15 ∨ k = 16 ∨ k = 17 ∨ k = 18 := by
  unfold isRA at h
  rw [Bool.and_eq_true] at h
  have h1 := Nat.le_of_ble_eq_true h.1
  have h2 := Nat.le_of_ble_eq_true h.2
  omega
theorem rf_map (g : HA) (t : Nat) (o : Option Nat) : va_rf (o.map (g t)) = toV g (HO t o) := by
  cases o <;> rfl
theorem ok_aald {cc : ByteArray} {own : String} {nL : Nat} {ret : Option FieldType} {lv pc : Nat} {nx : Nat} (hd : decode cc pc = .ok (.aaload, 1)) (hn : pc + 1 = nx) : HOK cc own nL ret lv pc (o_aald nx) := by
  intro p l e R s m args below meth c cells slots mc ms Q G A g0 w0 q C k hk ls st w σ ho
  obtain ⟨hx, hb, hml, hown, hts, hK, hr, hlk, hZ, hSR, hA, hlv, hcs, hcm, hQ⟩ := C
  subst hn
  intro g H locs la hge hR hS hL hst
  obtain ⟨j, r0, rfl, ho0⟩ := popI_s ho
  obtain ⟨kk, i, r, rfl, ho1⟩ := popR_s ho0
  obtain ⟨hkk, hin, ho2⟩ := bif_s ho1
  have hi : i < w.1 kk := tail1 hst _ List.mem_cons_self
  have hv : VLv w (HO (ek kk) (w.2 kk j.toNatClampNeg)) := by
    cases h : w.2 kk j.toNatClampNeg with
    | none => exact trivial
    | some o => exact hR.2.2.2.2.1 kk _ o hkk h
  have h2 := hk _ _ _ _ _ (ho2 _ rfl) g H locs la hge hR hS hL (cons1 hv (tail1 (tail1 hst)))
  rw [List.map_cons, ← rf_map] at h2
  rcases ra4 hkk with rfl | rfl | rfl | rfl
  · exact va_aldq (D := G.1) (tys := tysG G) (C := RX3) hx hb hK (va_one (hR.1 15 i (by decide) hi).1) 0 3 rfl rfl hin hd h2
  · exact va_aldq (D := G.1) (tys := tysG G) (C := RX4) hx hb hK (va_one (hR.1 16 i (by decide) hi).1) 0 4 rfl rfl hin hd h2
  · exact va_aldq (D := G.1) (tys := tysG G) (C := RX7) hx hb hK (va_one (hR.1 17 i (by decide) hi).1) 0 5 rfl rfl hin hd h2
  · exact va_aldq (D := G.1) (tys := tysG G) (C := RX9) hx hb hK (va_one (hR.1 18 i (by decide) hi).1) 0 6 rfl rfl hin hd h2
theorem up3_at {G : HG} {g : HA} {w : HW} {σ : HS} {k i f : Nat} {v : Int32} {H : Heap} (hk : Nat.blt k 12 = false) (h2 : isRA k = false) (h : va_at G.1 vwCl (g k i, .inl (G.2.1 (ac k), al k i, .inl (upd (σ k i) f v))) H) : va_at G.1 vwCl (g k i, ent G g w (up3 σ k i f v) k i) H := by
  rw [ent_row hk h2, up3_row]
  exact h
theorem ok_iast {cc : ByteArray} {own : String} {nL : Nat} {ret : Option FieldType} {lv pc : Nat} {nx : Nat} (hd : decode cc pc = .ok (.iastore, 1)) (hn : pc + 1 = nx) : HOK cc own nL ret lv pc (o_iast nx) := by
  intro p l e R s m args below meth c cells slots mc ms Q G A g0 w0 q C k hk ls st w σ ho
  obtain ⟨hx, hb, hml, hown, hts, hK, hr, hlk, hZ, hSR, hA, hlv, hcs, hcm, hQ⟩ := C
  subst hn
  intro g H locs la hge hR hS hL hst
  obtain ⟨v, r1, rfl, ho3⟩ := popI_s ho
  obtain ⟨j, r0, rfl, ho0⟩ := popI_s ho3
  obtain ⟨kk, i, r, rfl, ho1⟩ := popR_s ho0
  obtain ⟨hkk, hin, ho2⟩ := bif_s ho1
  have hi : i < w.1 kk := tail1 (tail1 hst) _ List.mem_cons_self
  rcases or_beq hkk with rfl | rfl
  · exact hx_iast (D := G.1) (tys := tysG G) (t0 := 1) hx hb hK (hR.1 13 i (by decide) hi).1 rfl hin hd fun H1 sl h1 hz oq =>
      hk _ _ _ _ _ ho2 g H1 _ la hge (hR.upd (by decide) hi (up3_at rfl rfl h1) oq (fun k' i' h => up3_ne h)) (hS.put hz oq (hR.1 13 i (by decide) hi).2) hL (tail1 (tail1 (tail1 hst)))
  · exact hx_iast (D := G.1) (tys := tysG G) (t0 := 1) hx hb hK (hR.1 20 i (by decide) hi).1 rfl hin hd fun H1 sl h1 hz oq =>
      hk _ _ _ _ _ ho2 g H1 _ la hge (hR.upd (by decide) hi (up3_at rfl rfl h1) oq (fun k' i' h => up3_ne h)) (hS.put hz oq (hR.1 20 i (by decide) hi).2) hL (tail1 (tail1 (tail1 hst)))
theorem ok_bast {cc : ByteArray} {own : String} {nL : Nat} {ret : Option FieldType} {lv pc : Nat} {nx : Nat} (hd : decode cc pc = .ok (.bastore, 1)) (hn : pc + 1 = nx) : HOK cc own nL ret lv pc (o_bast nx) := by
  intro p l e R s m args below meth c cells slots mc ms Q G A g0 w0 q C k hk ls st w σ ho
  obtain ⟨hx, hb, hml, hown, hts, hK, hr, hlk, hZ, hSR, hA, hlv, hcs, hcm, hQ⟩ := C
  subst hn
  intro g H locs la hge hR hS hL hst
  obtain ⟨v, r1, rfl, ho3⟩ := popI_s ho
  obtain ⟨j, r0, rfl, ho0⟩ := popI_s ho3
  obtain ⟨kk, i, r, rfl, ho1⟩ := popR_s ho0
  obtain ⟨hkk, hin, ho2⟩ := bif_s ho1
  have hi : i < w.1 kk := tail1 (tail1 hst) _ List.mem_cons_self
  have ek := Nat.eq_of_beq_eq_true hkk
  subst ek
  exact hx_bast (D := G.1) (tys := tysG G) (t0 := 0) hx hb hK (hR.1 12 i (by decide) hi).1 rfl hin hd fun H1 sl h1 hz oq =>
      hk _ _ _ _ _ ho2 g H1 _ la hge (hR.upd (by decide) hi (up3_at rfl rfl h1) oq (fun k' i' h => up3_ne h)) (hS.put hz oq (hR.1 12 i (by decide) hi).2) hL (tail1 (tail1 (tail1 hst)))
theorem ok_zast {cc : ByteArray} {own : String} {nL : Nat} {ret : Option FieldType} {lv pc : Nat} {nx : Nat} (hd : decode cc pc = .ok (.bastore, 1)) (hn : pc + 1 = nx) : HOK cc own nL ret lv pc (o_zast nx) := by
  intro p l e R s m args below meth c cells slots mc ms Q G A g0 w0 q C k hk ls st w σ ho
  obtain ⟨hx, hb, hml, hown, hts, hK, hr, hlk, hZ, hSR, hA, hlv, hcs, hcm, hQ⟩ := C
  subst hn
  intro g H locs la hge hR hS hL hst
  obtain ⟨v, r1, rfl, ho3⟩ := popI_s ho
  obtain ⟨j, r0, rfl, ho0⟩ := popI_s ho3
  obtain ⟨kk, i, r, rfl, ho1⟩ := popR_s ho0
  obtain ⟨hkk, hz1, hin, ho2⟩ := bif_s ho1
  have hi : i < w.1 kk := tail1 (tail1 hst) _ List.mem_cons_self
  have ek := Nat.eq_of_beq_eq_true hkk
  subst ek
  exact hx_zast (D := G.1) (tys := tysG G) (t0 := 2) hx hb hK (hR.1 21 i (by decide) hi).1 rfl hin (nar_z hz1).1 hd fun H1 sl h1 hz oq =>
      hk _ _ _ _ _ ho2 g H1 _ la hge (hR.upd (by decide) hi (up3_at rfl rfl h1) oq (fun k' i' h => up3_ne h)) (hS.put hz oq (hR.1 21 i (by decide) hi).2) hL (tail1 (tail1 (tail1 hst)))
theorem ok_iret {cc : ByteArray} {own : String} {nL : Nat} {lv pc : Nat} (hd : decode cc pc = .ok (.ireturn, 1)) : HOK cc own nL (some .int) lv pc o_iret := by
  intro p l e R s m args below meth c cells slots mc ms Q G A g0 w0 q C k hk ls st w σ ho
  obtain ⟨hx, hb, hml, hown, hts, hK, hr, hlk, hZ, hSR, hA, hlv, hcs, hcm, hQ⟩ := C
  intro g H locs la hge hR hS hL hst
  obtain ⟨v, r, rfl, ho1⟩ := popI_s ho
  obtain ⟨rfl, ho2⟩ := hnil_s ho1
  rw [hQ _ _ _ ho2]
  refine W.widen hcm.1 hcm.2 ?_
  exact W.iret hx hb hr (fun t ht hW => ⟨⟨some (HI v), w, σ, g, rfl, ho2, hge, fun u hu => by cases hu; exact trivial, by rw [ht]; exact hR⟩, hS.F ht⟩) hS.2.2 hd hlk
theorem ok_zret {cc : ByteArray} {own : String} {nL : Nat} {lv pc : Nat} (hd : decode cc pc = .ok (.ireturn, 1)) : HOK cc own nL (some .boolean) lv pc o_zret := by
  intro p l e R s m args below meth c cells slots mc ms Q G A g0 w0 q C k hk ls st w σ ho
  obtain ⟨hx, hb, hml, hown, hts, hK, hr, hlk, hZ, hSR, hA, hlv, hcs, hcm, hQ⟩ := C
  intro g H locs la hge hR hS hL hst
  obtain ⟨v, r, rfl, ho1⟩ := popI_s ho
  obtain ⟨rfl, hz, ho2⟩ := hnil_s ho1
  rw [hQ _ _ _ ho2]
  refine W.widen hcm.1 hcm.2 ?_
  exact W.zret hx hb hr (nar_z hz).1 (fun t ht hW => ⟨⟨some (HI v), w, σ, g, rfl, ho2, hge, fun u hu => by cases hu; exact trivial, by rw [ht]; exact hR⟩, hS.F ht⟩) hS.2.2 hd hlk
theorem ok_aret {cc : ByteArray} {own C : String} {nL : Nat} {lv pc : Nat} (hd : decode cc pc = .ok (.areturn, 1)) : HOK cc own nL (some (.object C)) lv pc o_aret := by
  intro p l e R s m args below meth c cells slots mc ms Q G A g0 w0 q C k hk ls st w σ ho
  obtain ⟨hx, hb, hml, hown, hts, hK, hr, hlk, hZ, hSR, hA, hlv, hcs, hcm, hQ⟩ := C
  intro g H locs la hge hR hS hL hst
  obtain ⟨kd, o, r, rfl, ho1⟩ := popO_s ho
  obtain ⟨rfl, ho2⟩ := hnil_s ho1
  rw [hQ _ _ _ ho2]
  refine W.widen hcm.1 hcm.2 ?_
  exact W.aret (v := toV g (HO kd o)) hx hb hr (Or.inl ⟨_, rfl⟩) (by cases o; exact Or.inl rfl; exact Or.inr ⟨_, rfl⟩) (fun t ht hW => ⟨⟨some (HO kd o), w, σ, g, rfl, ho2, hge, fun u hu => by cases hu; exact hst _ List.mem_cons_self, by rw [ht]; exact hR⟩, hS.F ht⟩) hS.2.2 hd hlk
theorem ok_vret {cc : ByteArray} {own : String} {nL : Nat} {lv pc : Nat} (hd : decode cc pc = .ok (.return_, 1)) : HOK cc own nL none lv pc o_vret := by
  intro p l e R s m args below meth c cells slots mc ms Q G A g0 w0 q C k hk ls st w σ ho
  obtain ⟨hx, hb, hml, hown, hts, hK, hr, hlk, hZ, hSR, hA, hlv, hcs, hcm, hQ⟩ := C
  intro g H locs la hge hR hS hL hst
  obtain ⟨rfl, ho2⟩ := hnil_s ho
  rw [hQ _ _ _ ho2]
  refine W.widen hcm.1 hcm.2 ?_
  exact W.vret hx hb hr (fun t ht hW => ⟨⟨none, w, σ, g, rfl, ho2, hge, (fun u hu => nomatch hu), by rw [ht]; exact hR⟩, hS.F ht⟩) hS.2.2 hd hlk
end
section
/-! OUR FRAME, 5: contracts, calls, conditions of a method -/
theorem TTgood {x : Cond} (h : x ∈ TT) : goodWord x = true ∨ isNest x = true := by
  have := (List.mem_filter.mp h).2
  unfold okw at this
  rw [Bool.or_eq_true] at this
  exact this
theorem TTw {s U : State} {args a' : Array Value} (hW : s.WarmedH U.vm) (hts : ∀ x ∈ TT, x.before args s = true) : ∀ x ∈ TT, x.before a' U = true := by
  intro x hx
  have h := hts x hx
  rcases TTgood hx with hg | hg
  · exact word_at hW (good_of_word hg) h
  · cases x <;> first
      | (simp [isNest] at hg; done)
      | exact va_Nw.use rfl (va_Nw.warmF hW (va_Nw.of rfl h))
      | exact va_Nw.use rfl (va_Nw.warmM hW (va_Nw.of rfl h))
def rmL (lv mc ms : Nat) : Room := { frames := lv, cells := mc, slots := ms, locals := 30 * lv }
def PreC (G : HG) (A : Nat → Prop) (g : HA) (w : HW) (σ : HS) (U : State) : Prop := (∀ x ∈ TT, x.before #[] U = true) ∧ va_K G.1 vwCl (tysG G) U ∧ vk_S 6 slen sbyt G.2.2.1 G.2.2.2 A U U.heap ∧ SRf G U ∧ RepS G A g w σ U.heap ∧ ∀ q, U.heap.size ≤ q → A q
def c1b (v : HV) : Bool := match v with
  | .inr (.inr _) => false
  | _ => true
/-- a method's contract, as a transformer of conditions -/
def Ctr (y : MethodName) (bytes : ByteArray) (maxL : Nat) (ret : Option FieldType) (lv mc ms n : Nat) (sp : HSp) : Prop :=
  ∀ (l : Launch) (G : HG) (A : Nat → Prop) (g : HA) (as : List HV) (w : HW) (σ : HS) (K : HRt), sp as w σ K → (∀ v ∈ as, VLv w v) → as.all c1b = true → as.length = n → Met l y [.code y bytes maxL ret] (rmL lv mc ms) (va_Pc (as.map (toV g)) (PreC G A g w σ)) (QQ G A g w K) mc ms A
theorem PreC.calling {G : HG} {A : Nat → Prop} {g : HA} {w : HW} {σ : HS} {U : State} {gf : JFrame} {mk : MethodId} {a : Array Value} (h : PreC G A g w σ U) : PreC G A g w σ (U.calling gf mk a) := by
  obtain ⟨h1, h2, h3, h4, h5, h6⟩ := h
  obtain ⟨s1, s2, s3, s4, s5, s6⟩ := h4
  exact ⟨TTw (s := U) (U := U.calling gf mk a) (State.WarmedH.refl U) h1, va_K.moved (u := U) (Vm.Alike.refl U.vm) h2, vk_S.moved (u := U) (Vm.Alike.refl U.vm) h3, ⟨s1.same rfl, s2.same rfl, s3.same rfl, s4.same rfl, s5.same rfl, s6.same rfl⟩, h5, h6⟩
theorem PreC.at {G : HG} {A : Nat → Prop} {g : HA} {w : HW} {σ : HS} {s U : State} {args : Array Value} {H : Heap} {locs : List Loc} (hts : ∀ x ∈ TT, x.before args s = true) (hK : va_K G.1 vwCl (tysG G) s) (hZ : vk_S 6 slen sbyt G.2.2.1 G.2.2.2 A s s.heap) (hSR : SRf G s) (hA : ∀ q, s.heap.size ≤ q → A q) (hR : RepS G A g w σ H) (hS : va_S A s.heap H locs) (hU : U.heap = H) (hW : s.WarmedH U.vm) : PreC G A g w σ U := by
  subst hU
  obtain ⟨s1, s2, s3, s4, s5, s6⟩ := hSR
  exact ⟨TTw hW hts, hK.moved hW.alike, (hZ.kept hS.2.1).moved hW.alike, ⟨s1.warm hW, s2.warm hW, s3.warm hW, s4.warm hW, s5.warm hW, s6.warm hW⟩, hR, fun q h => hA q (Nat.le_trans hS.1 h)⟩
theorem pc_blind {G : HG} {A : Nat → Prop} {g : HA} {w : HW} {σ : HS} {vs : List Value} : FrameBlind (va_Pc vs (PreC G A g w σ)) := fun _ _ _ _ q => ⟨q.1, q.2.calling⟩
theorem good1 {y : MethodName} {bytes : ByteArray} {maxL : Nat} {ret : Option FieldType} (h : Cond.code y bytes maxL ret ∈ TT) : GoodIn TT [.code y bytes maxL ret] := by
  intro x hx
  rw [List.mem_singleton.mp hx]
  exact ⟨h, good_of_word rfl⟩
section HCall
variable {p : Program} {l : Launch} {e : Env} {R : Room} {s : State} {m : MethodId} {args : Array Value} {below : List Frame} {meth : Method} {c : Code} {H : Heap} {locs : List Loc} {cells slots mc ms pc : Nat} {Q : State → Prop} {G : HG} {A : Nat → Prop} {g : HA} {w : HW} {K : HRt} {la : Array Slot} {st0 rest : List Value} {a : Array Value}
theorem call_go (hr : va_Run p l e R s m args below meth c H locs cells slots mc ms (F0 m pc la st0) rest (QQ G A g w K a) A) (hS : va_S A s.heap H locs)
    (kk : ∀ (r : Option HV) (w' : HW) (σ' : HS) (g' : HA) (H1 : Heap) (locs1 : List Loc), K r w' σ' → GE g w g' w' → (∀ v, r = some v → VLv w' v) → RepS G A g' w' σ' H1 → va_S A s.heap H1 locs1 → W p l e R s m args below meth c H1 locs1 (cells + mc) (slots + ms) Q (F0 m (pc + 3) la ((r.map (toV g')).toList ++ rest))) : W p l e R s m args below meth c H locs cells slots Q (F0 m pc la st0) := by
  intro T hT X
  obtain ⟨v, st₀, t, T', L, h0, X', hL, e1, e2, ⟨⟨r, w', σ', g', hv, hp, hge, hlv, hb⟩, hz, hk⟩, st⟩ := hr T hT X
  cases hv
  rw [h0] at hz hk
  obtain ⟨t2, a1, b1⟩ := kk r w' σ' g' T'.heap (locs ++ L) hp hge hlv (by rw [e1]; exact hb)
    ⟨Nat.le_trans hS.1 (by rw [e1]; exact hz), fun q h1 h2 => by rw [e1, hk q (Nat.lt_of_lt_of_le h1 hS.1) h2]; exact hS.2.1 q h1 h2, fun q hq => by
      rcases List.mem_append.mp hq with h | h
      · exact hS.2.2 q h
      · exact hL q h⟩ T' rfl X'
  exact ⟨t2, st t2 a1, b1⟩
end HCall
theorem cat_le (v : Value) : v.category ≤ 2 := by cases v <;> simp [Value.category]
theorem cat_sum : ∀ {st : List Value}, (st.map fun v => v.category).sum ≤ 2 * st.length
  | [] => Nat.le_refl _
  | a :: r => by
    have h1 := cat_le a
    have h2 := cat_sum (st := r)
    simp only [List.map_cons, List.sum_cons, List.length_cons]
    omega
def o_callS (n : Nat) (sp : HSp) (nx : Nat) : HOp := fun k _ ls st w σ => bif Nat.beq (st.take n).length n && (st.take n).all c1b && Nat.ble (st.drop n).length 4 then sp (st.take n).reverse w σ (fun r w' σ' => k nx ls (r.toList ++ st.drop n) w' σ') else False
def o_callV (n kd : Nat) (sp : HSp) (nx : Nat) : HOp := fun k _ ls st w σ => popR (st.take n).reverse fun kk i As => bif Nat.beq kk kd && Nat.beq (As.length + 1) n && As.all c1b && Nat.ble (st.drop n).length 4 then sp (HR kd i :: As) w σ (fun r w' σ' => k nx ls (r.toList ++ st.drop n) w' σ') else False
theorem room_of {R : Room} {lv lv' maxL : Nat} (hlv : lv ≤ R.frames ∧ 30 * lv ≤ R.locals) (h1 : lv' < lv) (h2 : maxL ≤ 11) : (rmL lv' 0 0).frames + 1 ≤ R.frames ∧ 8 + (maxL + 11) + (rmL lv' 0 0).locals ≤ R.locals := by
  show lv' + 1 ≤ R.frames ∧ 8 + (maxL + 11) + 30 * lv' ≤ R.locals
  omega
theorem live_tail {w w' : HW} {g g' : HA} {st : List HV} {n : Nat} {r : Option HV} (hge : GE g w g' w') (hst : ∀ v ∈ st, VLv w v) (hr : ∀ v, r = some v → VLv w' v) : (r.map (toV g')).toList ++ (st.drop n).map (toV g) = (r.toList ++ st.drop n).map (toV g') ∧ ∀ v ∈ r.toList ++ st.drop n, VLv w' v := by
  have hd : ∀ v ∈ st.drop n, VLv w v := fun v hv => hst v (List.mem_of_mem_drop hv)
  obtain ⟨h1, h2⟩ := map_ge hge hd
  refine ⟨by rw [List.map_append, h1]; cases r <;> rfl, fun v hv => ?_⟩
  rcases List.mem_append.mp hv with h | h
  · cases r with
    | none => simp at h
    | some u => simp at h; exact h ▸ hr u rfl
  · exact h2 v h
theorem ok_callS {cc : ByteArray} {own : String} {nL : Nat} {ret : Option FieldType} {lv pc : Nat} {ix n nx lv' maxL : Nat} {y : MethodName} {bytes : ByteArray} {rt : Option FieldType} {sp : HSp} (hd : decode cc pc = .ok (.invokestatic ix, 3)) (hC : Ctr y bytes maxL rt lv' 0 0 n sp) (hl : lv' < lv) (hm : maxL ≤ 11) (hw1 : Cond.code y bytes maxL rt ∈ TT) (hw2 : Cond.methodLink own ix y ∈ TT) (hw3 : Cond.static y ∈ TT) (hw4 : Cond.initialized y.cls ∈ TT) (hy : y.cls ≠ "java/lang/invoke/MethodHandle" ∧ y.cls ≠ "java/lang/invoke/VarHandle" ∧ (parseMethodDescriptor y.desc).map (fun d => d.parameters.length) = some n) (hn : pc + 3 = nx) : HOK cc own nL ret lv pc (o_callS n sp nx) := by
  intro p l e R s m args below meth c cells slots mc ms Q G A g0 w0 q C k hk ls st w σ ho
  obtain ⟨hx, hb, hml, hown, hts, hK, hr, hlk, hZ, hSR, hA, hlv, hcs, hcm, hQ⟩ := C
  subst hn
  intro g H locs la hge hR hS hL hst
  obtain ⟨hc, ho1⟩ := bif_s ho
  simp only [Bool.and_eq_true] at hc
  obtain ⟨⟨hc1, hc2⟩, hc3⟩ := hc
  have hn' : (st.take n).length = n := Nat.eq_of_beq_eq_true hc1
  have hM := hC l G A g (st.take n).reverse w σ _ ho1 (fun v hv => hst v (List.mem_of_mem_take (List.mem_reverse.mp hv))) (by rw [List.all_reverse]; exact hc2) (by rw [List.length_reverse]; exact hn')
  have hrun := va_runS (e := e) (g := F0 m pc la (st.map (toV g))) (rest := (st.drop n).map (toV g)) (H := H) (locs := locs) (cells := cells) (slots := slots) (below := below) (meth := meth) ⟨hx, hb, hml, hown, hts⟩ hM ⟨callB_of n hts (good1 hw1) rfl rfl rfl (hts _ hw4) (hts _ hw2) hy (room_of hlv hl hm), hts _ hw3⟩ ⟨pc_blind, fun U hU hW => ⟨rfl, PreC.at hts hK hZ hSR hA hR hS hU hW⟩⟩ rfl (by rw [List.length_map, List.length_reverse]; exact hn') hL.1.1 (by
    show st.map (toV g) = _
    rw [← List.map_reverse, List.reverse_reverse, ← List.map_append, List.take_append_drop]) (lv_room (Nat.le_trans cat_sum (by rw [List.length_map]; have := Nat.le_of_ble_eq_true hc3; omega))) hd hcs
  refine call_go hrun hS fun r w' σ' g' H1 locs1 hp hge2 hlr hR1 hS1 => ?_
  obtain ⟨e1, h2⟩ := live_tail (n := n) hge2 hst hlr
  rw [e1]
  exact hk _ _ _ _ _ hp g' H1 locs1 la (hge.tr hge2) hR1 hS1 (hL.ge hge2) h2
theorem ok_callSN {cc : ByteArray} {own : String} {nL : Nat} {ret : Option FieldType} {lv pc : Nat} {ix n nx lv' maxL : Nat} {host : String} {y : MethodName} {bytes : ByteArray} {rt : Option FieldType} {sp : HSp} (hd : decode cc pc = .ok (.invokestatic ix, 3)) (hC : Ctr y bytes maxL rt lv' 0 0 n sp) (hl : lv' < lv) (hm : maxL ≤ 11) (hw1 : Cond.code y bytes maxL rt ∈ TT) (hw2 : Cond.methodLinkNest own ix y host ∈ TT) (hw3 : Cond.static y ∈ TT) (hw4 : Cond.initialized y.cls ∈ TT) (hy : y.cls ≠ "java/lang/invoke/MethodHandle" ∧ y.cls ≠ "java/lang/invoke/VarHandle" ∧ (parseMethodDescriptor y.desc).map (fun d => d.parameters.length) = some n) (hn : pc + 3 = nx) : HOK cc own nL ret lv pc (o_callS n sp nx) := by
  intro p l e R s m args below meth c cells slots mc ms Q G A g0 w0 q C k hk ls st w σ ho
  obtain ⟨hx, hb, hml, hown, hts, hK, hr, hlk, hZ, hSR, hA, hlv, hcs, hcm, hQ⟩ := C
  subst hn
  intro g H locs la hge hR hS hL hst
  obtain ⟨hc, ho1⟩ := bif_s ho
  simp only [Bool.and_eq_true] at hc
  obtain ⟨⟨hc1, hc2⟩, hc3⟩ := hc
  have hn' : (st.take n).length = n := Nat.eq_of_beq_eq_true hc1
  have hM := hC l G A g (st.take n).reverse w σ _ ho1 (fun v hv => hst v (List.mem_of_mem_take (List.mem_reverse.mp hv))) (by rw [List.all_reverse]; exact hc2) (by rw [List.length_reverse]; exact hn')
  have hrun := va_runSN (e := e) (g := F0 m pc la (st.map (toV g))) (rest := (st.drop n).map (toV g)) (H := H) (locs := locs) (cells := cells) (slots := slots) (below := below) (meth := meth) ⟨hx, hb, hml, hown, hts⟩ hM ⟨va_cnB n hts (good1 hw1) rfl rfl rfl (va_Nw.of rfl (hts _ hw2)) (hts _ hw4) hy (room_of hlv hl hm), hts _ hw3, trivial⟩ ⟨pc_blind, fun U hU hW => ⟨rfl, PreC.at hts hK hZ hSR hA hR hS hU hW⟩⟩ rfl (by rw [List.length_map, List.length_reverse]; exact hn') hL.1.1 (by
    show st.map (toV g) = _
    rw [← List.map_reverse, List.reverse_reverse, ← List.map_append, List.take_append_drop]) (lv_room (Nat.le_trans cat_sum (by rw [List.length_map]; have := Nat.le_of_ble_eq_true hc3; omega))) hd hcs
  refine call_go hrun hS fun r w' σ' g' H1 locs1 hp hge2 hlr hR1 hS1 => ?_
  obtain ⟨e1, h2⟩ := live_tail (n := n) hge2 hst hlr
  rw [e1]
  exact hk _ _ _ _ _ hp g' H1 locs1 la (hge.tr hge2) hR1 hS1 (hL.ge hge2) h2
theorem ok_callV {cc : ByteArray} {own : String} {nL : Nat} {ret : Option FieldType} {lv pc : Nat} {ix n n' nx lv' maxL kd : Nat} {C : String} {T : u_T} {N : Nat} {y : MethodName} {bytes : ByteArray} {rt : Option FieldType} {sp : HSp} (hd : decode cc pc = .ok (.invokevirtual ix, 3)) (hC : Ctr y bytes maxL rt lv' 0 0 n sp) (hl : lv' < lv) (hm : maxL ≤ 11) (hw1 : Cond.code y bytes maxL rt ∈ TT) (hw2 : Cond.methodLink own ix y ∈ TT) (hw3 : Cond.instanceMethod y ∈ TT) (hw5 : Cond.selects C y y ∈ TT) (hw4 : Cond.initialized y.cls ∈ TT) (hnn : n' + 1 = n) (hy : y.cls ≠ "java/lang/invoke/MethodHandle" ∧ y.cls ≠ "java/lang/invoke/VarHandle" ∧ (parseMethodDescriptor y.desc).map (fun d => d.parameters.length) = some n') (hc : vwCl[kd]? = some (C, T, N)) (h12 : Nat.blt kd 12 = true) (hn : pc + 3 = nx) : HOK cc own nL ret lv pc (o_callV n kd sp nx) := by
  intro p l e R s m args below meth c cells slots mc ms Q G A g0 w0 q C k hk ls st w σ ho
  obtain ⟨hx, hb, hml, hown, hts, hK, hr, hlk, hZ, hSR, hA, hlv, hcs, hcm, hQ⟩ := C
  subst hn
  intro g H locs la hge hR hS hL hst
  obtain ⟨kk, i, As, hrev, ho0⟩ := popR_s ho
  obtain ⟨hcc, ho1⟩ := bif_s ho0
  simp only [Bool.and_eq_true] at hcc
  obtain ⟨⟨⟨hc0, hc1⟩, hc2⟩, hc3⟩ := hcc
  have ek : kk = kd := Nat.eq_of_beq_eq_true hc0
  subst ek
  have hn1 : As.length + 1 = n := Nat.eq_of_beq_eq_true hc1
  have htk : st.take n = As.reverse ++ [HR kk i] := by
    rw [← List.reverse_reverse (st.take n), hrev, List.reverse_cons]
  have hlv1 : ∀ v ∈ HR kk i :: As, VLv w v := fun v hv => hst v (List.mem_of_mem_take (List.mem_reverse.mp (hrev ▸ hv)))
  have hM := hC l G A g (HR kk i :: As) w σ _ ho1 hlv1 (by rw [List.all_cons, hc2]; rfl) (by rw [List.length_cons]; exact hn1)
  have hi : i < w.1 kk := hlv1 _ List.mem_cons_self
  have h22 : kk < 22 := Nat.lt_trans (b12 h12) (by decide)
  have hat := (hR.1 kk i h22 hi).1
  rw [ent_obj h12] at hat
  have hrun := va_runV (e := e) (g := F0 m pc la (st.map (toV g))) (As := As.map (toV g)) (b := g kk i) (rest := (st.drop n).map (toV g)) (H := H) (locs := locs) (cells := cells) (slots := slots) (below := below) (meth := meth) ⟨hx, hb, hml, hown, hts⟩ hM ⟨callB_of n' hts (good1 hw1) rfl rfl rfl (hts _ hw4) (hts _ hw2) hy (room_of hlv hl hm), hts _ hw3, hts _ hw5⟩ ⟨pc_blind, va_recv hK (va_one hat) hc (q0 := 0) rfl, fun U hU hW => ⟨rfl, PreC.at hts hK hZ hSR hA hR hS hU hW⟩⟩ rfl (by rw [List.length_map]; omega) hL.1.1 (by
    show st.map (toV g) = _
    have e2 := congrArg (List.map (toV g)) (List.take_append_drop n st)
    rw [htk] at e2
    rw [← e2]
    simp [List.map_append, List.map_reverse, toV]) (lv_room (Nat.le_trans cat_sum (by rw [List.length_map]; have := Nat.le_of_ble_eq_true hc3; omega))) hd hcs
  refine call_go hrun hS fun r w' σ' g' H1 locs1 hp hge2 hlr hR1 hS1 => ?_
  obtain ⟨e1, h2⟩ := live_tail (n := n) hge2 hst hlr
  rw [e1]
  exact hk _ _ _ _ _ hp g' H1 locs1 la (hge.tr hge2) hR1 hS1 (hL.ge hge2) h2
theorem ok_callVN {cc : ByteArray} {own : String} {nL : Nat} {ret : Option FieldType} {lv pc : Nat} {ix n n' nx lv' maxL kd : Nat} {C host : String} {T : u_T} {N : Nat} {y : MethodName} {bytes : ByteArray} {rt : Option FieldType} {sp : HSp} (hd : decode cc pc = .ok (.invokevirtual ix, 3)) (hC : Ctr y bytes maxL rt lv' 0 0 n sp) (hl : lv' < lv) (hm : maxL ≤ 11) (hw1 : Cond.code y bytes maxL rt ∈ TT) (hw2 : Cond.methodLinkNest own ix y host ∈ TT) (hw3 : Cond.instanceMethod y ∈ TT) (hw5 : Cond.selects C y y ∈ TT) (hw4 : Cond.initialized y.cls ∈ TT) (hnn : n' + 1 = n) (hy : y.cls ≠ "java/lang/invoke/MethodHandle" ∧ y.cls ≠ "java/lang/invoke/VarHandle" ∧ (parseMethodDescriptor y.desc).map (fun d => d.parameters.length) = some n') (hc : vwCl[kd]? = some (C, T, N)) (h12 : Nat.blt kd 12 = true) (hn : pc + 3 = nx) : HOK cc own nL ret lv pc (o_callV n kd sp nx) := by
  intro p l e R s m args below meth c cells slots mc ms Q G A g0 w0 q C k hk ls st w σ ho
  obtain ⟨hx, hb, hml, hown, hts, hK, hr, hlk, hZ, hSR, hA, hlv, hcs, hcm, hQ⟩ := C
  subst hn
  intro g H locs la hge hR hS hL hst
  obtain ⟨kk, i, As, hrev, ho0⟩ := popR_s ho
  obtain ⟨hcc, ho1⟩ := bif_s ho0
  simp only [Bool.and_eq_true] at hcc
  obtain ⟨⟨⟨hc0, hc1⟩, hc2⟩, hc3⟩ := hcc
  have ek : kk = kd := Nat.eq_of_beq_eq_true hc0
  subst ek
  have hn1 : As.length + 1 = n := Nat.eq_of_beq_eq_true hc1
  have htk : st.take n = As.reverse ++ [HR kk i] := by
    rw [← List.reverse_reverse (st.take n), hrev, List.reverse_cons]
  have hlv1 : ∀ v ∈ HR kk i :: As, VLv w v := fun v hv => hst v (List.mem_of_mem_take (List.mem_reverse.mp (hrev ▸ hv)))
  have hM := hC l G A g (HR kk i :: As) w σ _ ho1 hlv1 (by rw [List.all_cons, hc2]; rfl) (by rw [List.length_cons]; exact hn1)
  have hi : i < w.1 kk := hlv1 _ List.mem_cons_self
  have h22 : kk < 22 := Nat.lt_trans (b12 h12) (by decide)
  have hat := (hR.1 kk i h22 hi).1
  rw [ent_obj h12] at hat
  have hrun := va_runVN (e := e) (g := F0 m pc la (st.map (toV g))) (As := As.map (toV g)) (b := g kk i) (rest := (st.drop n).map (toV g)) (H := H) (locs := locs) (cells := cells) (slots := slots) (below := below) (meth := meth) ⟨hx, hb, hml, hown, hts⟩ hM ⟨va_cnB n' hts (good1 hw1) rfl rfl rfl (va_Nw.of rfl (hts _ hw2)) (hts _ hw4) hy (room_of hlv hl hm), hts _ hw3, hts _ hw5⟩ ⟨pc_blind, va_recv hK (va_one hat) hc (q0 := 0) rfl, fun U hU hW => ⟨rfl, PreC.at hts hK hZ hSR hA hR hS hU hW⟩⟩ rfl (by rw [List.length_map]; omega) hL.1.1 (by
    show st.map (toV g) = _
    have e2 := congrArg (List.map (toV g)) (List.take_append_drop n st)
    rw [htk] at e2
    rw [← e2]
    simp [List.map_append, List.map_reverse, toV]) (lv_room (Nat.le_trans cat_sum (by rw [List.length_map]; have := Nat.le_of_ble_eq_true hc3; omega))) hd hcs
  refine call_go hrun hS fun r w' σ' g' H1 locs1 hp hge2 hlr hR1 hS1 => ?_
  obtain ⟨e1, h2⟩ := live_tail (n := n) hge2 hst hlr
  rw [e1]
  exact hk _ _ _ _ _ hp g' H1 locs1 la (hge.tr hge2) hR1 hS1 (hL.ge hge2) h2
end
section
/-! OUR FRAME, 6: switches, and a method's contract out of its conditions -/
theorem swc_s {k : Nat → Prop} {d : Nat} {x : Int32} : ∀ {ps : List (Int32 × Nat)}, swc k d x ps → (∃ q ∈ ps, x = q.1 ∧ k q.2) ∨ ((∀ q ∈ ps, x ≠ q.1) ∧ k d)
  | [], h => Or.inr ⟨fun _ hq => absurd hq List.not_mem_nil, h⟩
  | q :: r, h => by
    by_cases e : x = q.1
    · exact Or.inl ⟨q, List.mem_cons_self, e, h.1 e⟩
    · rcases swc_s (h.2 e) with ⟨p, h1, h2⟩ | ⟨h1, h2⟩
      · exact Or.inl ⟨p, List.mem_cons_of_mem _ h1, h2⟩
      · exact Or.inr ⟨fun p hp => (List.mem_cons.mp hp).elim (fun z => z ▸ e) (h1 p), h2⟩
theorem ok_tsw {cc : ByteArray} {own : String} {nL : Nat} {ret : Option FieldType} {lv pc : Nat} {dflt lo hi : Int} {offs : Array Int} {len d : Nat} {ps : List (Int32 × Nat)} (hd : decode cc pc = .ok (.tableswitch dflt lo hi offs, len)) (hdd : (pc : Int) + dflt = (d : Int)) (h1 : ps.all (fun q => decide (¬ q.1.toInt < lo) && decide (¬ hi < q.1.toInt) && (match offs[(q.1.toInt - lo).toNat]? with | some o => decide ((pc : Int) + o = (q.2 : Int)) | none => false)) = true) (h2 : (List.range (hi - lo + 1).toNat).all (fun (j : Nat) => ps.any fun q => decide (q.1.toInt = lo + (j : Int))) = true) : HOK cc own nL ret lv pc (o_sw ps d) := by
  intro p l e R s m args below meth c cells slots mc ms Q G A g0 w0 q C k hk ls st w σ ho
  obtain ⟨hx, hb, hml, hown, hts, hK, hr, hlk, hZ, hSR, hA, hlv, hcs, hcm, hQ⟩ := C
  intro g H locs la hge hR hS hL hst
  obtain ⟨x, r, rfl, ho1⟩ := popI_s ho
  rcases swc_s ho1 with ⟨q9, hq, rfl, h3⟩ | ⟨h3, h4⟩
  · have hq1 := List.all_eq_true.mp h1 q9 hq
    simp only [Bool.and_eq_true, decide_eq_true_eq] at hq1
    obtain ⟨⟨a1, a2⟩, a3⟩ := hq1
    cases ho9 : offs[(q9.1.toInt - lo).toNat]? with
    | none => rw [ho9] at a3; cases a3
    | some o =>
      rw [ho9] at a3
      exact lv_tableIn hx hb hd a1 a2 ho9 (of_decide_eq_true a3) (hk _ _ _ _ _ h3 g H locs la hge hR hS hL (tail1 hst))
  · refine lv_tableOut hx hb hd ?_ hdd (hk _ _ _ _ _ h4 g H locs la hge hR hS hL (tail1 hst))
    by_cases c1 : x.toInt < lo
    · exact Or.inl c1
    · by_cases c2 : hi < x.toInt
      · exact Or.inr c2
      · exfalso
        have h5 := List.all_eq_true.mp h2 (x.toInt - lo).toNat (List.mem_range.mpr (by omega))
        obtain ⟨q9, hq, h6⟩ := List.any_eq_true.mp h5
        have h7 := of_decide_eq_true h6
        exact h3 q9 hq (Int32.toInt_inj.mp (by rw [h7]; omega))
theorem lsw_off {dflt : Int} {d pc : Nat} (hdd : (pc : Int) + dflt = (d : Int)) {x : Int32} : ∀ {ps : List (Int32 × Nat)} {os : List (Int × Int)}, os = ps.map (fun q => (q.1.toInt, (q.2 : Int) - pc)) → ∀ {k : Nat → Prop}, swc k d x ps → ∃ t : Nat, (pc : Int) + Op.lookupswitch.offset os dflt x.toInt = (t : Int) ∧ k t
  | [], os, e, k, h => by subst e; exact ⟨d, hdd, h⟩
  | q :: r, os, e, k, h => by
    subst e
    rw [List.map_cons, Op.lookupswitch.offset_cons]
    by_cases c : x = q.1
    · rw [if_pos (by rw [c])]
      exact ⟨q.2, by omega, h.1 c⟩
    · rw [if_neg (fun z => c (Int32.toInt_inj.mp z.symm))]
      exact lsw_off hdd rfl (h.2 c)
theorem ok_lsw {cc : ByteArray} {own : String} {nL : Nat} {ret : Option FieldType} {lv pc : Nat} {dflt : Int} {os : Array (Int × Int)} {len d : Nat} {ps : List (Int32 × Nat)} (hd : decode cc pc = .ok (.lookupswitch dflt os, len)) (hdd : (pc : Int) + dflt = (d : Int)) (h1 : os.toList = ps.map (fun q => (q.1.toInt, (q.2 : Int) - pc))) (h2 : (os.toList.zip (os.toList.drop 1)).all (fun (a, next) => a.1 < next.1) = true) : HOK cc own nL ret lv pc (o_sw ps d) := by
  intro p l e R s m args below meth c cells slots mc ms Q G A g0 w0 q C k hk ls st w σ ho
  obtain ⟨hx, hb, hml, hown, hts, hK, hr, hlk, hZ, hSR, hA, hlv, hcs, hcm, hQ⟩ := C
  intro g H locs la hge hR hS hL hst
  obtain ⟨x, r, rfl, ho1⟩ := popI_s ho
  obtain ⟨t, ht, h3⟩ := lsw_off hdd h1 ho1
  exact lv_lookup hx hb hd h2 rfl ht (hk _ _ _ _ _ h3 g H locs la hge hR hS hL (tail1 hst))
def o_lcmp (nx : Nat) : HOp := fun k _ ls st w σ => popL st fun y r => popL r fun x r => k nx ls (HI (lg_cmp x y) :: r) w σ
theorem ok_lcmp {cc : ByteArray} {own : String} {nL : Nat} {ret : Option FieldType} {lv pc : Nat} {nx : Nat} (hd : decode cc pc = .ok (.lcmp, 1)) (hn : pc + 1 = nx) : HOK cc own nL ret lv pc (o_lcmp nx) := by
  intro p l e R s m args below meth c cells slots mc ms Q G A g0 w0 q C k hk ls st w σ ho
  obtain ⟨hx, hb, hml, hown, hts, hK, hr, hlk, hZ, hSR, hA, hlv, hcs, hcm, hQ⟩ := C
  subst hn
  intro g H locs la hge hR hS hL hst
  obtain ⟨y, r0, rfl, ho1⟩ := popL_s ho
  obtain ⟨x, r, rfl, ho2⟩ := popL_s ho1
  exact W.lcmp hx hb hd (hk _ _ _ _ _ ho2 g H locs la hge hR hS hL (cons1 (a := HI _) trivial (tail1 (tail1 hst))))
def o_max (nx : Nat) : HOp := fun k _ ls st w σ => bif Nat.ble st.length 4 then popI st (fun y r => popI r fun x r => k nx ls (HI (if x < y then y else x) :: r) w σ) else False
def o_min (nx : Nat) : HOp := fun k _ ls st w σ => bif Nat.ble st.length 4 then popI st (fun y r => popI r fun x r => k nx ls (HI (if y < x then y else x) :: r) w σ) else False
theorem ok_max {cc : ByteArray} {own : String} {nL : Nat} {ret : Option FieldType} {lv pc : Nat} {ix nx : Nat} (hd : decode cc pc = .ok (.invokestatic ix, 3)) (h1 : Cond.methodLink own ix Lib.Math.max.name ∈ TT) (h2 : Cond.static Lib.Math.max.name ∈ TT) (h3 : Cond.initialized "java/lang/Math" ∈ TT) (h4 : Cond.code Lib.Math.max.name Lib.Math.max.code 2 (some .int) ∈ TT) (hl : 1 ≤ lv) (hn : pc + 3 = nx) : HOK cc own nL ret lv pc (o_max nx) := by
  intro p l e R s m args below meth c cells slots mc ms Q G A g0 w0 q C k hk ls st w σ ho
  obtain ⟨hx, hb, hml, hown, hts, hK, hr, hlk, hZ, hSR, hA, hlv, hcs, hcm, hQ⟩ := C
  subst hn
  intro g H locs la hge hR hS hL hst
  obtain ⟨h9, ho0⟩ := bif_s ho
  obtain ⟨y, r0, rfl, ho1⟩ := popI_s ho0
  obtain ⟨x, r, rfl, ho2⟩ := popI_s ho1
  have h8 := Nat.le_of_ble_eq_true h9
  have h7 : ((r.map (toV g)).map fun v => v.category).sum + 13 ≤ R.locals := by
    have := cat_sum (st := r.map (toV g))
    rw [List.length_map] at this
    simp only [List.length_cons] at h8
    omega
  exact va_mmax hx hb (hml.trans hL.1.1.symm) hown (hts _ h1) (hts _ h2) (hts _ h3) (hts _ h4) (by omega) h7 hcs.1 hcs.2 hd (hk _ _ _ _ _ ho2 g H locs la hge hR hS hL (cons1 (a := HI _) trivial (tail1 (tail1 hst))))
theorem ok_min {cc : ByteArray} {own : String} {nL : Nat} {ret : Option FieldType} {lv pc : Nat} {ix nx : Nat} (hd : decode cc pc = .ok (.invokestatic ix, 3)) (h1 : Cond.methodLink own ix Lib.Math.min.name ∈ TT) (h2 : Cond.static Lib.Math.min.name ∈ TT) (h3 : Cond.initialized "java/lang/Math" ∈ TT) (h4 : Cond.code Lib.Math.min.name Lib.Math.min.code 2 (some .int) ∈ TT) (hl : 1 ≤ lv) (hn : pc + 3 = nx) : HOK cc own nL ret lv pc (o_min nx) := by
  intro p l e R s m args below meth c cells slots mc ms Q G A g0 w0 q C k hk ls st w σ ho
  obtain ⟨hx, hb, hml, hown, hts, hK, hr, hlk, hZ, hSR, hA, hlv, hcs, hcm, hQ⟩ := C
  subst hn
  intro g H locs la hge hR hS hL hst
  obtain ⟨h9, ho0⟩ := bif_s ho
  obtain ⟨y, r0, rfl, ho1⟩ := popI_s ho0
  obtain ⟨x, r, rfl, ho2⟩ := popI_s ho1
  have h8 := Nat.le_of_ble_eq_true h9
  have h7 : ((r.map (toV g)).map fun v => v.category).sum + 13 ≤ R.locals := by
    have := cat_sum (st := r.map (toV g))
    rw [List.length_map] at this
    simp only [List.length_cons] at h8
    omega
  exact va_mmin hx hb (hml.trans hL.1.1.symm) hown (hts _ h1) (hts _ h2) (hts _ h3) (hts _ h4) (by omega) h7 hcs.1 hcs.2 hd (hk _ _ _ _ _ ho2 g H locs la hge hR hS hL (cons1 (a := HI _) trivial (tail1 (tail1 hst))))
/-- the conditions of n steps from a place on; at a cut what stands there -/
noncomputable def wp (ins : Nat → HOp) (B : Nat → Option HKp) (q : HRt) (n : Nat) : HK := Nat.rec (fun _ _ _ _ _ => False) (fun _ ih pc ls st w σ => match B pc with | some P => P ls st w σ | none => ins pc ih q ls st w σ) n
def cutN (heads : Nat → Bool) (I : Nat → Nat → HKp) (N : Nat) : Nat → Option HKp := fun pc => bif heads pc then some (fun ls st w σ => ∃ N', N' < N ∧ I pc N' ls st w σ) else none
def cutA (heads : Nat → Bool) (I : Nat → Nat → HKp) : Nat → Option HKp := fun pc => bif heads pc then some (fun ls st w σ => ∃ N, I pc N ls st w σ) else none
def HOKs (cc : ByteArray) (own : String) (nL : Nat) (ret : Option FieldType) (lv : Nat) (ins : Nat → HOp) : Prop := ∀ pc, HOK cc own nL ret lv pc (ins pc)
section Sound
variable {p : Program} {l : Launch} {e : Env} {R : Room} {s : State} {m : MethodId} {args : Array Value} {below : List Frame} {meth : Method} {c : Code} {cells slots mc ms : Nat} {Q : State → Prop} {G : HG} {A : Nat → Prop} {g0 : HA} {w0 : HW} {q : HRt} {cc : ByteArray} {own : String} {nL : Nat} {ret : Option FieldType} {lv : Nat} {ins : Nat → HOp}
theorem wp_sound (C : HCx p l e R s m args below meth c cells slots mc ms Q G A g0 w0 q cc own nL ret lv) (hins : HOKs cc own nL ret lv ins) {B : Nat → Option HKp} (hB : ∀ pc P, B pc = some P → ∀ ls st w σ, P ls st w σ → Wat p l e R s m args below meth c cells slots Q G A g0 w0 nL pc ls st w σ) : ∀ (n pc : Nat) (ls : HLs) (st : List HV) (w : HW) (σ : HS), wp ins B q n pc ls st w σ → Wat p l e R s m args below meth c cells slots Q G A g0 w0 nL pc ls st w σ := by
  intro n
  induction n with
  | zero => intro pc ls st w σ h; exact h.elim
  | succ n ih =>
    intro pc ls st w σ h
    have h1 : (match B pc with | some P => P ls st w σ | none => ins pc (wp ins B q n) q ls st w σ) := h
    cases hb : B pc with
    | some P => rw [hb] at h1; exact hB pc P hb ls st w σ h1
    | none => rw [hb] at h1; exact hins pc p l e R s m args below meth c cells slots mc ms Q G A g0 w0 q C (wp ins B q n) ih ls st w σ h1
theorem wp_loop (C : HCx p l e R s m args below meth c cells slots mc ms Q G A g0 w0 q cc own nL ret lv) (hins : HOKs cc own nL ret lv ins) {heads : Nat → Bool} {I : Nat → Nat → HKp} {F : Nat} (h : ∀ N pc ls st w σ, heads pc = true → I pc N ls st w σ → ins pc (wp ins (cutN heads I N) q F) q ls st w σ) : ∀ (N pc : Nat) (ls : HLs) (st : List HV) (w : HW) (σ : HS), heads pc = true → I pc N ls st w σ → Wat p l e R s m args below meth c cells slots Q G A g0 w0 nL pc ls st w σ := by
  intro N
  induction N using Nat.strongRecOn with
  | _ N ih =>
    intro pc ls st w σ hh hi
    refine hins pc p l e R s m args below meth c cells slots mc ms Q G A g0 w0 q C (wp ins (cutN heads I N) q F) (fun pc' ls st w σ h' => wp_sound C hins (fun pc2 P hP ls st w σ h2 => ?_) F pc' ls st w σ h') ls st w σ (h N pc ls st w σ hh hi)
    unfold cutN at hP
    cases hb : heads pc2 with
    | false => rw [hb] at hP; cases hP
    | true =>
      rw [hb] at hP
      cases hP
      obtain ⟨N', hN, h3⟩ := h2
      exact ih N' hN pc2 ls st w σ hb h3
theorem wp_all (C : HCx p l e R s m args below meth c cells slots mc ms Q G A g0 w0 q cc own nL ret lv) (hins : HOKs cc own nL ret lv ins) {heads : Nat → Bool} {I : Nat → Nat → HKp} {F n pc : Nat} {ls : HLs} {st : List HV} {w : HW} {σ : HS} (h : ∀ N pc ls st w σ, heads pc = true → I pc N ls st w σ → ins pc (wp ins (cutN heads I N) q F) q ls st w σ) (h0 : wp ins (cutA heads I) q n pc ls st w σ) : Wat p l e R s m args below meth c cells slots Q G A g0 w0 nL pc ls st w σ := by
  refine wp_sound C hins (fun pc2 P hP ls st w σ h2 => ?_) n pc ls st w σ h0
  unfold cutA at hP
  cases hb : heads pc2 with
  | false => rw [hb] at hP; cases hP
  | true =>
    rw [hb] at hP
    cases hP
    obtain ⟨N', h3⟩ := h2
    exact wp_loop C hins h N' pc2 ls st w σ hb h3
end Sound
def loc0 (nL : Nat) (as : List HV) : HLs := as.map some ++ List.replicate (nL - as.length) none
/-- a method's conditions -/
def MVC (ins : Nat → HOp) (nL n : Nat) (sp : HSp) : Prop := ∀ as w σ q, as.length = n → sp as w σ q → ∃ (heads : Nat → Bool) (I : Nat → Nat → HKp) (F F0 : Nat), (∀ N pc ls st w' σ', heads pc = true → I pc N ls st w' σ' → ins pc (wp ins (cutN heads I N) q F) q ls st w' σ') ∧ wp ins (cutA heads I) q F0 0 (loc0 nL as) [] w σ
theorem lkp_args : ∀ {as : List HV} {r j : Nat} {v : HV}, lkp (as.map some ++ List.replicate r none) j = some v → v ∈ as
  | [], 0, j, v, h => by simp [lkp] at h
  | [], r + 1, 0, v, h => by simp [lkp, List.replicate] at h
  | [], r + 1, j + 1, v, h => by
    have h1 : lkp (([] : List HV).map some ++ List.replicate r none) j = some v := by simpa [lkp, List.replicate] using h
    exact lkp_args h1
  | a :: as, r, 0, v, h => by
    simp [lkp] at h
    simp [h]
  | a :: as, r, j + 1, v, h => by
    have h1 : lkp (as.map some ++ List.replicate r none) j = some v := by simpa [lkp] using h
    exact List.mem_cons_of_mem _ (lkp_args h1)
theorem asl_args {g : HA} : ∀ {as : List HV} {r i : Nat}, as.all c1b = true → asl g i (as.map some ++ List.replicate r none) = lv_args i (as.map (toV g))
  | [], 0, i, _ => rfl
  | [], r + 1, i, h => by
    have h1 := asl_args (g := g) (as := []) (r := r) (i := i + 1) h
    simpa [asl, List.replicate, lv_args] using h1
  | a :: as, r, i, h => by
    rw [List.all_cons, Bool.and_eq_true] at h
    have h1 := asl_args (g := g) (as := as) (r := r) (i := i + 1) h.2
    have h2 : ¬ (toV g a).category = 2 := by
      rcases a with x | ⟨k, _ | z⟩ | x
      · exact fun q => by simp [toV, Value.category] at q
      · exact fun q => by simp [toV, Value.category] at q
      · exact fun q => by simp [toV, Value.category] at q
      · exact absurd h.1 (by simp [c1b])
    simp only [List.map_cons, List.cons_append, asl, lv_args, if_neg h2, h1]
theorem cat_c1 {g : HA} {v : HV} (h : c1b v = true) : (toV g v).category = 1 := by
  rcases v with x | ⟨k, _ | z⟩ | x
  · rfl
  · rfl
  · rfl
  · cases h
theorem sl_len : ∀ {vs : List Value}, (∀ v ∈ vs, v.category = 1) → (lg_sl vs).length = vs.length
  | [], _ => rfl
  | a :: r, h => by
    have h1 := sl_len (vs := r) (fun v hv => h v (List.mem_cons_of_mem _ hv))
    have h2 := h a List.mem_cons_self
    unfold lg_sl at h1 ⊢
    rw [List.flatMap_cons, List.length_append, h1, if_neg (by omega)]
    simp
    omega
theorem ctr_of {y : MethodName} {bytes : ByteArray} {maxL lv n : Nat} {ret : Option FieldType} {ins : Nat → HOp} {sp : HSp} {own : String} (hy : plainName y.cls = true) (ho : y.cls = own) (hn : n ≤ maxL) (hins : HOKs bytes own maxL ret lv ins) (hvc : MVC ins maxL n sp) : Ctr y bytes maxL ret lv 0 0 n sp := by
  intro l G A g as w σ K hsp hlv hc1 hlen
  subst ho
  refine Met.ofW (cc := bytes) (maxL := maxL) (ret := ret) hy rfl ?_
  intro p e s m args below meth c s₁ B hml hv
  obtain ⟨rfl, hP⟩ := hv
  obtain ⟨h1, h2, h3, h4, h5, h6⟩ := hP
  have hts : ∀ x ∈ TT, x.before (as.map (toV g)).toArray s = true := TTw (State.WarmedH.refl s) h1
  have C : HCx p l e (headSpec [Cond.code y bytes maxL ret] (rmL lv 0 0)).room s m (as.map (toV g)).toArray below meth c 0 0 0 0 (MQ below (QQ G A g w K) (as.map (toV g)).toArray s 0 0 A) G A g w K bytes y.cls maxL ret lv :=
    ⟨B.exec, B.bytes, hml, findClass_of_methodNamed B.named, hts, h2, B.returns, B.notSynchronized, h3, h4, h6, ⟨Nat.le_refl _, Nat.le_refl _⟩, ⟨Nat.le_refl _, Nat.le_refl _⟩, ⟨Nat.le_refl _, Nat.le_refl _⟩, fun _ _ _ _ => rfl⟩
  obtain ⟨heads, I, F, F1, k1, k2⟩ := hvc as w σ K hlen hsp
  have hW := wp_all C hins k1 k2 g s.heap [] 
  have hc2 : ∀ v ∈ as.map (toV g), v.category = 1 := fun v hv => by
    obtain ⟨u, hu, rfl⟩ := List.mem_map.mp hv
    exact cat_c1 (List.all_eq_true.mp hc1 u hu)
  have hle : (lg_sl (as.map (toV g))).length ≤ maxL := by rw [sl_len hc2, List.length_map, hlen]; exact hn
  rw [lg_entry_eq]
  refine hW _ GE.rf h5 va_S.rf ⟨?_, fun j v hj => ?_⟩ (fun _ h => absurd h List.not_mem_nil)
  · have h9 := lv_entry (as.map (toV g)) (n := maxL) hle
    unfold loc0
    rw [asl_args hc1]
    exact h9
  · have h9 := lkp_args hj
    exact ⟨hlv v h9, cat_c1 (List.all_eq_true.mp hc1 v h9)⟩
end
section
theorem wd_0 : Cond.selects "VisitHall$Gate" ({ cls := "VisitHall$Gate", name := "reasonOfPeople", desc := "(LVisitHall$Visit;)I" }) ({ cls := "VisitHall$Gate", name := "reasonOfPeople", desc := "(LVisitHall$Visit;)I" }) ∈ TT := List.mem_filter.mpr ⟨List.mem_of_getElem? (i := 0) (by decide +kernel), by decide +kernel⟩
theorem wd_1 : Cond.selects "VisitHall$Gate" ({ cls := "VisitHall$Gate", name := "reasonOfRight", desc := "(LVisitHall$Visit;)I" }) ({ cls := "VisitHall$Gate", name := "reasonOfRight", desc := "(LVisitHall$Visit;)I" }) ∈ TT := List.mem_filter.mpr ⟨List.mem_of_getElem? (i := 1) (by decide +kernel), by decide +kernel⟩
theorem wd_2 : Cond.selects "VisitHall$Gate" ({ cls := "VisitHall$Gate", name := "mostInSpan", desc := "(LVisitHall$Visit;I)I" }) ({ cls := "VisitHall$Gate", name := "mostInSpan", desc := "(LVisitHall$Visit;I)I" }) ∈ TT := List.mem_filter.mpr ⟨List.mem_of_getElem? (i := 2) (by decide +kernel), by decide +kernel⟩
theorem wd_3 : Cond.selects "VisitHall$Gate" ({ cls := "VisitHall$Gate", name := "tallyAround", desc := "(LVisitHall$Visit;I)V" }) ({ cls := "VisitHall$Gate", name := "tallyAround", desc := "(LVisitHall$Visit;I)V" }) ∈ TT := List.mem_filter.mpr ⟨List.mem_of_getElem? (i := 3) (by decide +kernel), by decide +kernel⟩
theorem wd_4 : Cond.selects "VisitHall$Gate" ({ cls := "VisitHall$Gate", name := "reasonOfHall", desc := "(LVisitHall$Visit;)I" }) ({ cls := "VisitHall$Gate", name := "reasonOfHall", desc := "(LVisitHall$Visit;)I" }) ∈ TT := List.mem_filter.mpr ⟨List.mem_of_getElem? (i := 4) (by decide +kernel), by decide +kernel⟩
theorem wd_5 : Cond.selects "VisitHall$Gate" ({ cls := "VisitHall$Gate", name := "meetsRivals", desc := "(LVisitHall$Visit;)Z" }) ({ cls := "VisitHall$Gate", name := "meetsRivals", desc := "(LVisitHall$Visit;)Z" }) ∈ TT := List.mem_filter.mpr ⟨List.mem_of_getElem? (i := 5) (by decide +kernel), by decide +kernel⟩
theorem wd_6 : Cond.selects "VisitHall$Gate" ({ cls := "VisitHall$Gate", name := "areOfRivals", desc := "(LVisitHall$Visit;LVisitHall$Visit;)Z" }) ({ cls := "VisitHall$Gate", name := "areOfRivals", desc := "(LVisitHall$Visit;LVisitHall$Visit;)Z" }) ∈ TT := List.mem_filter.mpr ⟨List.mem_of_getElem? (i := 6) (by decide +kernel), by decide +kernel⟩
theorem wd_7 : Cond.selects "VisitHall$Gate" ({ cls := "VisitHall$Gate", name := "marksRoom", desc := "(LVisitHall$Visit;)Z" }) ({ cls := "VisitHall$Gate", name := "marksRoom", desc := "(LVisitHall$Visit;)Z" }) ∈ TT := List.mem_filter.mpr ⟨List.mem_of_getElem? (i := 7) (by decide +kernel), by decide +kernel⟩
theorem wd_8 : Cond.selects "VisitHall$RightReader" ({ cls := "VisitHall$RightReader", name := "nextNumber", desc := "(II)I" }) ({ cls := "VisitHall$RightReader", name := "nextNumber", desc := "(II)I" }) ∈ TT := List.mem_filter.mpr ⟨List.mem_of_getElem? (i := 8) (by decide +kernel), by decide +kernel⟩
theorem wd_9 : Cond.selects "VisitHall$RightReader" ({ cls := "VisitHall$RightReader", name := "next", desc := "()V" }) ({ cls := "VisitHall$RightReader", name := "next", desc := "()V" }) ∈ TT := List.mem_filter.mpr ⟨List.mem_of_getElem? (i := 9) (by decide +kernel), by decide +kernel⟩
theorem wd_10 : Cond.selects "VisitHall$RightReader" ({ cls := "VisitHall$RightReader", name := "wordAsNumber", desc := "()I" }) ({ cls := "VisitHall$RightReader", name := "wordAsNumber", desc := "()I" }) ∈ TT := List.mem_filter.mpr ⟨List.mem_of_getElem? (i := 10) (by decide +kernel), by decide +kernel⟩
theorem wd_11 : Cond.selects "VisitHall$RightReader" ({ cls := "VisitHall$RightReader", name := "refuse", desc := "()V" }) ({ cls := "VisitHall$RightReader", name := "refuse", desc := "()V" }) ∈ TT := List.mem_filter.mpr ⟨List.mem_of_getElem? (i := 11) (by decide +kernel), by decide +kernel⟩
theorem wd_12 : Cond.selects "VisitHall$RightReader" ({ cls := "VisitHall$RightReader", name := "nextMustBe", desc := "(Ljava/lang/String;)V" }) ({ cls := "VisitHall$RightReader", name := "nextMustBe", desc := "(Ljava/lang/String;)V" }) ∈ TT := List.mem_filter.mpr ⟨List.mem_of_getElem? (i := 12) (by decide +kernel), by decide +kernel⟩
theorem wd_13 : Cond.selects "VisitHall$RightReader" ({ cls := "VisitHall$RightReader", name := "isWord", desc := "(Ljava/lang/String;)Z" }) ({ cls := "VisitHall$RightReader", name := "isWord", desc := "(Ljava/lang/String;)Z" }) ∈ TT := List.mem_filter.mpr ⟨List.mem_of_getElem? (i := 13) (by decide +kernel), by decide +kernel⟩
theorem wd_14 : Cond.selects "VisitHall$RightReader" ({ cls := "VisitHall$RightReader", name := "readFar", desc := "(LVisitHall$Right;)V" }) ({ cls := "VisitHall$RightReader", name := "readFar", desc := "(LVisitHall$Right;)V" }) ∈ TT := List.mem_filter.mpr ⟨List.mem_of_getElem? (i := 14) (by decide +kernel), by decide +kernel⟩
theorem wd_15 : Cond.selects "VisitHall$RightReader" ({ cls := "VisitHall$RightReader", name := "readLong", desc := "(LVisitHall$Right;)V" }) ({ cls := "VisitHall$RightReader", name := "readLong", desc := "(LVisitHall$Right;)V" }) ∈ TT := List.mem_filter.mpr ⟨List.mem_of_getElem? (i := 15) (by decide +kernel), by decide +kernel⟩
theorem wd_16 : Cond.selects "VisitHall$RightReader" ({ cls := "VisitHall$RightReader", name := "readNot", desc := "(LVisitHall$Right;)V" }) ({ cls := "VisitHall$RightReader", name := "readNot", desc := "(LVisitHall$Right;)V" }) ∈ TT := List.mem_filter.mpr ⟨List.mem_of_getElem? (i := 16) (by decide +kernel), by decide +kernel⟩
theorem wd_17 : Cond.selects "VisitHall" ({ cls := "VisitHall", name := "canBeAsked", desc := "(IIII)Z" }) ({ cls := "VisitHall", name := "canBeAsked", desc := "(IIII)Z" }) ∈ TT := List.mem_filter.mpr ⟨List.mem_of_getElem? (i := 17) (by decide +kernel), by decide +kernel⟩
theorem wd_18 : Cond.selects "VisitHallModel" ({ cls := "VisitHallModel", name := "isVisitor", desc := "(I)Z" }) ({ cls := "VisitHallModel", name := "isVisitor", desc := "(I)Z" }) ∈ TT := List.mem_filter.mpr ⟨List.mem_of_getElem? (i := 18) (by decide +kernel), by decide +kernel⟩
theorem wd_19 : Cond.selects "VisitHallModel" ({ cls := "VisitHallModel", name := "isPrisoner", desc := "(I)Z" }) ({ cls := "VisitHallModel", name := "isPrisoner", desc := "(I)Z" }) ∈ TT := List.mem_filter.mpr ⟨List.mem_of_getElem? (i := 19) (by decide +kernel), by decide +kernel⟩
theorem wd_20 : Cond.selects "VisitHallModel" ({ cls := "VisitHallModel", name := "walk", desc := "()I" }) ({ cls := "VisitHallModel", name := "walk", desc := "()I" }) ∈ TT := List.mem_filter.mpr ⟨List.mem_of_getElem? (i := 20) (by decide +kernel), by decide +kernel⟩
theorem wd_21 : Cond.selects "VisitHallModel" ({ cls := "VisitHallModel", name := "refusal", desc := "(IIIIIZ)I" }) ({ cls := "VisitHallModel", name := "refusal", desc := "(IIIIIZ)I" }) ∈ TT := List.mem_filter.mpr ⟨List.mem_of_getElem? (i := 21) (by decide +kernel), by decide +kernel⟩
theorem wd_22 : Cond.selects "VisitHallModel" ({ cls := "VisitHallModel", name := "reason", desc := "(IIIII)I" }) ({ cls := "VisitHallModel", name := "reason", desc := "(IIIII)I" }) ∈ TT := List.mem_filter.mpr ⟨List.mem_of_getElem? (i := 22) (by decide +kernel), by decide +kernel⟩
theorem wd_23 : Cond.selects "VisitHallModel" ({ cls := "VisitHallModel", name := "isUnlisted", desc := "(II)Z" }) ({ cls := "VisitHallModel", name := "isUnlisted", desc := "(II)Z" }) ∈ TT := List.mem_filter.mpr ⟨List.mem_of_getElem? (i := 23) (by decide +kernel), by decide +kernel⟩
theorem wd_24 : Cond.selects "VisitHallModel" ({ cls := "VisitHallModel", name := "isBarred", desc := "(III)Z" }) ({ cls := "VisitHallModel", name := "isBarred", desc := "(III)Z" }) ∈ TT := List.mem_filter.mpr ⟨List.mem_of_getElem? (i := 24) (by decide +kernel), by decide +kernel⟩
theorem wd_25 : Cond.selects "VisitHallModel" ({ cls := "VisitHallModel", name := "isChildAlone", desc := "(I)Z" }) ({ cls := "VisitHallModel", name := "isChildAlone", desc := "(I)Z" }) ∈ TT := List.mem_filter.mpr ⟨List.mem_of_getElem? (i := 25) (by decide +kernel), by decide +kernel⟩
theorem wd_26 : Cond.selects "VisitHallModel" ({ cls := "VisitHallModel", name := "isLawyers", desc := "(I)Z" }) ({ cls := "VisitHallModel", name := "isLawyers", desc := "(I)Z" }) ∈ TT := List.mem_filter.mpr ⟨List.mem_of_getElem? (i := 26) (by decide +kernel), by decide +kernel⟩
theorem wd_27 : Cond.selects "VisitHallModel" ({ cls := "VisitHallModel", name := "isTooMany", desc := "(III)Z" }) ({ cls := "VisitHallModel", name := "isTooMany", desc := "(III)Z" }) ∈ TT := List.mem_filter.mpr ⟨List.mem_of_getElem? (i := 27) (by decide +kernel), by decide +kernel⟩
theorem wd_28 : Cond.selects "VisitHallModel" ({ cls := "VisitHallModel", name := "meets", desc := "(IIII)Z" }) ({ cls := "VisitHallModel", name := "meets", desc := "(IIII)Z" }) ∈ TT := List.mem_filter.mpr ⟨List.mem_of_getElem? (i := 28) (by decide +kernel), by decide +kernel⟩
theorem wd_29 : Cond.selects "VisitHallModel" ({ cls := "VisitHallModel", name := "letAt", desc := "(II)I" }) ({ cls := "VisitHallModel", name := "letAt", desc := "(II)I" }) ∈ TT := List.mem_filter.mpr ⟨List.mem_of_getElem? (i := 29) (by decide +kernel), by decide +kernel⟩
theorem wd_30 : Cond.selects "VisitHallModel" ({ cls := "VisitHallModel", name := "isAt", desc := "(III)Z" }) ({ cls := "VisitHallModel", name := "isAt", desc := "(III)Z" }) ∈ TT := List.mem_filter.mpr ⟨List.mem_of_getElem? (i := 30) (by decide +kernel), by decide +kernel⟩
theorem wd_31 : Cond.selects "VisitHallModel" ({ cls := "VisitHallModel", name := "tablesOn", desc := "(I)I" }) ({ cls := "VisitHallModel", name := "tablesOn", desc := "(I)I" }) ∈ TT := List.mem_filter.mpr ⟨List.mem_of_getElem? (i := 31) (by decide +kernel), by decide +kernel⟩
theorem wd_32 : Cond.selects "VisitHallModel" ({ cls := "VisitHallModel", name := "makesRoom", desc := "(IIIZ)Z" }) ({ cls := "VisitHallModel", name := "makesRoom", desc := "(IIIZ)Z" }) ∈ TT := List.mem_filter.mpr ⟨List.mem_of_getElem? (i := 32) (by decide +kernel), by decide +kernel⟩
theorem wd_33 : Cond.selects "VisitHallModel" ({ cls := "VisitHallModel", name := "four", desc := "(I)V" }) ({ cls := "VisitHallModel", name := "four", desc := "(I)V" }) ∈ TT := List.mem_filter.mpr ⟨List.mem_of_getElem? (i := 33) (by decide +kernel), by decide +kernel⟩
theorem wd_34 : Cond.selects "VisitHallModel" ({ cls := "VisitHallModel", name := "readRight", desc := "()I" }) ({ cls := "VisitHallModel", name := "readRight", desc := "()I" }) ∈ TT := List.mem_filter.mpr ⟨List.mem_of_getElem? (i := 34) (by decide +kernel), by decide +kernel⟩
theorem wd_35 : Cond.selects "VisitHallModel" ({ cls := "VisitHallModel", name := "next", desc := "()V" }) ({ cls := "VisitHallModel", name := "next", desc := "()V" }) ∈ TT := List.mem_filter.mpr ⟨List.mem_of_getElem? (i := 35) (by decide +kernel), by decide +kernel⟩
theorem wd_36 : Cond.selects "VisitHallModel" ({ cls := "VisitHallModel", name := "number", desc := "()I" }) ({ cls := "VisitHallModel", name := "number", desc := "()I" }) ∈ TT := List.mem_filter.mpr ⟨List.mem_of_getElem? (i := 36) (by decide +kernel), by decide +kernel⟩
theorem wd_37 : Cond.selects "VisitHallModel" ({ cls := "VisitHallModel", name := "here", desc := "()I" }) ({ cls := "VisitHallModel", name := "here", desc := "()I" }) ∈ TT := List.mem_filter.mpr ⟨List.mem_of_getElem? (i := 37) (by decide +kernel), by decide +kernel⟩
theorem wd_38 : Cond.selects "VisitHallModel" ({ cls := "VisitHallModel", name := "isWord", desc := "(IIII)Z" }) ({ cls := "VisitHallModel", name := "isWord", desc := "(IIII)Z" }) ∈ TT := List.mem_filter.mpr ⟨List.mem_of_getElem? (i := 38) (by decide +kernel), by decide +kernel⟩
theorem wd_39 : Cond.selects "VisitHallModel" ({ cls := "VisitHallModel", name := "isAsked", desc := "(IIII)Z" }) ({ cls := "VisitHallModel", name := "isAsked", desc := "(IIII)Z" }) ∈ TT := List.mem_filter.mpr ⟨List.mem_of_getElem? (i := 39) (by decide +kernel), by decide +kernel⟩
theorem wd_40 : Cond.selects "VisitHallModel" ({ cls := "VisitHallModel", name := "isVisit", desc := "(I)Z" }) ({ cls := "VisitHallModel", name := "isVisit", desc := "(I)Z" }) ∈ TT := List.mem_filter.mpr ⟨List.mem_of_getElem? (i := 40) (by decide +kernel), by decide +kernel⟩
theorem wd_41 : Cond.initialized "VisitHallLaw" ∈ TT := List.mem_filter.mpr ⟨List.mem_of_getElem? (i := 41) (by decide +kernel), by decide +kernel⟩
theorem wd_42 : Cond.initialized "VisitHall" ∈ TT := List.mem_filter.mpr ⟨List.mem_of_getElem? (i := 42) (by decide +kernel), by decide +kernel⟩
theorem wd_43 : Cond.initialized "VisitHall$People" ∈ TT := List.mem_filter.mpr ⟨List.mem_of_getElem? (i := 43) (by decide +kernel), by decide +kernel⟩
theorem wd_44 : Cond.initialized "VisitHall$Tape" ∈ TT := List.mem_filter.mpr ⟨List.mem_of_getElem? (i := 44) (by decide +kernel), by decide +kernel⟩
theorem wd_45 : Cond.initialized "VisitHall$RightReader" ∈ TT := List.mem_filter.mpr ⟨List.mem_of_getElem? (i := 45) (by decide +kernel), by decide +kernel⟩
theorem wd_46 : Cond.initialized "VisitHall$Book" ∈ TT := List.mem_filter.mpr ⟨List.mem_of_getElem? (i := 46) (by decide +kernel), by decide +kernel⟩
theorem wd_47 : Cond.initialized "VisitHall$Sheet" ∈ TT := List.mem_filter.mpr ⟨List.mem_of_getElem? (i := 47) (by decide +kernel), by decide +kernel⟩
theorem wd_48 : Cond.initialized "VisitHall$Gate" ∈ TT := List.mem_filter.mpr ⟨List.mem_of_getElem? (i := 48) (by decide +kernel), by decide +kernel⟩
theorem wd_49 : Cond.initialized "VisitHall$Searches" ∈ TT := List.mem_filter.mpr ⟨List.mem_of_getElem? (i := 49) (by decide +kernel), by decide +kernel⟩
theorem wd_50 : Cond.initialized "VisitHall$Visit" ∈ TT := List.mem_filter.mpr ⟨List.mem_of_getElem? (i := 50) (by decide +kernel), by decide +kernel⟩
theorem wd_51 : Cond.initialized "VisitHallModel" ∈ TT := List.mem_filter.mpr ⟨List.mem_of_getElem? (i := 51) (by decide +kernel), by decide +kernel⟩
theorem wd_52 : Cond.initialized "VisitHall$Prisoner" ∈ TT := List.mem_filter.mpr ⟨List.mem_of_getElem? (i := 52) (by decide +kernel), by decide +kernel⟩
theorem wd_53 : Cond.initialized "java/util/Arrays" ∈ TT := List.mem_filter.mpr ⟨List.mem_of_getElem? (i := 53) (by decide +kernel), by decide +kernel⟩
theorem wd_54 : Cond.initialized "java/lang/Math" ∈ TT := List.mem_filter.mpr ⟨List.mem_of_getElem? (i := 54) (by decide +kernel), by decide +kernel⟩
theorem wd_55 : Cond.initialized "VisitHall$Right" ∈ TT := List.mem_filter.mpr ⟨List.mem_of_getElem? (i := 55) (by decide +kernel), by decide +kernel⟩
theorem wd_56 : Cond.initialized "java/lang/String" ∈ TT := List.mem_filter.mpr ⟨List.mem_of_getElem? (i := 56) (by decide +kernel), by decide +kernel⟩
theorem wd_57 : Cond.initialized "java/lang/StringLatin1" ∈ TT := List.mem_filter.mpr ⟨List.mem_of_getElem? (i := 57) (by decide +kernel), by decide +kernel⟩
theorem wd_58 : Cond.initialized "jdk/internal/util/Preconditions" ∈ TT := List.mem_filter.mpr ⟨List.mem_of_getElem? (i := 58) (by decide +kernel), by decide +kernel⟩
theorem wd_59 : Cond.initialized "java/lang/StringUTF16" ∈ TT := List.mem_filter.mpr ⟨List.mem_of_getElem? (i := 59) (by decide +kernel), by decide +kernel⟩
theorem wd_60 : Cond.initialized "java/lang/Integer" ∈ TT := List.mem_filter.mpr ⟨List.mem_of_getElem? (i := 60) (by decide +kernel), by decide +kernel⟩
theorem wd_61 : Cond.initialized "java/lang/System" ∈ TT := List.mem_filter.mpr ⟨List.mem_of_getElem? (i := 61) (by decide +kernel), by decide +kernel⟩
theorem wd_62 : Cond.classLink "VisitHallLaw" 7 "VisitHall" ∈ TT := List.mem_filter.mpr ⟨List.mem_of_getElem? (i := 62) (by decide +kernel), by decide +kernel⟩
theorem wd_63 : Cond.instantiable "VisitHall" 9 ∈ TT := List.mem_filter.mpr ⟨List.mem_of_getElem? (i := 63) (by decide +kernel), by decide +kernel⟩
theorem wd_64 : Cond.methodLink "VisitHallLaw" 9 ({ cls := "VisitHall", name := "<init>", desc := "()V" }) ∈ TT := List.mem_filter.mpr ⟨List.mem_of_getElem? (i := 64) (by decide +kernel), by decide +kernel⟩
theorem wd_65 : Cond.instanceMethod ({ cls := "VisitHall", name := "<init>", desc := "()V" }) ∈ TT := List.mem_filter.mpr ⟨List.mem_of_getElem? (i := 65) (by decide +kernel), by decide +kernel⟩
theorem wd_66 : Cond.code ({ cls := "VisitHall", name := "<init>", desc := "()V" }) prog_1_method_1_code 2 (Option.none : Option FieldType) ∈ TT := List.mem_filter.mpr ⟨List.mem_of_getElem? (i := 66) (by decide +kernel), by decide +kernel⟩
theorem wd_67 : Cond.methodLink "VisitHall" 1 ({ cls := "java/lang/Object", name := "<init>", desc := "()V" }) ∈ TT := List.mem_filter.mpr ⟨List.mem_of_getElem? (i := 67) (by decide +kernel), by decide +kernel⟩
theorem wd_68 : Cond.instanceMethod ({ cls := "java/lang/Object", name := "<init>", desc := "()V" }) ∈ TT := List.mem_filter.mpr ⟨List.mem_of_getElem? (i := 68) (by decide +kernel), by decide +kernel⟩
theorem wd_69 : Cond.code ({ cls := "java/lang/Object", name := "<init>", desc := "()V" }) object_method_1_code 1 (Option.none : Option FieldType) ∈ TT := List.mem_filter.mpr ⟨List.mem_of_getElem? (i := 69) (by decide +kernel), by decide +kernel⟩
theorem wd_70 : Cond.classLink "VisitHall" 7 "VisitHall$People" ∈ TT := List.mem_filter.mpr ⟨List.mem_of_getElem? (i := 70) (by decide +kernel), by decide +kernel⟩
theorem wd_71 : Cond.instantiable "VisitHall$People" 6 ∈ TT := List.mem_filter.mpr ⟨List.mem_of_getElem? (i := 71) (by decide +kernel), by decide +kernel⟩
theorem wd_72 : Cond.methodLinkNest "VisitHall" 9 ({ cls := "VisitHall$People", name := "<init>", desc := "()V" }) "VisitHall" ∈ TT := List.mem_filter.mpr ⟨List.mem_of_getElem? (i := 72) (by decide +kernel), by decide +kernel⟩
theorem wd_73 : Cond.instanceMethod ({ cls := "VisitHall$People", name := "<init>", desc := "()V" }) ∈ TT := List.mem_filter.mpr ⟨List.mem_of_getElem? (i := 73) (by decide +kernel), by decide +kernel⟩
theorem wd_74 : Cond.code ({ cls := "VisitHall$People", name := "<init>", desc := "()V" }) prog_4_method_1_code 1 (Option.none : Option FieldType) ∈ TT := List.mem_filter.mpr ⟨List.mem_of_getElem? (i := 74) (by decide +kernel), by decide +kernel⟩
theorem wd_75 : Cond.methodLink "VisitHall$People" 3 ({ cls := "java/lang/Object", name := "<init>", desc := "()V" }) ∈ TT := List.mem_filter.mpr ⟨List.mem_of_getElem? (i := 75) (by decide +kernel), by decide +kernel⟩
theorem wd_76 : Cond.classLink "VisitHall$People" 11 "VisitHall$Prisoner" ∈ TT := List.mem_filter.mpr ⟨List.mem_of_getElem? (i := 76) (by decide +kernel), by decide +kernel⟩
theorem wd_78 : Cond.fieldLink "VisitHall$People" 13 "VisitHall$People" "prisoners" "[LVisitHall$Prisoner;" ∈ TT := List.mem_filter.mpr ⟨List.mem_of_getElem? (i := 78) (by decide +kernel), by decide +kernel⟩
theorem wd_79 : Cond.fieldLink "VisitHall$People" 27 "VisitHall$People" "prisonerCount" "I" ∈ TT := List.mem_filter.mpr ⟨List.mem_of_getElem? (i := 79) (by decide +kernel), by decide +kernel⟩
theorem wd_80 : Cond.fieldLink "VisitHall$People" 17 "VisitHall$People" "bitsOfKind" "[I" ∈ TT := List.mem_filter.mpr ⟨List.mem_of_getElem? (i := 80) (by decide +kernel), by decide +kernel⟩
theorem wd_81 : Cond.fieldLink "VisitHall$People" 21 "VisitHall$People" "ways" "[I" ∈ TT := List.mem_filter.mpr ⟨List.mem_of_getElem? (i := 81) (by decide +kernel), by decide +kernel⟩
theorem wd_82 : Cond.fieldLink "VisitHall$People" 39 "VisitHall$People" "visitorCount" "I" ∈ TT := List.mem_filter.mpr ⟨List.mem_of_getElem? (i := 82) (by decide +kernel), by decide +kernel⟩
theorem wd_83 : Cond.fieldLinkNest "VisitHall" 299 "VisitHall$People" "visitorCount" "I" "VisitHall" ∈ TT := List.mem_filter.mpr ⟨List.mem_of_getElem? (i := 83) (by decide +kernel), by decide +kernel⟩
theorem wd_84 : Cond.fieldLink "VisitHall$People" 24 "VisitHall$People" "rivalBits" "[I" ∈ TT := List.mem_filter.mpr ⟨List.mem_of_getElem? (i := 84) (by decide +kernel), by decide +kernel⟩
theorem wd_98 : Cond.arrayClass FieldType.int ∈ TT := List.mem_filter.mpr ⟨List.mem_of_getElem? (i := 98) (by decide +kernel), by decide +kernel⟩
theorem wd_99 : Cond.classLink "VisitHall" 16 "VisitHall$Tape" ∈ TT := List.mem_filter.mpr ⟨List.mem_of_getElem? (i := 99) (by decide +kernel), by decide +kernel⟩
theorem wd_100 : Cond.instantiable "VisitHall$Tape" 2 ∈ TT := List.mem_filter.mpr ⟨List.mem_of_getElem? (i := 100) (by decide +kernel), by decide +kernel⟩
theorem wd_101 : Cond.methodLinkNest "VisitHall" 18 ({ cls := "VisitHall$Tape", name := "<init>", desc := "()V" }) "VisitHall" ∈ TT := List.mem_filter.mpr ⟨List.mem_of_getElem? (i := 101) (by decide +kernel), by decide +kernel⟩
theorem wd_102 : Cond.instanceMethod ({ cls := "VisitHall$Tape", name := "<init>", desc := "()V" }) ∈ TT := List.mem_filter.mpr ⟨List.mem_of_getElem? (i := 102) (by decide +kernel), by decide +kernel⟩
theorem wd_103 : Cond.code ({ cls := "VisitHall$Tape", name := "<init>", desc := "()V" }) prog_10_method_1_code 1 (Option.none : Option FieldType) ∈ TT := List.mem_filter.mpr ⟨List.mem_of_getElem? (i := 103) (by decide +kernel), by decide +kernel⟩
theorem wd_104 : Cond.methodLink "VisitHall$Tape" 1 ({ cls := "java/lang/Object", name := "<init>", desc := "()V" }) ∈ TT := List.mem_filter.mpr ⟨List.mem_of_getElem? (i := 104) (by decide +kernel), by decide +kernel⟩
theorem wd_105 : Cond.fieldLink "VisitHall$Tape" 9 "VisitHall$Tape" "bytes" "[B" ∈ TT := List.mem_filter.mpr ⟨List.mem_of_getElem? (i := 105) (by decide +kernel), by decide +kernel⟩
theorem wd_106 : Cond.fieldLinkNest "VisitHall$RightReader" 94 "VisitHall$Tape" "bytes" "[B" "VisitHall" ∈ TT := List.mem_filter.mpr ⟨List.mem_of_getElem? (i := 106) (by decide +kernel), by decide +kernel⟩
theorem wd_107 : Cond.fieldLink "VisitHall$Tape" 13 "VisitHall$Tape" "size" "I" ∈ TT := List.mem_filter.mpr ⟨List.mem_of_getElem? (i := 107) (by decide +kernel), by decide +kernel⟩
theorem wd_108 : Cond.fieldLinkNest "VisitHall$RightReader" 57 "VisitHall$Tape" "size" "I" "VisitHall" ∈ TT := List.mem_filter.mpr ⟨List.mem_of_getElem? (i := 108) (by decide +kernel), by decide +kernel⟩
theorem wd_109 : Cond.fieldLinkNest "VisitHall" 153 "VisitHall$Tape" "size" "I" "VisitHall" ∈ TT := List.mem_filter.mpr ⟨List.mem_of_getElem? (i := 109) (by decide +kernel), by decide +kernel⟩
theorem wd_115 : Cond.arrayClass FieldType.byte ∈ TT := List.mem_filter.mpr ⟨List.mem_of_getElem? (i := 115) (by decide +kernel), by decide +kernel⟩
theorem wd_116 : Cond.classLink "VisitHall" 23 "VisitHall$RightReader" ∈ TT := List.mem_filter.mpr ⟨List.mem_of_getElem? (i := 116) (by decide +kernel), by decide +kernel⟩
theorem wd_117 : Cond.instantiable "VisitHall$RightReader" 4 ∈ TT := List.mem_filter.mpr ⟨List.mem_of_getElem? (i := 117) (by decide +kernel), by decide +kernel⟩
theorem wd_118 : Cond.methodLink "VisitHall" 25 ({ cls := "VisitHall$RightReader", name := "<init>", desc := "(LVisitHall$Tape;)V" }) ∈ TT := List.mem_filter.mpr ⟨List.mem_of_getElem? (i := 118) (by decide +kernel), by decide +kernel⟩
theorem wd_119 : Cond.instanceMethod ({ cls := "VisitHall$RightReader", name := "<init>", desc := "(LVisitHall$Tape;)V" }) ∈ TT := List.mem_filter.mpr ⟨List.mem_of_getElem? (i := 119) (by decide +kernel), by decide +kernel⟩
theorem wd_120 : Cond.code ({ cls := "VisitHall$RightReader", name := "<init>", desc := "(LVisitHall$Tape;)V" }) prog_7_method_1_code 2 (Option.none : Option FieldType) ∈ TT := List.mem_filter.mpr ⟨List.mem_of_getElem? (i := 120) (by decide +kernel), by decide +kernel⟩
theorem wd_121 : Cond.methodLink "VisitHall$RightReader" 3 ({ cls := "java/lang/Object", name := "<init>", desc := "()V" }) ∈ TT := List.mem_filter.mpr ⟨List.mem_of_getElem? (i := 121) (by decide +kernel), by decide +kernel⟩
theorem wd_122 : Cond.fieldLink "VisitHall$RightReader" 15 "VisitHall$RightReader" "tape" "LVisitHall$Tape;" ∈ TT := List.mem_filter.mpr ⟨List.mem_of_getElem? (i := 122) (by decide +kernel), by decide +kernel⟩
theorem wd_123 : Cond.fieldLink "VisitHall$RightReader" 19 "VisitHall$RightReader" "start" "I" ∈ TT := List.mem_filter.mpr ⟨List.mem_of_getElem? (i := 123) (by decide +kernel), by decide +kernel⟩
theorem wd_124 : Cond.fieldLink "VisitHall$RightReader" 22 "VisitHall$RightReader" "end" "I" ∈ TT := List.mem_filter.mpr ⟨List.mem_of_getElem? (i := 124) (by decide +kernel), by decide +kernel⟩
theorem wd_125 : Cond.fieldLink "VisitHall$RightReader" 11 "VisitHall$RightReader" "fault" "I" ∈ TT := List.mem_filter.mpr ⟨List.mem_of_getElem? (i := 125) (by decide +kernel), by decide +kernel⟩
theorem wd_126 : Cond.fieldLinkNest "VisitHall" 163 "VisitHall$RightReader" "fault" "I" "VisitHall" ∈ TT := List.mem_filter.mpr ⟨List.mem_of_getElem? (i := 126) (by decide +kernel), by decide +kernel⟩
theorem wd_136 : Cond.classLink "VisitHall" 32 "VisitHall$Right" ∈ TT := List.mem_filter.mpr ⟨List.mem_of_getElem? (i := 136) (by decide +kernel), by decide +kernel⟩
theorem wd_138 : Cond.classLink "VisitHall" 38 "VisitHall$Book" ∈ TT := List.mem_filter.mpr ⟨List.mem_of_getElem? (i := 138) (by decide +kernel), by decide +kernel⟩
theorem wd_139 : Cond.instantiable "VisitHall$Book" 3 ∈ TT := List.mem_filter.mpr ⟨List.mem_of_getElem? (i := 139) (by decide +kernel), by decide +kernel⟩
theorem wd_140 : Cond.methodLinkNest "VisitHall" 40 ({ cls := "VisitHall$Book", name := "<init>", desc := "()V" }) "VisitHall" ∈ TT := List.mem_filter.mpr ⟨List.mem_of_getElem? (i := 140) (by decide +kernel), by decide +kernel⟩
theorem wd_141 : Cond.instanceMethod ({ cls := "VisitHall$Book", name := "<init>", desc := "()V" }) ∈ TT := List.mem_filter.mpr ⟨List.mem_of_getElem? (i := 141) (by decide +kernel), by decide +kernel⟩
theorem wd_142 : Cond.code ({ cls := "VisitHall$Book", name := "<init>", desc := "()V" }) prog_2_method_1_code 1 (Option.none : Option FieldType) ∈ TT := List.mem_filter.mpr ⟨List.mem_of_getElem? (i := 142) (by decide +kernel), by decide +kernel⟩
theorem wd_143 : Cond.methodLink "VisitHall$Book" 3 ({ cls := "java/lang/Object", name := "<init>", desc := "()V" }) ∈ TT := List.mem_filter.mpr ⟨List.mem_of_getElem? (i := 143) (by decide +kernel), by decide +kernel⟩
theorem wd_144 : Cond.classLink "VisitHall$Book" 11 "VisitHall$Visit" ∈ TT := List.mem_filter.mpr ⟨List.mem_of_getElem? (i := 144) (by decide +kernel), by decide +kernel⟩
theorem wd_146 : Cond.fieldLink "VisitHall$Book" 13 "VisitHall$Book" "visits" "[LVisitHall$Visit;" ∈ TT := List.mem_filter.mpr ⟨List.mem_of_getElem? (i := 146) (by decide +kernel), by decide +kernel⟩
theorem wd_147 : Cond.fieldLinkNest "VisitHall$Searches" 30 "VisitHall$Book" "visits" "[LVisitHall$Visit;" "VisitHall" ∈ TT := List.mem_filter.mpr ⟨List.mem_of_getElem? (i := 147) (by decide +kernel), by decide +kernel⟩
theorem wd_148 : Cond.fieldLinkNest "VisitHall$Gate" 85 "VisitHall$Book" "visits" "[LVisitHall$Visit;" "VisitHall" ∈ TT := List.mem_filter.mpr ⟨List.mem_of_getElem? (i := 148) (by decide +kernel), by decide +kernel⟩
theorem wd_149 : Cond.fieldLink "VisitHall$Book" 17 "VisitHall$Book" "size" "I" ∈ TT := List.mem_filter.mpr ⟨List.mem_of_getElem? (i := 149) (by decide +kernel), by decide +kernel⟩
theorem wd_150 : Cond.fieldLinkNest "VisitHall$Searches" 25 "VisitHall$Book" "size" "I" "VisitHall" ∈ TT := List.mem_filter.mpr ⟨List.mem_of_getElem? (i := 150) (by decide +kernel), by decide +kernel⟩
theorem wd_151 : Cond.fieldLinkNest "VisitHall$Gate" 82 "VisitHall$Book" "size" "I" "VisitHall" ∈ TT := List.mem_filter.mpr ⟨List.mem_of_getElem? (i := 151) (by decide +kernel), by decide +kernel⟩
theorem wd_152 : Cond.fieldLinkNest "VisitHall" 302 "VisitHall$Book" "size" "I" "VisitHall" ∈ TT := List.mem_filter.mpr ⟨List.mem_of_getElem? (i := 152) (by decide +kernel), by decide +kernel⟩
theorem wd_153 : Cond.fieldLinkNest "VisitHall$Gate" 92 "VisitHall$Book" "today" "I" "VisitHall" ∈ TT := List.mem_filter.mpr ⟨List.mem_of_getElem? (i := 153) (by decide +kernel), by decide +kernel⟩
theorem wd_154 : Cond.fieldLink "VisitHall$Book" 39 "VisitHall$Book" "today" "I" ∈ TT := List.mem_filter.mpr ⟨List.mem_of_getElem? (i := 154) (by decide +kernel), by decide +kernel⟩
theorem wd_155 : Cond.fieldLinkNest "VisitHall" 219 "VisitHall$Book" "today" "I" "VisitHall" ∈ TT := List.mem_filter.mpr ⟨List.mem_of_getElem? (i := 155) (by decide +kernel), by decide +kernel⟩
theorem wd_163 : Cond.classLink "VisitHall" 45 "VisitHall$Sheet" ∈ TT := List.mem_filter.mpr ⟨List.mem_of_getElem? (i := 163) (by decide +kernel), by decide +kernel⟩
theorem wd_165 : Cond.instantiable "VisitHall$Sheet" 2 ∈ TT := List.mem_filter.mpr ⟨List.mem_of_getElem? (i := 165) (by decide +kernel), by decide +kernel⟩
theorem wd_166 : Cond.methodLinkNest "VisitHall" 51 ({ cls := "VisitHall$Sheet", name := "<init>", desc := "()V" }) "VisitHall" ∈ TT := List.mem_filter.mpr ⟨List.mem_of_getElem? (i := 166) (by decide +kernel), by decide +kernel⟩
theorem wd_167 : Cond.instanceMethod ({ cls := "VisitHall$Sheet", name := "<init>", desc := "()V" }) ∈ TT := List.mem_filter.mpr ⟨List.mem_of_getElem? (i := 167) (by decide +kernel), by decide +kernel⟩
theorem wd_168 : Cond.code ({ cls := "VisitHall$Sheet", name := "<init>", desc := "()V" }) prog_9_method_1_code 1 (Option.none : Option FieldType) ∈ TT := List.mem_filter.mpr ⟨List.mem_of_getElem? (i := 168) (by decide +kernel), by decide +kernel⟩
theorem wd_169 : Cond.methodLink "VisitHall$Sheet" 1 ({ cls := "java/lang/Object", name := "<init>", desc := "()V" }) ∈ TT := List.mem_filter.mpr ⟨List.mem_of_getElem? (i := 169) (by decide +kernel), by decide +kernel⟩
theorem wd_170 : Cond.fieldLink "VisitHall$Sheet" 9 "VisitHall$Sheet" "places" "[B" ∈ TT := List.mem_filter.mpr ⟨List.mem_of_getElem? (i := 170) (by decide +kernel), by decide +kernel⟩
theorem wd_171 : Cond.fieldLinkNest "VisitHall$Gate" 43 "VisitHall$Sheet" "places" "[B" "VisitHall" ∈ TT := List.mem_filter.mpr ⟨List.mem_of_getElem? (i := 171) (by decide +kernel), by decide +kernel⟩
theorem wd_172 : Cond.fieldLinkNest "VisitHall" 282 "VisitHall$Sheet" "places" "[B" "VisitHall" ∈ TT := List.mem_filter.mpr ⟨List.mem_of_getElem? (i := 172) (by decide +kernel), by decide +kernel⟩
theorem wd_173 : Cond.fieldLink "VisitHall$Sheet" 13 "VisitHall$Sheet" "size" "I" ∈ TT := List.mem_filter.mpr ⟨List.mem_of_getElem? (i := 173) (by decide +kernel), by decide +kernel⟩
theorem wd_174 : Cond.fieldLinkNest "VisitHall" 295 "VisitHall$Sheet" "size" "I" "VisitHall" ∈ TT := List.mem_filter.mpr ⟨List.mem_of_getElem? (i := 174) (by decide +kernel), by decide +kernel⟩
theorem wd_180 : Cond.classLink "VisitHall" 52 "VisitHall$Gate" ∈ TT := List.mem_filter.mpr ⟨List.mem_of_getElem? (i := 180) (by decide +kernel), by decide +kernel⟩
theorem wd_181 : Cond.instantiable "VisitHall$Gate" 6 ∈ TT := List.mem_filter.mpr ⟨List.mem_of_getElem? (i := 181) (by decide +kernel), by decide +kernel⟩
theorem wd_182 : Cond.methodLink "VisitHall" 54 ({ cls := "VisitHall$Gate", name := "<init>", desc := "(LVisitHall$People;[LVisitHall$Right;LVisitHall$Book;LVisitHall$Sheet;)V" }) ∈ TT := List.mem_filter.mpr ⟨List.mem_of_getElem? (i := 182) (by decide +kernel), by decide +kernel⟩
theorem wd_183 : Cond.instanceMethod ({ cls := "VisitHall$Gate", name := "<init>", desc := "(LVisitHall$People;[LVisitHall$Right;LVisitHall$Book;LVisitHall$Sheet;)V" }) ∈ TT := List.mem_filter.mpr ⟨List.mem_of_getElem? (i := 183) (by decide +kernel), by decide +kernel⟩
theorem wd_184 : Cond.code ({ cls := "VisitHall$Gate", name := "<init>", desc := "(LVisitHall$People;[LVisitHall$Right;LVisitHall$Book;LVisitHall$Sheet;)V" }) prog_3_method_1_code 5 (Option.none : Option FieldType) ∈ TT := List.mem_filter.mpr ⟨List.mem_of_getElem? (i := 184) (by decide +kernel), by decide +kernel⟩
theorem wd_185 : Cond.methodLink "VisitHall$Gate" 5 ({ cls := "java/lang/Object", name := "<init>", desc := "()V" }) ∈ TT := List.mem_filter.mpr ⟨List.mem_of_getElem? (i := 185) (by decide +kernel), by decide +kernel⟩
theorem wd_186 : Cond.fieldLink "VisitHall$Gate" 21 "VisitHall$Gate" "people" "LVisitHall$People;" ∈ TT := List.mem_filter.mpr ⟨List.mem_of_getElem? (i := 186) (by decide +kernel), by decide +kernel⟩
theorem wd_187 : Cond.fieldLink "VisitHall$Gate" 25 "VisitHall$Gate" "rights" "[LVisitHall$Right;" ∈ TT := List.mem_filter.mpr ⟨List.mem_of_getElem? (i := 187) (by decide +kernel), by decide +kernel⟩
theorem wd_188 : Cond.fieldLink "VisitHall$Gate" 29 "VisitHall$Gate" "book" "LVisitHall$Book;" ∈ TT := List.mem_filter.mpr ⟨List.mem_of_getElem? (i := 188) (by decide +kernel), by decide +kernel⟩
theorem wd_189 : Cond.fieldLink "VisitHall$Gate" 33 "VisitHall$Gate" "tablesByDay" "LVisitHall$Sheet;" ∈ TT := List.mem_filter.mpr ⟨List.mem_of_getElem? (i := 189) (by decide +kernel), by decide +kernel⟩
theorem wd_190 : Cond.fieldLink "VisitHall$Gate" 11 "VisitHall$Gate" "tables" "I" ∈ TT := List.mem_filter.mpr ⟨List.mem_of_getElem? (i := 190) (by decide +kernel), by decide +kernel⟩
theorem wd_191 : Cond.fieldLinkNest "VisitHall" 240 "VisitHall$Gate" "tables" "I" "VisitHall" ∈ TT := List.mem_filter.mpr ⟨List.mem_of_getElem? (i := 191) (by decide +kernel), by decide +kernel⟩
theorem wd_192 : Cond.fieldLink "VisitHall$Gate" 17 "VisitHall$Gate" "tally" "[I" ∈ TT := List.mem_filter.mpr ⟨List.mem_of_getElem? (i := 192) (by decide +kernel), by decide +kernel⟩
theorem wd_206 : Cond.classLink "VisitHall" 61 "VisitHall$Searches" ∈ TT := List.mem_filter.mpr ⟨List.mem_of_getElem? (i := 206) (by decide +kernel), by decide +kernel⟩
theorem wd_207 : Cond.instantiable "VisitHall$Searches" 4 ∈ TT := List.mem_filter.mpr ⟨List.mem_of_getElem? (i := 207) (by decide +kernel), by decide +kernel⟩
theorem wd_208 : Cond.methodLinkNest "VisitHall" 63 ({ cls := "VisitHall$Searches", name := "<init>", desc := "()V" }) "VisitHall" ∈ TT := List.mem_filter.mpr ⟨List.mem_of_getElem? (i := 208) (by decide +kernel), by decide +kernel⟩
theorem wd_209 : Cond.instanceMethod ({ cls := "VisitHall$Searches", name := "<init>", desc := "()V" }) ∈ TT := List.mem_filter.mpr ⟨List.mem_of_getElem? (i := 209) (by decide +kernel), by decide +kernel⟩
theorem wd_210 : Cond.code ({ cls := "VisitHall$Searches", name := "<init>", desc := "()V" }) prog_8_method_1_code 1 (Option.none : Option FieldType) ∈ TT := List.mem_filter.mpr ⟨List.mem_of_getElem? (i := 210) (by decide +kernel), by decide +kernel⟩
theorem wd_211 : Cond.methodLink "VisitHall$Searches" 3 ({ cls := "java/lang/Object", name := "<init>", desc := "()V" }) ∈ TT := List.mem_filter.mpr ⟨List.mem_of_getElem? (i := 211) (by decide +kernel), by decide +kernel⟩
theorem wd_212 : Cond.fieldLink "VisitHall$Searches" 9 "VisitHall$Searches" "oneIn" "I" ∈ TT := List.mem_filter.mpr ⟨List.mem_of_getElem? (i := 212) (by decide +kernel), by decide +kernel⟩
theorem wd_213 : Cond.fieldLinkNest "VisitHall" 243 "VisitHall$Searches" "oneIn" "I" "VisitHall" ∈ TT := List.mem_filter.mpr ⟨List.mem_of_getElem? (i := 213) (by decide +kernel), by decide +kernel⟩
theorem wd_214 : Cond.fieldLink "VisitHall$Searches" 22 "VisitHall$Searches" "seed" "I" ∈ TT := List.mem_filter.mpr ⟨List.mem_of_getElem? (i := 214) (by decide +kernel), by decide +kernel⟩
theorem wd_215 : Cond.fieldLinkNest "VisitHall" 246 "VisitHall$Searches" "seed" "I" "VisitHall" ∈ TT := List.mem_filter.mpr ⟨List.mem_of_getElem? (i := 215) (by decide +kernel), by decide +kernel⟩
theorem wd_216 : Cond.fieldLink "VisitHall$Searches" 15 "VisitHall$Searches" "come" "I" ∈ TT := List.mem_filter.mpr ⟨List.mem_of_getElem? (i := 216) (by decide +kernel), by decide +kernel⟩
theorem wd_217 : Cond.fieldLinkNest "VisitHall" 264 "VisitHall$Searches" "come" "I" "VisitHall" ∈ TT := List.mem_filter.mpr ⟨List.mem_of_getElem? (i := 217) (by decide +kernel), by decide +kernel⟩
theorem wd_218 : Cond.fieldLink "VisitHall$Searches" 18 "VisitHall$Searches" "searched" "I" ∈ TT := List.mem_filter.mpr ⟨List.mem_of_getElem? (i := 218) (by decide +kernel), by decide +kernel⟩
theorem wd_219 : Cond.fieldLinkNest "VisitHall" 267 "VisitHall$Searches" "searched" "I" "VisitHall" ∈ TT := List.mem_filter.mpr ⟨List.mem_of_getElem? (i := 219) (by decide +kernel), by decide +kernel⟩
theorem wd_229 : Cond.classLink "VisitHall" 68 "VisitHall$Visit" ∈ TT := List.mem_filter.mpr ⟨List.mem_of_getElem? (i := 229) (by decide +kernel), by decide +kernel⟩
theorem wd_230 : Cond.instantiable "VisitHall$Visit" 8 ∈ TT := List.mem_filter.mpr ⟨List.mem_of_getElem? (i := 230) (by decide +kernel), by decide +kernel⟩
theorem wd_231 : Cond.methodLinkNest "VisitHall" 70 ({ cls := "VisitHall$Visit", name := "<init>", desc := "()V" }) "VisitHall" ∈ TT := List.mem_filter.mpr ⟨List.mem_of_getElem? (i := 231) (by decide +kernel), by decide +kernel⟩
theorem wd_232 : Cond.instanceMethod ({ cls := "VisitHall$Visit", name := "<init>", desc := "()V" }) ∈ TT := List.mem_filter.mpr ⟨List.mem_of_getElem? (i := 232) (by decide +kernel), by decide +kernel⟩
theorem wd_233 : Cond.code ({ cls := "VisitHall$Visit", name := "<init>", desc := "()V" }) prog_11_method_1_code 1 (Option.none : Option FieldType) ∈ TT := List.mem_filter.mpr ⟨List.mem_of_getElem? (i := 233) (by decide +kernel), by decide +kernel⟩
theorem wd_234 : Cond.methodLink "VisitHall$Visit" 3 ({ cls := "java/lang/Object", name := "<init>", desc := "()V" }) ∈ TT := List.mem_filter.mpr ⟨List.mem_of_getElem? (i := 234) (by decide +kernel), by decide +kernel⟩
theorem wd_235 : Cond.fieldLink "VisitHall$Visit" 15 "VisitHall$Visit" "prisoner" "I" ∈ TT := List.mem_filter.mpr ⟨List.mem_of_getElem? (i := 235) (by decide +kernel), by decide +kernel⟩
theorem wd_236 : Cond.fieldLinkNest "VisitHall$Gate" 102 "VisitHall$Visit" "prisoner" "I" "VisitHall" ∈ TT := List.mem_filter.mpr ⟨List.mem_of_getElem? (i := 236) (by decide +kernel), by decide +kernel⟩
theorem wd_237 : Cond.fieldLinkNest "VisitHall$Book" 33 "VisitHall$Visit" "prisoner" "I" "VisitHall" ∈ TT := List.mem_filter.mpr ⟨List.mem_of_getElem? (i := 237) (by decide +kernel), by decide +kernel⟩
theorem wd_238 : Cond.fieldLinkNest "VisitHall" 222 "VisitHall$Visit" "prisoner" "I" "VisitHall" ∈ TT := List.mem_filter.mpr ⟨List.mem_of_getElem? (i := 238) (by decide +kernel), by decide +kernel⟩
theorem wd_239 : Cond.fieldLink "VisitHall$Visit" 18 "VisitHall$Visit" "visitors" "I" ∈ TT := List.mem_filter.mpr ⟨List.mem_of_getElem? (i := 239) (by decide +kernel), by decide +kernel⟩
theorem wd_240 : Cond.fieldLinkNest "VisitHall$Searches" 42 "VisitHall$Visit" "visitors" "I" "VisitHall" ∈ TT := List.mem_filter.mpr ⟨List.mem_of_getElem? (i := 240) (by decide +kernel), by decide +kernel⟩
theorem wd_241 : Cond.fieldLinkNest "VisitHall$Gate" 116 "VisitHall$Visit" "visitors" "I" "VisitHall" ∈ TT := List.mem_filter.mpr ⟨List.mem_of_getElem? (i := 241) (by decide +kernel), by decide +kernel⟩
theorem wd_242 : Cond.fieldLinkNest "VisitHall$Book" 49 "VisitHall$Visit" "visitors" "I" "VisitHall" ∈ TT := List.mem_filter.mpr ⟨List.mem_of_getElem? (i := 242) (by decide +kernel), by decide +kernel⟩
theorem wd_243 : Cond.fieldLinkNest "VisitHall" 225 "VisitHall$Visit" "visitors" "I" "VisitHall" ∈ TT := List.mem_filter.mpr ⟨List.mem_of_getElem? (i := 243) (by decide +kernel), by decide +kernel⟩
theorem wd_244 : Cond.fieldLinkNest "VisitHall$Right" 22 "VisitHall$Visit" "day" "I" "VisitHall" ∈ TT := List.mem_filter.mpr ⟨List.mem_of_getElem? (i := 244) (by decide +kernel), by decide +kernel⟩
theorem wd_245 : Cond.fieldLink "VisitHall$Visit" 21 "VisitHall$Visit" "day" "I" ∈ TT := List.mem_filter.mpr ⟨List.mem_of_getElem? (i := 245) (by decide +kernel), by decide +kernel⟩
theorem wd_246 : Cond.fieldLinkNest "VisitHall$Searches" 39 "VisitHall$Visit" "day" "I" "VisitHall" ∈ TT := List.mem_filter.mpr ⟨List.mem_of_getElem? (i := 246) (by decide +kernel), by decide +kernel⟩
theorem wd_247 : Cond.fieldLinkNest "VisitHall$Gate" 89 "VisitHall$Visit" "day" "I" "VisitHall" ∈ TT := List.mem_filter.mpr ⟨List.mem_of_getElem? (i := 247) (by decide +kernel), by decide +kernel⟩
theorem wd_248 : Cond.fieldLinkNest "VisitHall$Book" 36 "VisitHall$Visit" "day" "I" "VisitHall" ∈ TT := List.mem_filter.mpr ⟨List.mem_of_getElem? (i := 248) (by decide +kernel), by decide +kernel⟩
theorem wd_249 : Cond.fieldLinkNest "VisitHall" 216 "VisitHall$Visit" "day" "I" "VisitHall" ∈ TT := List.mem_filter.mpr ⟨List.mem_of_getElem? (i := 249) (by decide +kernel), by decide +kernel⟩
theorem wd_250 : Cond.fieldLink "VisitHall$Visit" 24 "VisitHall$Visit" "first" "I" ∈ TT := List.mem_filter.mpr ⟨List.mem_of_getElem? (i := 250) (by decide +kernel), by decide +kernel⟩
theorem wd_251 : Cond.fieldLinkNest "VisitHall$Gate" 181 "VisitHall$Visit" "first" "I" "VisitHall" ∈ TT := List.mem_filter.mpr ⟨List.mem_of_getElem? (i := 251) (by decide +kernel), by decide +kernel⟩
theorem wd_252 : Cond.fieldLinkNest "VisitHall" 228 "VisitHall$Visit" "first" "I" "VisitHall" ∈ TT := List.mem_filter.mpr ⟨List.mem_of_getElem? (i := 252) (by decide +kernel), by decide +kernel⟩
theorem wd_253 : Cond.fieldLinkNest "VisitHall$Right" 27 "VisitHall$Visit" "many" "I" "VisitHall" ∈ TT := List.mem_filter.mpr ⟨List.mem_of_getElem? (i := 253) (by decide +kernel), by decide +kernel⟩
theorem wd_254 : Cond.fieldLink "VisitHall$Visit" 27 "VisitHall$Visit" "many" "I" ∈ TT := List.mem_filter.mpr ⟨List.mem_of_getElem? (i := 254) (by decide +kernel), by decide +kernel⟩
theorem wd_255 : Cond.fieldLinkNest "VisitHall$Gate" 184 "VisitHall$Visit" "many" "I" "VisitHall" ∈ TT := List.mem_filter.mpr ⟨List.mem_of_getElem? (i := 255) (by decide +kernel), by decide +kernel⟩
theorem wd_256 : Cond.fieldLinkNest "VisitHall" 231 "VisitHall$Visit" "many" "I" "VisitHall" ∈ TT := List.mem_filter.mpr ⟨List.mem_of_getElem? (i := 256) (by decide +kernel), by decide +kernel⟩
theorem wd_257 : Cond.fieldLink "VisitHall$Visit" 30 "VisitHall$Visit" "lawyers" "Z" ∈ TT := List.mem_filter.mpr ⟨List.mem_of_getElem? (i := 257) (by decide +kernel), by decide +kernel⟩
theorem wd_258 : Cond.fieldLinkNest "VisitHall$Gate" 55 "VisitHall$Visit" "lawyers" "Z" "VisitHall" ∈ TT := List.mem_filter.mpr ⟨List.mem_of_getElem? (i := 258) (by decide +kernel), by decide +kernel⟩
theorem wd_259 : Cond.fieldLinkNest "VisitHall$Book" 45 "VisitHall$Visit" "lawyers" "Z" "VisitHall" ∈ TT := List.mem_filter.mpr ⟨List.mem_of_getElem? (i := 259) (by decide +kernel), by decide +kernel⟩
theorem wd_260 : Cond.fieldLinkNest "VisitHall" 234 "VisitHall$Visit" "lawyers" "Z" "VisitHall" ∈ TT := List.mem_filter.mpr ⟨List.mem_of_getElem? (i := 260) (by decide +kernel), by decide +kernel⟩
theorem wd_261 : Cond.fieldLink "VisitHall$Visit" 9 "VisitHall$Visit" "state" "I" ∈ TT := List.mem_filter.mpr ⟨List.mem_of_getElem? (i := 261) (by decide +kernel), by decide +kernel⟩
theorem wd_262 : Cond.fieldLinkNest "VisitHall$Searches" 34 "VisitHall$Visit" "state" "I" "VisitHall" ∈ TT := List.mem_filter.mpr ⟨List.mem_of_getElem? (i := 262) (by decide +kernel), by decide +kernel⟩
theorem wd_263 : Cond.fieldLinkNest "VisitHall$Gate" 79 "VisitHall$Visit" "state" "I" "VisitHall" ∈ TT := List.mem_filter.mpr ⟨List.mem_of_getElem? (i := 263) (by decide +kernel), by decide +kernel⟩
theorem wd_264 : Cond.fieldLinkNest "VisitHall$Book" 30 "VisitHall$Visit" "state" "I" "VisitHall" ∈ TT := List.mem_filter.mpr ⟨List.mem_of_getElem? (i := 264) (by decide +kernel), by decide +kernel⟩
theorem wd_265 : Cond.fieldLinkNest "VisitHall" 206 "VisitHall$Visit" "state" "I" "VisitHall" ∈ TT := List.mem_filter.mpr ⟨List.mem_of_getElem? (i := 265) (by decide +kernel), by decide +kernel⟩
theorem wd_266 : Cond.fieldLink "VisitHall$Visit" 34 "VisitHall$Visit" "leaves" "Z" ∈ TT := List.mem_filter.mpr ⟨List.mem_of_getElem? (i := 266) (by decide +kernel), by decide +kernel⟩
theorem wd_267 : Cond.fieldLinkNest "VisitHall$Book" 59 "VisitHall$Visit" "leaves" "Z" "VisitHall" ∈ TT := List.mem_filter.mpr ⟨List.mem_of_getElem? (i := 267) (by decide +kernel), by decide +kernel⟩
theorem wd_268 : Cond.fieldLinkNest "VisitHall$Gate" 207 "VisitHall$Visit" "leaves" "Z" "VisitHall" ∈ TT := List.mem_filter.mpr ⟨List.mem_of_getElem? (i := 268) (by decide +kernel), by decide +kernel⟩
theorem wd_286 : Cond.fieldLink "VisitHall" 10 "VisitHall" "people" "LVisitHall$People;" ∈ TT := List.mem_filter.mpr ⟨List.mem_of_getElem? (i := 286) (by decide +kernel), by decide +kernel⟩
theorem wd_287 : Cond.fieldLink "VisitHall" 19 "VisitHall" "tape" "LVisitHall$Tape;" ∈ TT := List.mem_filter.mpr ⟨List.mem_of_getElem? (i := 287) (by decide +kernel), by decide +kernel⟩
theorem wd_288 : Cond.fieldLink "VisitHall" 28 "VisitHall" "reader" "LVisitHall$RightReader;" ∈ TT := List.mem_filter.mpr ⟨List.mem_of_getElem? (i := 288) (by decide +kernel), by decide +kernel⟩
theorem wd_289 : Cond.fieldLink "VisitHall" 34 "VisitHall" "rights" "[LVisitHall$Right;" ∈ TT := List.mem_filter.mpr ⟨List.mem_of_getElem? (i := 289) (by decide +kernel), by decide +kernel⟩
theorem wd_290 : Cond.fieldLink "VisitHall" 41 "VisitHall" "book" "LVisitHall$Book;" ∈ TT := List.mem_filter.mpr ⟨List.mem_of_getElem? (i := 290) (by decide +kernel), by decide +kernel⟩
theorem wd_291 : Cond.fieldLink "VisitHall" 47 "VisitHall" "sheets" "[LVisitHall$Sheet;" ∈ TT := List.mem_filter.mpr ⟨List.mem_of_getElem? (i := 291) (by decide +kernel), by decide +kernel⟩
theorem wd_292 : Cond.fieldLink "VisitHall" 57 "VisitHall" "gate" "LVisitHall$Gate;" ∈ TT := List.mem_filter.mpr ⟨List.mem_of_getElem? (i := 292) (by decide +kernel), by decide +kernel⟩
theorem wd_293 : Cond.fieldLink "VisitHall" 64 "VisitHall" "searches" "LVisitHall$Searches;" ∈ TT := List.mem_filter.mpr ⟨List.mem_of_getElem? (i := 293) (by decide +kernel), by decide +kernel⟩
theorem wd_294 : Cond.fieldLink "VisitHall" 71 "VisitHall" "asked" "LVisitHall$Visit;" ∈ TT := List.mem_filter.mpr ⟨List.mem_of_getElem? (i := 294) (by decide +kernel), by decide +kernel⟩
theorem wd_314 : Cond.methodLink "VisitHallLaw" 13 ({ cls := "VisitHall", name := "prisoner", desc := "(II)I" }) ∈ TT := List.mem_filter.mpr ⟨List.mem_of_getElem? (i := 314) (by decide +kernel), by decide +kernel⟩
theorem wd_315 : Cond.instanceMethod ({ cls := "VisitHall", name := "prisoner", desc := "(II)I" }) ∈ TT := List.mem_filter.mpr ⟨List.mem_of_getElem? (i := 315) (by decide +kernel), by decide +kernel⟩
theorem wd_316 : Cond.selects "VisitHall" ({ cls := "VisitHall", name := "prisoner", desc := "(II)I" }) ({ cls := "VisitHall", name := "prisoner", desc := "(II)I" }) ∈ TT := List.mem_filter.mpr ⟨List.mem_of_getElem? (i := 316) (by decide +kernel), by decide +kernel⟩
theorem wd_317 : Cond.code ({ cls := "VisitHall", name := "prisoner", desc := "(II)I" }) prog_1_method_2_code 3 (Option.some FieldType.int) ∈ TT := List.mem_filter.mpr ⟨List.mem_of_getElem? (i := 317) (by decide +kernel), by decide +kernel⟩
theorem wd_318 : Cond.methodLink "VisitHall" 75 ({ cls := "VisitHall", name := "isBelow", desc := "(II)Z" }) ∈ TT := List.mem_filter.mpr ⟨List.mem_of_getElem? (i := 318) (by decide +kernel), by decide +kernel⟩
theorem wd_319 : Cond.static ({ cls := "VisitHall", name := "isBelow", desc := "(II)Z" }) ∈ TT := List.mem_filter.mpr ⟨List.mem_of_getElem? (i := 319) (by decide +kernel), by decide +kernel⟩
theorem wd_320 : Cond.code ({ cls := "VisitHall", name := "isBelow", desc := "(II)Z" }) prog_1_method_28_code 2 (Option.some FieldType.boolean) ∈ TT := List.mem_filter.mpr ⟨List.mem_of_getElem? (i := 320) (by decide +kernel), by decide +kernel⟩
theorem wd_321 : Cond.constant "VisitHall" 79 (-1000000001) ∈ TT := List.mem_filter.mpr ⟨List.mem_of_getElem? (i := 321) (by decide +kernel), by decide +kernel⟩
theorem wd_322 : Cond.methodLink "VisitHall" 80 ({ cls := "VisitHall$People", name := "addPrisoner", desc := "(II)I" }) ∈ TT := List.mem_filter.mpr ⟨List.mem_of_getElem? (i := 322) (by decide +kernel), by decide +kernel⟩
theorem wd_323 : Cond.instanceMethod ({ cls := "VisitHall$People", name := "addPrisoner", desc := "(II)I" }) ∈ TT := List.mem_filter.mpr ⟨List.mem_of_getElem? (i := 323) (by decide +kernel), by decide +kernel⟩
theorem wd_324 : Cond.selects "VisitHall$People" ({ cls := "VisitHall$People", name := "addPrisoner", desc := "(II)I" }) ({ cls := "VisitHall$People", name := "addPrisoner", desc := "(II)I" }) ∈ TT := List.mem_filter.mpr ⟨List.mem_of_getElem? (i := 324) (by decide +kernel), by decide +kernel⟩
theorem wd_325 : Cond.code ({ cls := "VisitHall$People", name := "addPrisoner", desc := "(II)I" }) prog_4_method_2_code 3 (Option.some FieldType.int) ∈ TT := List.mem_filter.mpr ⟨List.mem_of_getElem? (i := 325) (by decide +kernel), by decide +kernel⟩
theorem wd_326 : Cond.constant "VisitHall$People" 31 (-1000000003) ∈ TT := List.mem_filter.mpr ⟨List.mem_of_getElem? (i := 326) (by decide +kernel), by decide +kernel⟩
theorem wd_327 : Cond.instantiable "VisitHall$Prisoner" 5 ∈ TT := List.mem_filter.mpr ⟨List.mem_of_getElem? (i := 327) (by decide +kernel), by decide +kernel⟩
theorem wd_328 : Cond.methodLink "VisitHall$People" 32 ({ cls := "VisitHall$Prisoner", name := "<init>", desc := "(II)V" }) ∈ TT := List.mem_filter.mpr ⟨List.mem_of_getElem? (i := 328) (by decide +kernel), by decide +kernel⟩
theorem wd_329 : Cond.instanceMethod ({ cls := "VisitHall$Prisoner", name := "<init>", desc := "(II)V" }) ∈ TT := List.mem_filter.mpr ⟨List.mem_of_getElem? (i := 329) (by decide +kernel), by decide +kernel⟩
theorem wd_330 : Cond.code ({ cls := "VisitHall$Prisoner", name := "<init>", desc := "(II)V" }) prog_5_method_1_code 3 (Option.none : Option FieldType) ∈ TT := List.mem_filter.mpr ⟨List.mem_of_getElem? (i := 330) (by decide +kernel), by decide +kernel⟩
theorem wd_331 : Cond.methodLink "VisitHall$Prisoner" 3 ({ cls := "java/lang/Object", name := "<init>", desc := "()V" }) ∈ TT := List.mem_filter.mpr ⟨List.mem_of_getElem? (i := 331) (by decide +kernel), by decide +kernel⟩
theorem wd_332 : Cond.methodLink "VisitHall$Prisoner" 28 ({ cls := "java/util/Arrays", name := "fill", desc := "([II)V" }) ∈ TT := List.mem_filter.mpr ⟨List.mem_of_getElem? (i := 332) (by decide +kernel), by decide +kernel⟩
theorem wd_333 : Cond.static ({ cls := "java/util/Arrays", name := "fill", desc := "([II)V" }) ∈ TT := List.mem_filter.mpr ⟨List.mem_of_getElem? (i := 333) (by decide +kernel), by decide +kernel⟩
theorem wd_334 : Cond.code ({ cls := "java/util/Arrays", name := "fill", desc := "([II)V" }) prog_20_method_103_code 4 (Option.none : Option FieldType) ∈ TT := List.mem_filter.mpr ⟨List.mem_of_getElem? (i := 334) (by decide +kernel), by decide +kernel⟩
theorem wd_335 : Cond.fieldLink "VisitHall$Prisoner" 21 "VisitHall$Prisoner" "aClass" "I" ∈ TT := List.mem_filter.mpr ⟨List.mem_of_getElem? (i := 335) (by decide +kernel), by decide +kernel⟩
theorem wd_336 : Cond.fieldLinkNest "VisitHall$Gate" 129 "VisitHall$Prisoner" "aClass" "I" "VisitHall" ∈ TT := List.mem_filter.mpr ⟨List.mem_of_getElem? (i := 336) (by decide +kernel), by decide +kernel⟩
theorem wd_337 : Cond.fieldLinkNest "VisitHall" 135 "VisitHall$Prisoner" "aClass" "I" "VisitHall" ∈ TT := List.mem_filter.mpr ⟨List.mem_of_getElem? (i := 337) (by decide +kernel), by decide +kernel⟩
theorem wd_338 : Cond.fieldLink "VisitHall$Prisoner" 25 "VisitHall$Prisoner" "family" "I" ∈ TT := List.mem_filter.mpr ⟨List.mem_of_getElem? (i := 338) (by decide +kernel), by decide +kernel⟩
theorem wd_339 : Cond.fieldLinkNest "VisitHall" 138 "VisitHall$Prisoner" "family" "I" "VisitHall" ∈ TT := List.mem_filter.mpr ⟨List.mem_of_getElem? (i := 339) (by decide +kernel), by decide +kernel⟩
theorem wd_340 : Cond.fieldLinkNest "VisitHall$Gate" 197 "VisitHall$Prisoner" "family" "I" "VisitHall" ∈ TT := List.mem_filter.mpr ⟨List.mem_of_getElem? (i := 340) (by decide +kernel), by decide +kernel⟩
theorem wd_341 : Cond.fieldLink "VisitHall$Prisoner" 9 "VisitHall$Prisoner" "here" "Z" ∈ TT := List.mem_filter.mpr ⟨List.mem_of_getElem? (i := 341) (by decide +kernel), by decide +kernel⟩
theorem wd_342 : Cond.fieldLinkNest "VisitHall$Gate" 111 "VisitHall$Prisoner" "here" "Z" "VisitHall" ∈ TT := List.mem_filter.mpr ⟨List.mem_of_getElem? (i := 342) (by decide +kernel), by decide +kernel⟩
theorem wd_343 : Cond.fieldLinkNest "VisitHall" 131 "VisitHall$Prisoner" "here" "Z" "VisitHall" ∈ TT := List.mem_filter.mpr ⟨List.mem_of_getElem? (i := 343) (by decide +kernel), by decide +kernel⟩
theorem wd_344 : Cond.fieldLinkNest "VisitHall$People" 55 "VisitHall$Prisoner" "here" "Z" "VisitHall" ∈ TT := List.mem_filter.mpr ⟨List.mem_of_getElem? (i := 344) (by decide +kernel), by decide +kernel⟩
theorem wd_345 : Cond.fieldLinkNest "VisitHall" 99 "VisitHall$Prisoner" "listed" "I" "VisitHall" ∈ TT := List.mem_filter.mpr ⟨List.mem_of_getElem? (i := 345) (by decide +kernel), by decide +kernel⟩
theorem wd_346 : Cond.fieldLinkNest "VisitHall$People" 48 "VisitHall$Prisoner" "listed" "I" "VisitHall" ∈ TT := List.mem_filter.mpr ⟨List.mem_of_getElem? (i := 346) (by decide +kernel), by decide +kernel⟩
theorem wd_347 : Cond.fieldLink "VisitHall$Prisoner" 17 "VisitHall$Prisoner" "orders" "[I" ∈ TT := List.mem_filter.mpr ⟨List.mem_of_getElem? (i := 347) (by decide +kernel), by decide +kernel⟩
theorem wd_359 : Cond.methodLink "VisitHallLaw" 18 ({ cls := "VisitHall", name := "visitor", desc := "(III)I" }) ∈ TT := List.mem_filter.mpr ⟨List.mem_of_getElem? (i := 359) (by decide +kernel), by decide +kernel⟩
theorem wd_360 : Cond.instanceMethod ({ cls := "VisitHall", name := "visitor", desc := "(III)I" }) ∈ TT := List.mem_filter.mpr ⟨List.mem_of_getElem? (i := 360) (by decide +kernel), by decide +kernel⟩
theorem wd_361 : Cond.selects "VisitHall" ({ cls := "VisitHall", name := "visitor", desc := "(III)I" }) ({ cls := "VisitHall", name := "visitor", desc := "(III)I" }) ∈ TT := List.mem_filter.mpr ⟨List.mem_of_getElem? (i := 361) (by decide +kernel), by decide +kernel⟩
theorem wd_362 : Cond.code ({ cls := "VisitHall", name := "visitor", desc := "(III)I" }) prog_1_method_3_code 4 (Option.some FieldType.int) ∈ TT := List.mem_filter.mpr ⟨List.mem_of_getElem? (i := 362) (by decide +kernel), by decide +kernel⟩
theorem wd_363 : Cond.methodLink "VisitHall" 84 ({ cls := "VisitHall$People", name := "addVisitor", desc := "(II)I" }) ∈ TT := List.mem_filter.mpr ⟨List.mem_of_getElem? (i := 363) (by decide +kernel), by decide +kernel⟩
theorem wd_364 : Cond.instanceMethod ({ cls := "VisitHall$People", name := "addVisitor", desc := "(II)I" }) ∈ TT := List.mem_filter.mpr ⟨List.mem_of_getElem? (i := 364) (by decide +kernel), by decide +kernel⟩
theorem wd_365 : Cond.selects "VisitHall$People" ({ cls := "VisitHall$People", name := "addVisitor", desc := "(II)I" }) ({ cls := "VisitHall$People", name := "addVisitor", desc := "(II)I" }) ∈ TT := List.mem_filter.mpr ⟨List.mem_of_getElem? (i := 365) (by decide +kernel), by decide +kernel⟩
theorem wd_366 : Cond.code ({ cls := "VisitHall$People", name := "addVisitor", desc := "(II)I" }) prog_4_method_4_code 4 (Option.some FieldType.int) ∈ TT := List.mem_filter.mpr ⟨List.mem_of_getElem? (i := 366) (by decide +kernel), by decide +kernel⟩
theorem wd_367 : Cond.methodLink "VisitHallLaw" 23 ({ cls := "VisitHall", name := "isOf", desc := "(II)I" }) ∈ TT := List.mem_filter.mpr ⟨List.mem_of_getElem? (i := 367) (by decide +kernel), by decide +kernel⟩
theorem wd_368 : Cond.instanceMethod ({ cls := "VisitHall", name := "isOf", desc := "(II)I" }) ∈ TT := List.mem_filter.mpr ⟨List.mem_of_getElem? (i := 368) (by decide +kernel), by decide +kernel⟩
theorem wd_369 : Cond.selects "VisitHall" ({ cls := "VisitHall", name := "isOf", desc := "(II)I" }) ({ cls := "VisitHall", name := "isOf", desc := "(II)I" }) ∈ TT := List.mem_filter.mpr ⟨List.mem_of_getElem? (i := 369) (by decide +kernel), by decide +kernel⟩
theorem wd_370 : Cond.code ({ cls := "VisitHall", name := "isOf", desc := "(II)I" }) prog_1_method_4_code 3 (Option.some FieldType.int) ∈ TT := List.mem_filter.mpr ⟨List.mem_of_getElem? (i := 370) (by decide +kernel), by decide +kernel⟩
theorem wd_371 : Cond.methodLink "VisitHall" 87 ({ cls := "VisitHall$People", name := "isVisitor", desc := "(I)Z" }) ∈ TT := List.mem_filter.mpr ⟨List.mem_of_getElem? (i := 371) (by decide +kernel), by decide +kernel⟩
theorem wd_372 : Cond.instanceMethod ({ cls := "VisitHall$People", name := "isVisitor", desc := "(I)Z" }) ∈ TT := List.mem_filter.mpr ⟨List.mem_of_getElem? (i := 372) (by decide +kernel), by decide +kernel⟩
theorem wd_373 : Cond.selects "VisitHall$People" ({ cls := "VisitHall$People", name := "isVisitor", desc := "(I)Z" }) ({ cls := "VisitHall$People", name := "isVisitor", desc := "(I)Z" }) ∈ TT := List.mem_filter.mpr ⟨List.mem_of_getElem? (i := 373) (by decide +kernel), by decide +kernel⟩
theorem wd_374 : Cond.code ({ cls := "VisitHall$People", name := "isVisitor", desc := "(I)Z" }) prog_4_method_5_code 2 (Option.some FieldType.boolean) ∈ TT := List.mem_filter.mpr ⟨List.mem_of_getElem? (i := 374) (by decide +kernel), by decide +kernel⟩
theorem wd_375 : Cond.methodLinkNest "VisitHall$People" 35 ({ cls := "VisitHall", name := "isBelow", desc := "(II)Z" }) "VisitHall" ∈ TT := List.mem_filter.mpr ⟨List.mem_of_getElem? (i := 375) (by decide +kernel), by decide +kernel⟩
theorem wd_376 : Cond.methodLink "VisitHall" 91 ({ cls := "VisitHall$People", name := "ofKind", desc := "(I)I" }) ∈ TT := List.mem_filter.mpr ⟨List.mem_of_getElem? (i := 376) (by decide +kernel), by decide +kernel⟩
theorem wd_377 : Cond.instanceMethod ({ cls := "VisitHall$People", name := "ofKind", desc := "(I)I" }) ∈ TT := List.mem_filter.mpr ⟨List.mem_of_getElem? (i := 377) (by decide +kernel), by decide +kernel⟩
theorem wd_378 : Cond.selects "VisitHall$People" ({ cls := "VisitHall$People", name := "ofKind", desc := "(I)I" }) ({ cls := "VisitHall$People", name := "ofKind", desc := "(I)I" }) ∈ TT := List.mem_filter.mpr ⟨List.mem_of_getElem? (i := 378) (by decide +kernel), by decide +kernel⟩
theorem wd_379 : Cond.code ({ cls := "VisitHall$People", name := "ofKind", desc := "(I)I" }) prog_4_method_6_code 2 (Option.some FieldType.int) ∈ TT := List.mem_filter.mpr ⟨List.mem_of_getElem? (i := 379) (by decide +kernel), by decide +kernel⟩
theorem wd_380 : Cond.methodLink "VisitHallLaw" 27 ({ cls := "VisitHall", name := "list", desc := "(III)I" }) ∈ TT := List.mem_filter.mpr ⟨List.mem_of_getElem? (i := 380) (by decide +kernel), by decide +kernel⟩
theorem wd_381 : Cond.instanceMethod ({ cls := "VisitHall", name := "list", desc := "(III)I" }) ∈ TT := List.mem_filter.mpr ⟨List.mem_of_getElem? (i := 381) (by decide +kernel), by decide +kernel⟩
theorem wd_382 : Cond.selects "VisitHall" ({ cls := "VisitHall", name := "list", desc := "(III)I" }) ({ cls := "VisitHall", name := "list", desc := "(III)I" }) ∈ TT := List.mem_filter.mpr ⟨List.mem_of_getElem? (i := 382) (by decide +kernel), by decide +kernel⟩
theorem wd_383 : Cond.code ({ cls := "VisitHall", name := "list", desc := "(III)I" }) prog_1_method_5_code 6 (Option.some FieldType.int) ∈ TT := List.mem_filter.mpr ⟨List.mem_of_getElem? (i := 383) (by decide +kernel), by decide +kernel⟩
theorem wd_384 : Cond.methodLink "VisitHall" 95 ({ cls := "VisitHall$People", name := "prisonerAt", desc := "(I)LVisitHall$Prisoner;" }) ∈ TT := List.mem_filter.mpr ⟨List.mem_of_getElem? (i := 384) (by decide +kernel), by decide +kernel⟩
theorem wd_385 : Cond.instanceMethod ({ cls := "VisitHall$People", name := "prisonerAt", desc := "(I)LVisitHall$Prisoner;" }) ∈ TT := List.mem_filter.mpr ⟨List.mem_of_getElem? (i := 385) (by decide +kernel), by decide +kernel⟩
theorem wd_386 : Cond.selects "VisitHall$People" ({ cls := "VisitHall$People", name := "prisonerAt", desc := "(I)LVisitHall$Prisoner;" }) ({ cls := "VisitHall$People", name := "prisonerAt", desc := "(I)LVisitHall$Prisoner;" }) ∈ TT := List.mem_filter.mpr ⟨List.mem_of_getElem? (i := 386) (by decide +kernel), by decide +kernel⟩
theorem wd_387 : Cond.code ({ cls := "VisitHall$People", name := "prisonerAt", desc := "(I)LVisitHall$Prisoner;" }) prog_4_method_3_code 2 (Option.some (FieldType.object "VisitHall$Prisoner")) ∈ TT := List.mem_filter.mpr ⟨List.mem_of_getElem? (i := 387) (by decide +kernel), by decide +kernel⟩
theorem wd_388 : Cond.methodLink "VisitHall" 105 ({ cls := "VisitHall", name := "withBit", desc := "(III)I" }) ∈ TT := List.mem_filter.mpr ⟨List.mem_of_getElem? (i := 388) (by decide +kernel), by decide +kernel⟩
theorem wd_389 : Cond.static ({ cls := "VisitHall", name := "withBit", desc := "(III)I" }) ∈ TT := List.mem_filter.mpr ⟨List.mem_of_getElem? (i := 389) (by decide +kernel), by decide +kernel⟩
theorem wd_390 : Cond.code ({ cls := "VisitHall", name := "withBit", desc := "(III)I" }) prog_1_method_29_code 3 (Option.some FieldType.int) ∈ TT := List.mem_filter.mpr ⟨List.mem_of_getElem? (i := 390) (by decide +kernel), by decide +kernel⟩
theorem wd_391 : Cond.methodLink "VisitHallLaw" 31 ({ cls := "VisitHall", name := "order", desc := "(III)I" }) ∈ TT := List.mem_filter.mpr ⟨List.mem_of_getElem? (i := 391) (by decide +kernel), by decide +kernel⟩
theorem wd_392 : Cond.instanceMethod ({ cls := "VisitHall", name := "order", desc := "(III)I" }) ∈ TT := List.mem_filter.mpr ⟨List.mem_of_getElem? (i := 392) (by decide +kernel), by decide +kernel⟩
theorem wd_393 : Cond.selects "VisitHall" ({ cls := "VisitHall", name := "order", desc := "(III)I" }) ({ cls := "VisitHall", name := "order", desc := "(III)I" }) ∈ TT := List.mem_filter.mpr ⟨List.mem_of_getElem? (i := 393) (by decide +kernel), by decide +kernel⟩
theorem wd_394 : Cond.code ({ cls := "VisitHall", name := "order", desc := "(III)I" }) prog_1_method_6_code 5 (Option.some FieldType.int) ∈ TT := List.mem_filter.mpr ⟨List.mem_of_getElem? (i := 394) (by decide +kernel), by decide +kernel⟩
theorem wd_395 : Cond.methodLink "VisitHall" 109 ({ cls := "VisitHall$Prisoner", name := "barFrom", desc := "(II)V" }) ∈ TT := List.mem_filter.mpr ⟨List.mem_of_getElem? (i := 395) (by decide +kernel), by decide +kernel⟩
theorem wd_396 : Cond.instanceMethod ({ cls := "VisitHall$Prisoner", name := "barFrom", desc := "(II)V" }) ∈ TT := List.mem_filter.mpr ⟨List.mem_of_getElem? (i := 396) (by decide +kernel), by decide +kernel⟩
theorem wd_397 : Cond.selects "VisitHall$Prisoner" ({ cls := "VisitHall$Prisoner", name := "barFrom", desc := "(II)V" }) ({ cls := "VisitHall$Prisoner", name := "barFrom", desc := "(II)V" }) ∈ TT := List.mem_filter.mpr ⟨List.mem_of_getElem? (i := 397) (by decide +kernel), by decide +kernel⟩
theorem wd_398 : Cond.code ({ cls := "VisitHall$Prisoner", name := "barFrom", desc := "(II)V" }) prog_5_method_3_code 3 (Option.none : Option FieldType) ∈ TT := List.mem_filter.mpr ⟨List.mem_of_getElem? (i := 398) (by decide +kernel), by decide +kernel⟩
theorem wd_399 : Cond.methodLinkNest "VisitHall$Prisoner" 34 ({ cls := "VisitHall", name := "isBelow", desc := "(II)Z" }) "VisitHall" ∈ TT := List.mem_filter.mpr ⟨List.mem_of_getElem? (i := 399) (by decide +kernel), by decide +kernel⟩
theorem wd_400 : Cond.methodLink "VisitHall" 113 ({ cls := "VisitHall$Book", name := "giveBackAll", desc := "(III)I" }) ∈ TT := List.mem_filter.mpr ⟨List.mem_of_getElem? (i := 400) (by decide +kernel), by decide +kernel⟩
theorem wd_401 : Cond.instanceMethod ({ cls := "VisitHall$Book", name := "giveBackAll", desc := "(III)I" }) ∈ TT := List.mem_filter.mpr ⟨List.mem_of_getElem? (i := 401) (by decide +kernel), by decide +kernel⟩
theorem wd_402 : Cond.selects "VisitHall$Book" ({ cls := "VisitHall$Book", name := "giveBackAll", desc := "(III)I" }) ({ cls := "VisitHall$Book", name := "giveBackAll", desc := "(III)I" }) ∈ TT := List.mem_filter.mpr ⟨List.mem_of_getElem? (i := 402) (by decide +kernel), by decide +kernel⟩
theorem wd_403 : Cond.code ({ cls := "VisitHall$Book", name := "giveBackAll", desc := "(III)I" }) prog_2_method_9_code 7 (Option.some FieldType.int) ∈ TT := List.mem_filter.mpr ⟨List.mem_of_getElem? (i := 403) (by decide +kernel), by decide +kernel⟩
theorem wd_404 : Cond.methodLink "VisitHallLaw" 35 ({ cls := "VisitHall", name := "lift", desc := "(II)I" }) ∈ TT := List.mem_filter.mpr ⟨List.mem_of_getElem? (i := 404) (by decide +kernel), by decide +kernel⟩
theorem wd_405 : Cond.instanceMethod ({ cls := "VisitHall", name := "lift", desc := "(II)I" }) ∈ TT := List.mem_filter.mpr ⟨List.mem_of_getElem? (i := 405) (by decide +kernel), by decide +kernel⟩
theorem wd_406 : Cond.selects "VisitHall" ({ cls := "VisitHall", name := "lift", desc := "(II)I" }) ({ cls := "VisitHall", name := "lift", desc := "(II)I" }) ∈ TT := List.mem_filter.mpr ⟨List.mem_of_getElem? (i := 406) (by decide +kernel), by decide +kernel⟩
theorem wd_407 : Cond.code ({ cls := "VisitHall", name := "lift", desc := "(II)I" }) prog_1_method_7_code 5 (Option.some FieldType.int) ∈ TT := List.mem_filter.mpr ⟨List.mem_of_getElem? (i := 407) (by decide +kernel), by decide +kernel⟩
theorem wd_408 : Cond.methodLink "VisitHall" 116 ({ cls := "VisitHall$Prisoner", name := "barredFrom", desc := "(I)I" }) ∈ TT := List.mem_filter.mpr ⟨List.mem_of_getElem? (i := 408) (by decide +kernel), by decide +kernel⟩
theorem wd_409 : Cond.instanceMethod ({ cls := "VisitHall$Prisoner", name := "barredFrom", desc := "(I)I" }) ∈ TT := List.mem_filter.mpr ⟨List.mem_of_getElem? (i := 409) (by decide +kernel), by decide +kernel⟩
theorem wd_410 : Cond.selects "VisitHall$Prisoner" ({ cls := "VisitHall$Prisoner", name := "barredFrom", desc := "(I)I" }) ({ cls := "VisitHall$Prisoner", name := "barredFrom", desc := "(I)I" }) ∈ TT := List.mem_filter.mpr ⟨List.mem_of_getElem? (i := 410) (by decide +kernel), by decide +kernel⟩
theorem wd_411 : Cond.code ({ cls := "VisitHall$Prisoner", name := "barredFrom", desc := "(I)I" }) prog_5_method_2_code 2 (Option.some FieldType.int) ∈ TT := List.mem_filter.mpr ⟨List.mem_of_getElem? (i := 411) (by decide +kernel), by decide +kernel⟩
theorem wd_412 : Cond.constant "VisitHall" 119 (-1000000002) ∈ TT := List.mem_filter.mpr ⟨List.mem_of_getElem? (i := 412) (by decide +kernel), by decide +kernel⟩
theorem wd_413 : Cond.methodLink "VisitHall" 120 ({ cls := "VisitHall$Gate", name := "letWaiting", desc := "()I" }) ∈ TT := List.mem_filter.mpr ⟨List.mem_of_getElem? (i := 413) (by decide +kernel), by decide +kernel⟩
theorem wd_414 : Cond.instanceMethod ({ cls := "VisitHall$Gate", name := "letWaiting", desc := "()I" }) ∈ TT := List.mem_filter.mpr ⟨List.mem_of_getElem? (i := 414) (by decide +kernel), by decide +kernel⟩
theorem wd_415 : Cond.selects "VisitHall$Gate" ({ cls := "VisitHall$Gate", name := "letWaiting", desc := "()I" }) ({ cls := "VisitHall$Gate", name := "letWaiting", desc := "()I" }) ∈ TT := List.mem_filter.mpr ⟨List.mem_of_getElem? (i := 415) (by decide +kernel), by decide +kernel⟩
theorem wd_416 : Cond.code ({ cls := "VisitHall$Gate", name := "letWaiting", desc := "()I" }) prog_3_method_5_code 4 (Option.some FieldType.int) ∈ TT := List.mem_filter.mpr ⟨List.mem_of_getElem? (i := 416) (by decide +kernel), by decide +kernel⟩
theorem wd_417 : Cond.methodLink "VisitHall$Gate" 95 ({ cls := "VisitHall$Gate", name := "reason", desc := "(LVisitHall$Visit;)I" }) ∈ TT := List.mem_filter.mpr ⟨List.mem_of_getElem? (i := 417) (by decide +kernel), by decide +kernel⟩
theorem wd_418 : Cond.instanceMethod ({ cls := "VisitHall$Gate", name := "reason", desc := "(LVisitHall$Visit;)I" }) ∈ TT := List.mem_filter.mpr ⟨List.mem_of_getElem? (i := 418) (by decide +kernel), by decide +kernel⟩
theorem wd_419 : Cond.selects "VisitHall$Gate" ({ cls := "VisitHall$Gate", name := "reason", desc := "(LVisitHall$Visit;)I" }) ({ cls := "VisitHall$Gate", name := "reason", desc := "(LVisitHall$Visit;)I" }) ∈ TT := List.mem_filter.mpr ⟨List.mem_of_getElem? (i := 419) (by decide +kernel), by decide +kernel⟩
theorem wd_420 : Cond.code ({ cls := "VisitHall$Gate", name := "reason", desc := "(LVisitHall$Visit;)I" }) prog_3_method_3_code 4 (Option.some FieldType.int) ∈ TT := List.mem_filter.mpr ⟨List.mem_of_getElem? (i := 420) (by decide +kernel), by decide +kernel⟩
theorem wd_421 : Cond.methodLink "VisitHall$Gate" 51 ({ cls := "VisitHall$Gate", name := "reasonOfPeople", desc := "(LVisitHall$Visit;)I" }) ∈ TT := List.mem_filter.mpr ⟨List.mem_of_getElem? (i := 421) (by decide +kernel), by decide +kernel⟩
theorem wd_423 : Cond.instanceMethod ({ cls := "VisitHall$Gate", name := "reasonOfPeople", desc := "(LVisitHall$Visit;)I" }) ∈ TT := List.mem_filter.mpr ⟨List.mem_of_getElem? (i := 423) (by decide +kernel), by decide +kernel⟩
theorem wd_424 : Cond.code ({ cls := "VisitHall$Gate", name := "reasonOfPeople", desc := "(LVisitHall$Visit;)I" }) prog_3_method_6_code 3 (Option.some FieldType.int) ∈ TT := List.mem_filter.mpr ⟨List.mem_of_getElem? (i := 424) (by decide +kernel), by decide +kernel⟩
theorem wd_425 : Cond.methodLink "VisitHall$Gate" 105 ({ cls := "VisitHall$People", name := "prisonerAt", desc := "(I)LVisitHall$Prisoner;" }) ∈ TT := List.mem_filter.mpr ⟨List.mem_of_getElem? (i := 425) (by decide +kernel), by decide +kernel⟩
theorem wd_426 : Cond.methodLink "VisitHall$Gate" 119 ({ cls := "VisitHall$People", name := "areListed", desc := "(LVisitHall$Prisoner;I)Z" }) ∈ TT := List.mem_filter.mpr ⟨List.mem_of_getElem? (i := 426) (by decide +kernel), by decide +kernel⟩
theorem wd_427 : Cond.instanceMethod ({ cls := "VisitHall$People", name := "areListed", desc := "(LVisitHall$Prisoner;I)Z" }) ∈ TT := List.mem_filter.mpr ⟨List.mem_of_getElem? (i := 427) (by decide +kernel), by decide +kernel⟩
theorem wd_428 : Cond.selects "VisitHall$People" ({ cls := "VisitHall$People", name := "areListed", desc := "(LVisitHall$Prisoner;I)Z" }) ({ cls := "VisitHall$People", name := "areListed", desc := "(LVisitHall$Prisoner;I)Z" }) ∈ TT := List.mem_filter.mpr ⟨List.mem_of_getElem? (i := 428) (by decide +kernel), by decide +kernel⟩
theorem wd_429 : Cond.code ({ cls := "VisitHall$People", name := "areListed", desc := "(LVisitHall$Prisoner;I)Z" }) prog_4_method_10_code 3 (Option.some FieldType.boolean) ∈ TT := List.mem_filter.mpr ⟨List.mem_of_getElem? (i := 429) (by decide +kernel), by decide +kernel⟩
theorem wd_430 : Cond.methodLink "VisitHall$Gate" 123 ({ cls := "VisitHall$Prisoner", name := "isBarred", desc := "(II)Z" }) ∈ TT := List.mem_filter.mpr ⟨List.mem_of_getElem? (i := 430) (by decide +kernel), by decide +kernel⟩
theorem wd_431 : Cond.instanceMethod ({ cls := "VisitHall$Prisoner", name := "isBarred", desc := "(II)Z" }) ∈ TT := List.mem_filter.mpr ⟨List.mem_of_getElem? (i := 431) (by decide +kernel), by decide +kernel⟩
theorem wd_432 : Cond.selects "VisitHall$Prisoner" ({ cls := "VisitHall$Prisoner", name := "isBarred", desc := "(II)Z" }) ({ cls := "VisitHall$Prisoner", name := "isBarred", desc := "(II)Z" }) ∈ TT := List.mem_filter.mpr ⟨List.mem_of_getElem? (i := 432) (by decide +kernel), by decide +kernel⟩
theorem wd_433 : Cond.code ({ cls := "VisitHall$Prisoner", name := "isBarred", desc := "(II)Z" }) prog_5_method_4_code 4 (Option.some FieldType.boolean) ∈ TT := List.mem_filter.mpr ⟨List.mem_of_getElem? (i := 433) (by decide +kernel), by decide +kernel⟩
theorem wd_434 : Cond.methodLink "VisitHall$Gate" 126 ({ cls := "VisitHall$People", name := "needsKin", desc := "(I)Z" }) ∈ TT := List.mem_filter.mpr ⟨List.mem_of_getElem? (i := 434) (by decide +kernel), by decide +kernel⟩
theorem wd_435 : Cond.instanceMethod ({ cls := "VisitHall$People", name := "needsKin", desc := "(I)Z" }) ∈ TT := List.mem_filter.mpr ⟨List.mem_of_getElem? (i := 435) (by decide +kernel), by decide +kernel⟩
theorem wd_436 : Cond.selects "VisitHall$People" ({ cls := "VisitHall$People", name := "needsKin", desc := "(I)Z" }) ({ cls := "VisitHall$People", name := "needsKin", desc := "(I)Z" }) ∈ TT := List.mem_filter.mpr ⟨List.mem_of_getElem? (i := 436) (by decide +kernel), by decide +kernel⟩
theorem wd_437 : Cond.code ({ cls := "VisitHall$People", name := "needsKin", desc := "(I)Z" }) prog_4_method_9_code 2 (Option.some FieldType.boolean) ∈ TT := List.mem_filter.mpr ⟨List.mem_of_getElem? (i := 437) (by decide +kernel), by decide +kernel⟩
theorem wd_438 : Cond.methodLink "VisitHall$Gate" 61 ({ cls := "VisitHall$Gate", name := "reasonOfRight", desc := "(LVisitHall$Visit;)I" }) ∈ TT := List.mem_filter.mpr ⟨List.mem_of_getElem? (i := 438) (by decide +kernel), by decide +kernel⟩
theorem wd_440 : Cond.instanceMethod ({ cls := "VisitHall$Gate", name := "reasonOfRight", desc := "(LVisitHall$Visit;)I" }) ∈ TT := List.mem_filter.mpr ⟨List.mem_of_getElem? (i := 440) (by decide +kernel), by decide +kernel⟩
theorem wd_441 : Cond.code ({ cls := "VisitHall$Gate", name := "reasonOfRight", desc := "(LVisitHall$Visit;)I" }) prog_3_method_7_code 5 (Option.some FieldType.int) ∈ TT := List.mem_filter.mpr ⟨List.mem_of_getElem? (i := 441) (by decide +kernel), by decide +kernel⟩
theorem wd_442 : Cond.methodLinkNest "VisitHall$Gate" 47 ({ cls := "VisitHall", name := "isBelow", desc := "(II)Z" }) "VisitHall" ∈ TT := List.mem_filter.mpr ⟨List.mem_of_getElem? (i := 442) (by decide +kernel), by decide +kernel⟩
theorem wd_443 : Cond.methodLink "VisitHall$Gate" 132 ({ cls := "VisitHall$Right", name := "allows", desc := "(LVisitHall$Visit;)Z" }) ∈ TT := List.mem_filter.mpr ⟨List.mem_of_getElem? (i := 443) (by decide +kernel), by decide +kernel⟩
theorem wd_444 : Cond.instanceMethod ({ cls := "VisitHall$Right", name := "allows", desc := "(LVisitHall$Visit;)Z" }) ∈ TT := List.mem_filter.mpr ⟨List.mem_of_getElem? (i := 444) (by decide +kernel), by decide +kernel⟩
theorem wd_445 : Cond.selects "VisitHall$Right" ({ cls := "VisitHall$Right", name := "allows", desc := "(LVisitHall$Visit;)Z" }) ({ cls := "VisitHall$Right", name := "allows", desc := "(LVisitHall$Visit;)Z" }) ∈ TT := List.mem_filter.mpr ⟨List.mem_of_getElem? (i := 445) (by decide +kernel), by decide +kernel⟩
theorem wd_446 : Cond.code ({ cls := "VisitHall$Right", name := "allows", desc := "(LVisitHall$Visit;)Z" }) prog_6_method_2_code 2 (Option.some FieldType.boolean) ∈ TT := List.mem_filter.mpr ⟨List.mem_of_getElem? (i := 446) (by decide +kernel), by decide +kernel⟩
theorem wd_447 : Cond.constant "VisitHall$Gate" 140 (-1000000005) ∈ TT := List.mem_filter.mpr ⟨List.mem_of_getElem? (i := 447) (by decide +kernel), by decide +kernel⟩
theorem wd_448 : Cond.methodLink "VisitHall$Gate" 141 ({ cls := "VisitHall$People", name := "comesFrom", desc := "(II)Z" }) ∈ TT := List.mem_filter.mpr ⟨List.mem_of_getElem? (i := 448) (by decide +kernel), by decide +kernel⟩
theorem wd_449 : Cond.instanceMethod ({ cls := "VisitHall$People", name := "comesFrom", desc := "(II)Z" }) ∈ TT := List.mem_filter.mpr ⟨List.mem_of_getElem? (i := 449) (by decide +kernel), by decide +kernel⟩
theorem wd_450 : Cond.selects "VisitHall$People" ({ cls := "VisitHall$People", name := "comesFrom", desc := "(II)Z" }) ({ cls := "VisitHall$People", name := "comesFrom", desc := "(II)Z" }) ∈ TT := List.mem_filter.mpr ⟨List.mem_of_getElem? (i := 450) (by decide +kernel), by decide +kernel⟩
theorem wd_451 : Cond.code ({ cls := "VisitHall$People", name := "comesFrom", desc := "(II)Z" }) prog_4_method_12_code 4 (Option.some FieldType.boolean) ∈ TT := List.mem_filter.mpr ⟨List.mem_of_getElem? (i := 451) (by decide +kernel), by decide +kernel⟩
theorem wd_452 : Cond.methodLink "VisitHall$Gate" 147 ({ cls := "VisitHall$Gate", name := "mostInSpan", desc := "(LVisitHall$Visit;I)I" }) ∈ TT := List.mem_filter.mpr ⟨List.mem_of_getElem? (i := 452) (by decide +kernel), by decide +kernel⟩
theorem wd_454 : Cond.instanceMethod ({ cls := "VisitHall$Gate", name := "mostInSpan", desc := "(LVisitHall$Visit;I)I" }) ∈ TT := List.mem_filter.mpr ⟨List.mem_of_getElem? (i := 454) (by decide +kernel), by decide +kernel⟩
theorem wd_455 : Cond.code ({ cls := "VisitHall$Gate", name := "mostInSpan", desc := "(LVisitHall$Visit;I)I" }) prog_3_method_8_code 6 (Option.some FieldType.int) ∈ TT := List.mem_filter.mpr ⟨List.mem_of_getElem? (i := 455) (by decide +kernel), by decide +kernel⟩
theorem wd_456 : Cond.methodLink "VisitHall$Gate" 155 ({ cls := "VisitHall$Gate", name := "tallyAround", desc := "(LVisitHall$Visit;I)V" }) ∈ TT := List.mem_filter.mpr ⟨List.mem_of_getElem? (i := 456) (by decide +kernel), by decide +kernel⟩
theorem wd_458 : Cond.instanceMethod ({ cls := "VisitHall$Gate", name := "tallyAround", desc := "(LVisitHall$Visit;I)V" }) ∈ TT := List.mem_filter.mpr ⟨List.mem_of_getElem? (i := 458) (by decide +kernel), by decide +kernel⟩
theorem wd_459 : Cond.code ({ cls := "VisitHall$Gate", name := "tallyAround", desc := "(LVisitHall$Visit;I)V" }) prog_3_method_9_code 7 (Option.none : Option FieldType) ∈ TT := List.mem_filter.mpr ⟨List.mem_of_getElem? (i := 459) (by decide +kernel), by decide +kernel⟩
theorem wd_460 : Cond.methodLink "VisitHall$Gate" 165 ({ cls := "java/util/Arrays", name := "fill", desc := "([II)V" }) ∈ TT := List.mem_filter.mpr ⟨List.mem_of_getElem? (i := 460) (by decide +kernel), by decide +kernel⟩
theorem wd_461 : Cond.methodLink "VisitHall$Gate" 159 ({ cls := "java/lang/Math", name := "max", desc := "(II)I" }) ∈ TT := List.mem_filter.mpr ⟨List.mem_of_getElem? (i := 461) (by decide +kernel), by decide +kernel⟩
theorem wd_462 : Cond.static ({ cls := "java/lang/Math", name := "max", desc := "(II)I" }) ∈ TT := List.mem_filter.mpr ⟨List.mem_of_getElem? (i := 462) (by decide +kernel), by decide +kernel⟩
theorem wd_463 : Cond.code ({ cls := "java/lang/Math", name := "max", desc := "(II)I" }) prog_15_method_65_code 2 (Option.some FieldType.int) ∈ TT := List.mem_filter.mpr ⟨List.mem_of_getElem? (i := 463) (by decide +kernel), by decide +kernel⟩
theorem wd_464 : Cond.methodLink "VisitHall$Gate" 151 ({ cls := "VisitHall$Right", name := "gives", desc := "(Z)I" }) ∈ TT := List.mem_filter.mpr ⟨List.mem_of_getElem? (i := 464) (by decide +kernel), by decide +kernel⟩
theorem wd_465 : Cond.instanceMethod ({ cls := "VisitHall$Right", name := "gives", desc := "(Z)I" }) ∈ TT := List.mem_filter.mpr ⟨List.mem_of_getElem? (i := 465) (by decide +kernel), by decide +kernel⟩
theorem wd_466 : Cond.selects "VisitHall$Right" ({ cls := "VisitHall$Right", name := "gives", desc := "(Z)I" }) ({ cls := "VisitHall$Right", name := "gives", desc := "(Z)I" }) ∈ TT := List.mem_filter.mpr ⟨List.mem_of_getElem? (i := 466) (by decide +kernel), by decide +kernel⟩
theorem wd_467 : Cond.code ({ cls := "VisitHall$Right", name := "gives", desc := "(Z)I" }) prog_6_method_3_code 2 (Option.some FieldType.int) ∈ TT := List.mem_filter.mpr ⟨List.mem_of_getElem? (i := 467) (by decide +kernel), by decide +kernel⟩
theorem wd_468 : Cond.methodLink "VisitHall$Gate" 64 ({ cls := "VisitHall$Gate", name := "reasonOfHall", desc := "(LVisitHall$Visit;)I" }) ∈ TT := List.mem_filter.mpr ⟨List.mem_of_getElem? (i := 468) (by decide +kernel), by decide +kernel⟩
theorem wd_470 : Cond.instanceMethod ({ cls := "VisitHall$Gate", name := "reasonOfHall", desc := "(LVisitHall$Visit;)I" }) ∈ TT := List.mem_filter.mpr ⟨List.mem_of_getElem? (i := 470) (by decide +kernel), by decide +kernel⟩
theorem wd_471 : Cond.code ({ cls := "VisitHall$Gate", name := "reasonOfHall", desc := "(LVisitHall$Visit;)I" }) prog_3_method_10_code 4 (Option.some FieldType.int) ∈ TT := List.mem_filter.mpr ⟨List.mem_of_getElem? (i := 471) (by decide +kernel), by decide +kernel⟩
theorem wd_472 : Cond.methodLink "VisitHall$Gate" 171 ({ cls := "VisitHall$Book", name := "hasMeetingOfSamePeople", desc := "(LVisitHall$Visit;)Z" }) ∈ TT := List.mem_filter.mpr ⟨List.mem_of_getElem? (i := 472) (by decide +kernel), by decide +kernel⟩
theorem wd_473 : Cond.instanceMethod ({ cls := "VisitHall$Book", name := "hasMeetingOfSamePeople", desc := "(LVisitHall$Visit;)Z" }) ∈ TT := List.mem_filter.mpr ⟨List.mem_of_getElem? (i := 473) (by decide +kernel), by decide +kernel⟩
theorem wd_474 : Cond.selects "VisitHall$Book" ({ cls := "VisitHall$Book", name := "hasMeetingOfSamePeople", desc := "(LVisitHall$Visit;)Z" }) ({ cls := "VisitHall$Book", name := "hasMeetingOfSamePeople", desc := "(LVisitHall$Visit;)Z" }) ∈ TT := List.mem_filter.mpr ⟨List.mem_of_getElem? (i := 474) (by decide +kernel), by decide +kernel⟩
theorem wd_475 : Cond.code ({ cls := "VisitHall$Book", name := "hasMeetingOfSamePeople", desc := "(LVisitHall$Visit;)Z" }) prog_2_method_10_code 4 (Option.some FieldType.boolean) ∈ TT := List.mem_filter.mpr ⟨List.mem_of_getElem? (i := 475) (by decide +kernel), by decide +kernel⟩
theorem wd_476 : Cond.methodLink "VisitHall$Book" 52 ({ cls := "VisitHall$Visit", name := "sharesHalfWith", desc := "(LVisitHall$Visit;)Z" }) ∈ TT := List.mem_filter.mpr ⟨List.mem_of_getElem? (i := 476) (by decide +kernel), by decide +kernel⟩
theorem wd_477 : Cond.instanceMethod ({ cls := "VisitHall$Visit", name := "sharesHalfWith", desc := "(LVisitHall$Visit;)Z" }) ∈ TT := List.mem_filter.mpr ⟨List.mem_of_getElem? (i := 477) (by decide +kernel), by decide +kernel⟩
theorem wd_478 : Cond.selects "VisitHall$Visit" ({ cls := "VisitHall$Visit", name := "sharesHalfWith", desc := "(LVisitHall$Visit;)Z" }) ({ cls := "VisitHall$Visit", name := "sharesHalfWith", desc := "(LVisitHall$Visit;)Z" }) ∈ TT := List.mem_filter.mpr ⟨List.mem_of_getElem? (i := 478) (by decide +kernel), by decide +kernel⟩
theorem wd_479 : Cond.code ({ cls := "VisitHall$Visit", name := "sharesHalfWith", desc := "(LVisitHall$Visit;)Z" }) prog_11_method_4_code 2 (Option.some FieldType.boolean) ∈ TT := List.mem_filter.mpr ⟨List.mem_of_getElem? (i := 479) (by decide +kernel), by decide +kernel⟩
theorem wd_480 : Cond.methodLink "VisitHall$Book" 56 ({ cls := "VisitHall$Visit", name := "sharesPeopleWith", desc := "(LVisitHall$Visit;)Z" }) ∈ TT := List.mem_filter.mpr ⟨List.mem_of_getElem? (i := 480) (by decide +kernel), by decide +kernel⟩
theorem wd_481 : Cond.instanceMethod ({ cls := "VisitHall$Visit", name := "sharesPeopleWith", desc := "(LVisitHall$Visit;)Z" }) ∈ TT := List.mem_filter.mpr ⟨List.mem_of_getElem? (i := 481) (by decide +kernel), by decide +kernel⟩
theorem wd_482 : Cond.selects "VisitHall$Visit" ({ cls := "VisitHall$Visit", name := "sharesPeopleWith", desc := "(LVisitHall$Visit;)Z" }) ({ cls := "VisitHall$Visit", name := "sharesPeopleWith", desc := "(LVisitHall$Visit;)Z" }) ∈ TT := List.mem_filter.mpr ⟨List.mem_of_getElem? (i := 482) (by decide +kernel), by decide +kernel⟩
theorem wd_483 : Cond.code ({ cls := "VisitHall$Visit", name := "sharesPeopleWith", desc := "(LVisitHall$Visit;)Z" }) prog_11_method_5_code 2 (Option.some FieldType.boolean) ∈ TT := List.mem_filter.mpr ⟨List.mem_of_getElem? (i := 483) (by decide +kernel), by decide +kernel⟩
theorem wd_484 : Cond.methodLink "VisitHall$Gate" 174 ({ cls := "VisitHall$Gate", name := "meetsRivals", desc := "(LVisitHall$Visit;)Z" }) ∈ TT := List.mem_filter.mpr ⟨List.mem_of_getElem? (i := 484) (by decide +kernel), by decide +kernel⟩
theorem wd_486 : Cond.instanceMethod ({ cls := "VisitHall$Gate", name := "meetsRivals", desc := "(LVisitHall$Visit;)Z" }) ∈ TT := List.mem_filter.mpr ⟨List.mem_of_getElem? (i := 486) (by decide +kernel), by decide +kernel⟩
theorem wd_487 : Cond.code ({ cls := "VisitHall$Gate", name := "meetsRivals", desc := "(LVisitHall$Visit;)Z" }) prog_3_method_11_code 4 (Option.some FieldType.boolean) ∈ TT := List.mem_filter.mpr ⟨List.mem_of_getElem? (i := 487) (by decide +kernel), by decide +kernel⟩
theorem wd_488 : Cond.methodLink "VisitHall$Gate" 190 ({ cls := "VisitHall$Visit", name := "sharesHalfWith", desc := "(LVisitHall$Visit;)Z" }) ∈ TT := List.mem_filter.mpr ⟨List.mem_of_getElem? (i := 488) (by decide +kernel), by decide +kernel⟩
theorem wd_489 : Cond.methodLink "VisitHall$Gate" 193 ({ cls := "VisitHall$Gate", name := "areOfRivals", desc := "(LVisitHall$Visit;LVisitHall$Visit;)Z" }) ∈ TT := List.mem_filter.mpr ⟨List.mem_of_getElem? (i := 489) (by decide +kernel), by decide +kernel⟩
theorem wd_491 : Cond.instanceMethod ({ cls := "VisitHall$Gate", name := "areOfRivals", desc := "(LVisitHall$Visit;LVisitHall$Visit;)Z" }) ∈ TT := List.mem_filter.mpr ⟨List.mem_of_getElem? (i := 491) (by decide +kernel), by decide +kernel⟩
theorem wd_492 : Cond.code ({ cls := "VisitHall$Gate", name := "areOfRivals", desc := "(LVisitHall$Visit;LVisitHall$Visit;)Z" }) prog_3_method_12_code 5 (Option.some FieldType.boolean) ∈ TT := List.mem_filter.mpr ⟨List.mem_of_getElem? (i := 492) (by decide +kernel), by decide +kernel⟩
theorem wd_493 : Cond.methodLink "VisitHall$Gate" 200 ({ cls := "VisitHall$People", name := "areRivals", desc := "(II)Z" }) ∈ TT := List.mem_filter.mpr ⟨List.mem_of_getElem? (i := 493) (by decide +kernel), by decide +kernel⟩
theorem wd_494 : Cond.instanceMethod ({ cls := "VisitHall$People", name := "areRivals", desc := "(II)Z" }) ∈ TT := List.mem_filter.mpr ⟨List.mem_of_getElem? (i := 494) (by decide +kernel), by decide +kernel⟩
theorem wd_495 : Cond.selects "VisitHall$People" ({ cls := "VisitHall$People", name := "areRivals", desc := "(II)Z" }) ({ cls := "VisitHall$People", name := "areRivals", desc := "(II)Z" }) ∈ TT := List.mem_filter.mpr ⟨List.mem_of_getElem? (i := 495) (by decide +kernel), by decide +kernel⟩
theorem wd_496 : Cond.code ({ cls := "VisitHall$People", name := "areRivals", desc := "(II)Z" }) prog_4_method_13_code 3 (Option.some FieldType.boolean) ∈ TT := List.mem_filter.mpr ⟨List.mem_of_getElem? (i := 496) (by decide +kernel), by decide +kernel⟩
theorem wd_497 : Cond.methodLink "VisitHall$Gate" 177 ({ cls := "VisitHall$Gate", name := "tablesOn", desc := "(I)I" }) ∈ TT := List.mem_filter.mpr ⟨List.mem_of_getElem? (i := 497) (by decide +kernel), by decide +kernel⟩
theorem wd_498 : Cond.instanceMethod ({ cls := "VisitHall$Gate", name := "tablesOn", desc := "(I)I" }) ∈ TT := List.mem_filter.mpr ⟨List.mem_of_getElem? (i := 498) (by decide +kernel), by decide +kernel⟩
theorem wd_499 : Cond.selects "VisitHall$Gate" ({ cls := "VisitHall$Gate", name := "tablesOn", desc := "(I)I" }) ({ cls := "VisitHall$Gate", name := "tablesOn", desc := "(I)I" }) ∈ TT := List.mem_filter.mpr ⟨List.mem_of_getElem? (i := 499) (by decide +kernel), by decide +kernel⟩
theorem wd_500 : Cond.code ({ cls := "VisitHall$Gate", name := "tablesOn", desc := "(I)I" }) prog_3_method_2_code 3 (Option.some FieldType.int) ∈ TT := List.mem_filter.mpr ⟨List.mem_of_getElem? (i := 500) (by decide +kernel), by decide +kernel⟩
theorem wd_501 : Cond.methodLink "VisitHall$Gate" 37 ({ cls := "VisitHall$Sheet", name := "has", desc := "(I)Z" }) ∈ TT := List.mem_filter.mpr ⟨List.mem_of_getElem? (i := 501) (by decide +kernel), by decide +kernel⟩
theorem wd_502 : Cond.instanceMethod ({ cls := "VisitHall$Sheet", name := "has", desc := "(I)Z" }) ∈ TT := List.mem_filter.mpr ⟨List.mem_of_getElem? (i := 502) (by decide +kernel), by decide +kernel⟩
theorem wd_503 : Cond.selects "VisitHall$Sheet" ({ cls := "VisitHall$Sheet", name := "has", desc := "(I)Z" }) ({ cls := "VisitHall$Sheet", name := "has", desc := "(I)Z" }) ∈ TT := List.mem_filter.mpr ⟨List.mem_of_getElem? (i := 503) (by decide +kernel), by decide +kernel⟩
theorem wd_504 : Cond.code ({ cls := "VisitHall$Sheet", name := "has", desc := "(I)Z" }) prog_9_method_4_code 2 (Option.some FieldType.boolean) ∈ TT := List.mem_filter.mpr ⟨List.mem_of_getElem? (i := 504) (by decide +kernel), by decide +kernel⟩
theorem wd_505 : Cond.methodLinkNest "VisitHall$Sheet" 23 ({ cls := "VisitHall", name := "isBelow", desc := "(II)Z" }) "VisitHall" ∈ TT := List.mem_filter.mpr ⟨List.mem_of_getElem? (i := 505) (by decide +kernel), by decide +kernel⟩
theorem wd_506 : Cond.methodLink "VisitHall$Gate" 187 ({ cls := "VisitHall$Book", name := "letAt", desc := "(II)I" }) ∈ TT := List.mem_filter.mpr ⟨List.mem_of_getElem? (i := 506) (by decide +kernel), by decide +kernel⟩
theorem wd_507 : Cond.instanceMethod ({ cls := "VisitHall$Book", name := "letAt", desc := "(II)I" }) ∈ TT := List.mem_filter.mpr ⟨List.mem_of_getElem? (i := 507) (by decide +kernel), by decide +kernel⟩
theorem wd_508 : Cond.selects "VisitHall$Book" ({ cls := "VisitHall$Book", name := "letAt", desc := "(II)I" }) ({ cls := "VisitHall$Book", name := "letAt", desc := "(II)I" }) ∈ TT := List.mem_filter.mpr ⟨List.mem_of_getElem? (i := 508) (by decide +kernel), by decide +kernel⟩
theorem wd_509 : Cond.code ({ cls := "VisitHall$Book", name := "letAt", desc := "(II)I" }) prog_2_method_7_code 5 (Option.some FieldType.int) ∈ TT := List.mem_filter.mpr ⟨List.mem_of_getElem? (i := 509) (by decide +kernel), by decide +kernel⟩
theorem wd_510 : Cond.methodLink "VisitHall$Book" 42 ({ cls := "VisitHall$Visit", name := "isLetAt", desc := "(II)Z" }) ∈ TT := List.mem_filter.mpr ⟨List.mem_of_getElem? (i := 510) (by decide +kernel), by decide +kernel⟩
theorem wd_511 : Cond.instanceMethod ({ cls := "VisitHall$Visit", name := "isLetAt", desc := "(II)Z" }) ∈ TT := List.mem_filter.mpr ⟨List.mem_of_getElem? (i := 511) (by decide +kernel), by decide +kernel⟩
theorem wd_512 : Cond.selects "VisitHall$Visit" ({ cls := "VisitHall$Visit", name := "isLetAt", desc := "(II)Z" }) ({ cls := "VisitHall$Visit", name := "isLetAt", desc := "(II)Z" }) ∈ TT := List.mem_filter.mpr ⟨List.mem_of_getElem? (i := 512) (by decide +kernel), by decide +kernel⟩
theorem wd_513 : Cond.code ({ cls := "VisitHall$Visit", name := "isLetAt", desc := "(II)Z" }) prog_11_method_3_code 3 (Option.some FieldType.boolean) ∈ TT := List.mem_filter.mpr ⟨List.mem_of_getElem? (i := 513) (by decide +kernel), by decide +kernel⟩
theorem wd_514 : Cond.methodLink "VisitHall$Gate" 67 ({ cls := "VisitHall$Gate", name := "marksRoom", desc := "(LVisitHall$Visit;)Z" }) ∈ TT := List.mem_filter.mpr ⟨List.mem_of_getElem? (i := 514) (by decide +kernel), by decide +kernel⟩
theorem wd_516 : Cond.instanceMethod ({ cls := "VisitHall$Gate", name := "marksRoom", desc := "(LVisitHall$Visit;)Z" }) ∈ TT := List.mem_filter.mpr ⟨List.mem_of_getElem? (i := 516) (by decide +kernel), by decide +kernel⟩
theorem wd_517 : Cond.code ({ cls := "VisitHall$Gate", name := "marksRoom", desc := "(LVisitHall$Visit;)Z" }) prog_3_method_13_code 7 (Option.some FieldType.boolean) ∈ TT := List.mem_filter.mpr ⟨List.mem_of_getElem? (i := 517) (by decide +kernel), by decide +kernel⟩
theorem wd_518 : Cond.methodLink "VisitHall$Gate" 203 ({ cls := "VisitHall$Book", name := "lastThatYields", desc := "(II)LVisitHall$Visit;" }) ∈ TT := List.mem_filter.mpr ⟨List.mem_of_getElem? (i := 518) (by decide +kernel), by decide +kernel⟩
theorem wd_519 : Cond.instanceMethod ({ cls := "VisitHall$Book", name := "lastThatYields", desc := "(II)LVisitHall$Visit;" }) ∈ TT := List.mem_filter.mpr ⟨List.mem_of_getElem? (i := 519) (by decide +kernel), by decide +kernel⟩
theorem wd_520 : Cond.selects "VisitHall$Book" ({ cls := "VisitHall$Book", name := "lastThatYields", desc := "(II)LVisitHall$Visit;" }) ({ cls := "VisitHall$Book", name := "lastThatYields", desc := "(II)LVisitHall$Visit;" }) ∈ TT := List.mem_filter.mpr ⟨List.mem_of_getElem? (i := 520) (by decide +kernel), by decide +kernel⟩
theorem wd_521 : Cond.code ({ cls := "VisitHall$Book", name := "lastThatYields", desc := "(II)LVisitHall$Visit;" }) prog_2_method_8_code 4 (Option.some (FieldType.object "VisitHall$Visit")) ∈ TT := List.mem_filter.mpr ⟨List.mem_of_getElem? (i := 521) (by decide +kernel), by decide +kernel⟩
theorem wd_522 : Cond.methodLink "VisitHall$Gate" 71 ({ cls := "VisitHall$Book", name := "keepAll", desc := "()V" }) ∈ TT := List.mem_filter.mpr ⟨List.mem_of_getElem? (i := 522) (by decide +kernel), by decide +kernel⟩
theorem wd_523 : Cond.instanceMethod ({ cls := "VisitHall$Book", name := "keepAll", desc := "()V" }) ∈ TT := List.mem_filter.mpr ⟨List.mem_of_getElem? (i := 523) (by decide +kernel), by decide +kernel⟩
theorem wd_524 : Cond.selects "VisitHall$Book" ({ cls := "VisitHall$Book", name := "keepAll", desc := "()V" }) ({ cls := "VisitHall$Book", name := "keepAll", desc := "()V" }) ∈ TT := List.mem_filter.mpr ⟨List.mem_of_getElem? (i := 524) (by decide +kernel), by decide +kernel⟩
theorem wd_525 : Cond.code ({ cls := "VisitHall$Book", name := "keepAll", desc := "()V" }) prog_2_method_11_code 2 (Option.none : Option FieldType) ∈ TT := List.mem_filter.mpr ⟨List.mem_of_getElem? (i := 525) (by decide +kernel), by decide +kernel⟩
theorem wd_526 : Cond.methodLink "VisitHall$Gate" 98 ({ cls := "VisitHall$Gate", name := "admit", desc := "(LVisitHall$Visit;)V" }) ∈ TT := List.mem_filter.mpr ⟨List.mem_of_getElem? (i := 526) (by decide +kernel), by decide +kernel⟩
theorem wd_527 : Cond.instanceMethod ({ cls := "VisitHall$Gate", name := "admit", desc := "(LVisitHall$Visit;)V" }) ∈ TT := List.mem_filter.mpr ⟨List.mem_of_getElem? (i := 527) (by decide +kernel), by decide +kernel⟩
theorem wd_528 : Cond.selects "VisitHall$Gate" ({ cls := "VisitHall$Gate", name := "admit", desc := "(LVisitHall$Visit;)V" }) ({ cls := "VisitHall$Gate", name := "admit", desc := "(LVisitHall$Visit;)V" }) ∈ TT := List.mem_filter.mpr ⟨List.mem_of_getElem? (i := 528) (by decide +kernel), by decide +kernel⟩
theorem wd_529 : Cond.code ({ cls := "VisitHall$Gate", name := "admit", desc := "(LVisitHall$Visit;)V" }) prog_3_method_4_code 2 (Option.none : Option FieldType) ∈ TT := List.mem_filter.mpr ⟨List.mem_of_getElem? (i := 529) (by decide +kernel), by decide +kernel⟩
theorem wd_530 : Cond.methodLink "VisitHall$Gate" 76 ({ cls := "VisitHall$Book", name := "sendLeaversToWait", desc := "()V" }) ∈ TT := List.mem_filter.mpr ⟨List.mem_of_getElem? (i := 530) (by decide +kernel), by decide +kernel⟩
theorem wd_531 : Cond.instanceMethod ({ cls := "VisitHall$Book", name := "sendLeaversToWait", desc := "()V" }) ∈ TT := List.mem_filter.mpr ⟨List.mem_of_getElem? (i := 531) (by decide +kernel), by decide +kernel⟩
theorem wd_532 : Cond.selects "VisitHall$Book" ({ cls := "VisitHall$Book", name := "sendLeaversToWait", desc := "()V" }) ({ cls := "VisitHall$Book", name := "sendLeaversToWait", desc := "()V" }) ∈ TT := List.mem_filter.mpr ⟨List.mem_of_getElem? (i := 532) (by decide +kernel), by decide +kernel⟩
theorem wd_533 : Cond.code ({ cls := "VisitHall$Book", name := "sendLeaversToWait", desc := "()V" }) prog_2_method_12_code 2 (Option.none : Option FieldType) ∈ TT := List.mem_filter.mpr ⟨List.mem_of_getElem? (i := 533) (by decide +kernel), by decide +kernel⟩
theorem wd_534 : Cond.methodLink "VisitHallLaw" 39 ({ cls := "VisitHall", name := "rivals", desc := "(III)I" }) ∈ TT := List.mem_filter.mpr ⟨List.mem_of_getElem? (i := 534) (by decide +kernel), by decide +kernel⟩
theorem wd_535 : Cond.instanceMethod ({ cls := "VisitHall", name := "rivals", desc := "(III)I" }) ∈ TT := List.mem_filter.mpr ⟨List.mem_of_getElem? (i := 535) (by decide +kernel), by decide +kernel⟩
theorem wd_536 : Cond.selects "VisitHall" ({ cls := "VisitHall", name := "rivals", desc := "(III)I" }) ({ cls := "VisitHall", name := "rivals", desc := "(III)I" }) ∈ TT := List.mem_filter.mpr ⟨List.mem_of_getElem? (i := 536) (by decide +kernel), by decide +kernel⟩
theorem wd_537 : Cond.code ({ cls := "VisitHall", name := "rivals", desc := "(III)I" }) prog_1_method_8_code 5 (Option.some FieldType.int) ∈ TT := List.mem_filter.mpr ⟨List.mem_of_getElem? (i := 537) (by decide +kernel), by decide +kernel⟩
theorem wd_538 : Cond.methodLink "VisitHall" 124 ({ cls := "VisitHall$People", name := "areRivals", desc := "(II)Z" }) ∈ TT := List.mem_filter.mpr ⟨List.mem_of_getElem? (i := 538) (by decide +kernel), by decide +kernel⟩
theorem wd_539 : Cond.methodLink "VisitHall" 127 ({ cls := "VisitHall$People", name := "setRivals", desc := "(III)V" }) ∈ TT := List.mem_filter.mpr ⟨List.mem_of_getElem? (i := 539) (by decide +kernel), by decide +kernel⟩
theorem wd_540 : Cond.instanceMethod ({ cls := "VisitHall$People", name := "setRivals", desc := "(III)V" }) ∈ TT := List.mem_filter.mpr ⟨List.mem_of_getElem? (i := 540) (by decide +kernel), by decide +kernel⟩
theorem wd_541 : Cond.selects "VisitHall$People" ({ cls := "VisitHall$People", name := "setRivals", desc := "(III)V" }) ({ cls := "VisitHall$People", name := "setRivals", desc := "(III)V" }) ∈ TT := List.mem_filter.mpr ⟨List.mem_of_getElem? (i := 541) (by decide +kernel), by decide +kernel⟩
theorem wd_542 : Cond.code ({ cls := "VisitHall$People", name := "setRivals", desc := "(III)V" }) prog_4_method_14_code 4 (Option.none : Option FieldType) ∈ TT := List.mem_filter.mpr ⟨List.mem_of_getElem? (i := 542) (by decide +kernel), by decide +kernel⟩
theorem wd_543 : Cond.methodLinkNest "VisitHall$People" 51 ({ cls := "VisitHall", name := "withBit", desc := "(III)I" }) "VisitHall" ∈ TT := List.mem_filter.mpr ⟨List.mem_of_getElem? (i := 543) (by decide +kernel), by decide +kernel⟩
theorem wd_544 : Cond.methodLink "VisitHallLaw" 43 ({ cls := "VisitHall", name := "move", desc := "(I)I" }) ∈ TT := List.mem_filter.mpr ⟨List.mem_of_getElem? (i := 544) (by decide +kernel), by decide +kernel⟩
theorem wd_545 : Cond.instanceMethod ({ cls := "VisitHall", name := "move", desc := "(I)I" }) ∈ TT := List.mem_filter.mpr ⟨List.mem_of_getElem? (i := 545) (by decide +kernel), by decide +kernel⟩
theorem wd_546 : Cond.selects "VisitHall" ({ cls := "VisitHall", name := "move", desc := "(I)I" }) ({ cls := "VisitHall", name := "move", desc := "(I)I" }) ∈ TT := List.mem_filter.mpr ⟨List.mem_of_getElem? (i := 546) (by decide +kernel), by decide +kernel⟩
theorem wd_547 : Cond.code ({ cls := "VisitHall", name := "move", desc := "(I)I" }) prog_1_method_9_code 4 (Option.some FieldType.int) ∈ TT := List.mem_filter.mpr ⟨List.mem_of_getElem? (i := 547) (by decide +kernel), by decide +kernel⟩
theorem wd_548 : Cond.methodLink "VisitHallLaw" 48 ({ cls := "VisitHall", name := "told", desc := "(II)I" }) ∈ TT := List.mem_filter.mpr ⟨List.mem_of_getElem? (i := 548) (by decide +kernel), by decide +kernel⟩
theorem wd_549 : Cond.instanceMethod ({ cls := "VisitHall", name := "told", desc := "(II)I" }) ∈ TT := List.mem_filter.mpr ⟨List.mem_of_getElem? (i := 549) (by decide +kernel), by decide +kernel⟩
theorem wd_550 : Cond.selects "VisitHall" ({ cls := "VisitHall", name := "told", desc := "(II)I" }) ({ cls := "VisitHall", name := "told", desc := "(II)I" }) ∈ TT := List.mem_filter.mpr ⟨List.mem_of_getElem? (i := 550) (by decide +kernel), by decide +kernel⟩
theorem wd_551 : Cond.code ({ cls := "VisitHall", name := "told", desc := "(II)I" }) prog_1_method_10_code 4 (Option.some FieldType.int) ∈ TT := List.mem_filter.mpr ⟨List.mem_of_getElem? (i := 551) (by decide +kernel), by decide +kernel⟩
theorem wd_552 : Cond.methodLink "VisitHall" 141 ({ cls := "VisitHall$Book", name := "letAhead", desc := "(I)I" }) ∈ TT := List.mem_filter.mpr ⟨List.mem_of_getElem? (i := 552) (by decide +kernel), by decide +kernel⟩
theorem wd_553 : Cond.instanceMethod ({ cls := "VisitHall$Book", name := "letAhead", desc := "(I)I" }) ∈ TT := List.mem_filter.mpr ⟨List.mem_of_getElem? (i := 553) (by decide +kernel), by decide +kernel⟩
theorem wd_554 : Cond.selects "VisitHall$Book" ({ cls := "VisitHall$Book", name := "letAhead", desc := "(I)I" }) ({ cls := "VisitHall$Book", name := "letAhead", desc := "(I)I" }) ∈ TT := List.mem_filter.mpr ⟨List.mem_of_getElem? (i := 554) (by decide +kernel), by decide +kernel⟩
theorem wd_555 : Cond.code ({ cls := "VisitHall$Book", name := "letAhead", desc := "(I)I" }) prog_2_method_6_code 5 (Option.some FieldType.int) ∈ TT := List.mem_filter.mpr ⟨List.mem_of_getElem? (i := 555) (by decide +kernel), by decide +kernel⟩
theorem wd_556 : Cond.methodLink "VisitHallLaw" 52 ({ cls := "VisitHall", name := "feed", desc := "(III)I" }) ∈ TT := List.mem_filter.mpr ⟨List.mem_of_getElem? (i := 556) (by decide +kernel), by decide +kernel⟩
theorem wd_557 : Cond.instanceMethod ({ cls := "VisitHall", name := "feed", desc := "(III)I" }) ∈ TT := List.mem_filter.mpr ⟨List.mem_of_getElem? (i := 557) (by decide +kernel), by decide +kernel⟩
theorem wd_558 : Cond.selects "VisitHall" ({ cls := "VisitHall", name := "feed", desc := "(III)I" }) ({ cls := "VisitHall", name := "feed", desc := "(III)I" }) ∈ TT := List.mem_filter.mpr ⟨List.mem_of_getElem? (i := 558) (by decide +kernel), by decide +kernel⟩
theorem wd_559 : Cond.code ({ cls := "VisitHall", name := "feed", desc := "(III)I" }) prog_1_method_11_code 4 (Option.some FieldType.int) ∈ TT := List.mem_filter.mpr ⟨List.mem_of_getElem? (i := 559) (by decide +kernel), by decide +kernel⟩
theorem wd_560 : Cond.methodLink "VisitHall" 144 ({ cls := "VisitHall$Tape", name := "hasRoom", desc := "()Z" }) ∈ TT := List.mem_filter.mpr ⟨List.mem_of_getElem? (i := 560) (by decide +kernel), by decide +kernel⟩
theorem wd_561 : Cond.instanceMethod ({ cls := "VisitHall$Tape", name := "hasRoom", desc := "()Z" }) ∈ TT := List.mem_filter.mpr ⟨List.mem_of_getElem? (i := 561) (by decide +kernel), by decide +kernel⟩
theorem wd_562 : Cond.selects "VisitHall$Tape" ({ cls := "VisitHall$Tape", name := "hasRoom", desc := "()Z" }) ({ cls := "VisitHall$Tape", name := "hasRoom", desc := "()Z" }) ∈ TT := List.mem_filter.mpr ⟨List.mem_of_getElem? (i := 562) (by decide +kernel), by decide +kernel⟩
theorem wd_563 : Cond.code ({ cls := "VisitHall$Tape", name := "hasRoom", desc := "()Z" }) prog_10_method_2_code 1 (Option.some FieldType.boolean) ∈ TT := List.mem_filter.mpr ⟨List.mem_of_getElem? (i := 563) (by decide +kernel), by decide +kernel⟩
theorem wd_564 : Cond.constant "VisitHall" 148 (-1000000003) ∈ TT := List.mem_filter.mpr ⟨List.mem_of_getElem? (i := 564) (by decide +kernel), by decide +kernel⟩
theorem wd_565 : Cond.methodLink "VisitHall" 149 ({ cls := "VisitHall$Tape", name := "add", desc := "(I)V" }) ∈ TT := List.mem_filter.mpr ⟨List.mem_of_getElem? (i := 565) (by decide +kernel), by decide +kernel⟩
theorem wd_566 : Cond.instanceMethod ({ cls := "VisitHall$Tape", name := "add", desc := "(I)V" }) ∈ TT := List.mem_filter.mpr ⟨List.mem_of_getElem? (i := 566) (by decide +kernel), by decide +kernel⟩
theorem wd_567 : Cond.selects "VisitHall$Tape" ({ cls := "VisitHall$Tape", name := "add", desc := "(I)V" }) ({ cls := "VisitHall$Tape", name := "add", desc := "(I)V" }) ∈ TT := List.mem_filter.mpr ⟨List.mem_of_getElem? (i := 567) (by decide +kernel), by decide +kernel⟩
theorem wd_568 : Cond.code ({ cls := "VisitHall$Tape", name := "add", desc := "(I)V" }) prog_10_method_3_code 3 (Option.none : Option FieldType) ∈ TT := List.mem_filter.mpr ⟨List.mem_of_getElem? (i := 568) (by decide +kernel), by decide +kernel⟩
theorem wd_569 : Cond.methodLink "VisitHallLaw" 56 ({ cls := "VisitHall", name := "trim", desc := "(I)I" }) ∈ TT := List.mem_filter.mpr ⟨List.mem_of_getElem? (i := 569) (by decide +kernel), by decide +kernel⟩
theorem wd_570 : Cond.instanceMethod ({ cls := "VisitHall", name := "trim", desc := "(I)I" }) ∈ TT := List.mem_filter.mpr ⟨List.mem_of_getElem? (i := 570) (by decide +kernel), by decide +kernel⟩
theorem wd_571 : Cond.selects "VisitHall" ({ cls := "VisitHall", name := "trim", desc := "(I)I" }) ({ cls := "VisitHall", name := "trim", desc := "(I)I" }) ∈ TT := List.mem_filter.mpr ⟨List.mem_of_getElem? (i := 571) (by decide +kernel), by decide +kernel⟩
theorem wd_572 : Cond.code ({ cls := "VisitHall", name := "trim", desc := "(I)I" }) prog_1_method_12_code 2 (Option.some FieldType.int) ∈ TT := List.mem_filter.mpr ⟨List.mem_of_getElem? (i := 572) (by decide +kernel), by decide +kernel⟩
theorem wd_573 : Cond.methodLink "VisitHallLaw" 60 ({ cls := "VisitHall", name := "right", desc := "(I)I" }) ∈ TT := List.mem_filter.mpr ⟨List.mem_of_getElem? (i := 573) (by decide +kernel), by decide +kernel⟩
theorem wd_574 : Cond.instanceMethod ({ cls := "VisitHall", name := "right", desc := "(I)I" }) ∈ TT := List.mem_filter.mpr ⟨List.mem_of_getElem? (i := 574) (by decide +kernel), by decide +kernel⟩
theorem wd_575 : Cond.selects "VisitHall" ({ cls := "VisitHall", name := "right", desc := "(I)I" }) ({ cls := "VisitHall", name := "right", desc := "(I)I" }) ∈ TT := List.mem_filter.mpr ⟨List.mem_of_getElem? (i := 575) (by decide +kernel), by decide +kernel⟩
theorem wd_576 : Cond.code ({ cls := "VisitHall", name := "right", desc := "(I)I" }) prog_1_method_13_code 3 (Option.some FieldType.int) ∈ TT := List.mem_filter.mpr ⟨List.mem_of_getElem? (i := 576) (by decide +kernel), by decide +kernel⟩
theorem wd_577 : Cond.methodLink "VisitHall" 156 ({ cls := "VisitHall$RightReader", name := "read", desc := "()LVisitHall$Right;" }) ∈ TT := List.mem_filter.mpr ⟨List.mem_of_getElem? (i := 577) (by decide +kernel), by decide +kernel⟩
theorem wd_578 : Cond.instanceMethod ({ cls := "VisitHall$RightReader", name := "read", desc := "()LVisitHall$Right;" }) ∈ TT := List.mem_filter.mpr ⟨List.mem_of_getElem? (i := 578) (by decide +kernel), by decide +kernel⟩
theorem wd_579 : Cond.selects "VisitHall$RightReader" ({ cls := "VisitHall$RightReader", name := "read", desc := "()LVisitHall$Right;" }) ({ cls := "VisitHall$RightReader", name := "read", desc := "()LVisitHall$Right;" }) ∈ TT := List.mem_filter.mpr ⟨List.mem_of_getElem? (i := 579) (by decide +kernel), by decide +kernel⟩
theorem wd_580 : Cond.code ({ cls := "VisitHall$RightReader", name := "read", desc := "()LVisitHall$Right;" }) prog_7_method_3_code 2 (Option.some (FieldType.object "VisitHall$Right")) ∈ TT := List.mem_filter.mpr ⟨List.mem_of_getElem? (i := 580) (by decide +kernel), by decide +kernel⟩
theorem wd_581 : Cond.classLink "VisitHall$RightReader" 25 "VisitHall$Right" ∈ TT := List.mem_filter.mpr ⟨List.mem_of_getElem? (i := 581) (by decide +kernel), by decide +kernel⟩
theorem wd_582 : Cond.instantiable "VisitHall$Right" 6 ∈ TT := List.mem_filter.mpr ⟨List.mem_of_getElem? (i := 582) (by decide +kernel), by decide +kernel⟩
theorem wd_583 : Cond.methodLinkNest "VisitHall$RightReader" 27 ({ cls := "VisitHall$Right", name := "<init>", desc := "()V" }) "VisitHall" ∈ TT := List.mem_filter.mpr ⟨List.mem_of_getElem? (i := 583) (by decide +kernel), by decide +kernel⟩
theorem wd_584 : Cond.instanceMethod ({ cls := "VisitHall$Right", name := "<init>", desc := "()V" }) ∈ TT := List.mem_filter.mpr ⟨List.mem_of_getElem? (i := 584) (by decide +kernel), by decide +kernel⟩
theorem wd_585 : Cond.code ({ cls := "VisitHall$Right", name := "<init>", desc := "()V" }) prog_6_method_1_code 1 (Option.none : Option FieldType) ∈ TT := List.mem_filter.mpr ⟨List.mem_of_getElem? (i := 585) (by decide +kernel), by decide +kernel⟩
theorem wd_586 : Cond.methodLink "VisitHall$Right" 3 ({ cls := "java/lang/Object", name := "<init>", desc := "()V" }) ∈ TT := List.mem_filter.mpr ⟨List.mem_of_getElem? (i := 586) (by decide +kernel), by decide +kernel⟩
theorem wd_587 : Cond.constant "VisitHall$Right" 9 (-1000000005) ∈ TT := List.mem_filter.mpr ⟨List.mem_of_getElem? (i := 587) (by decide +kernel), by decide +kernel⟩
theorem wd_588 : Cond.fieldLink "VisitHall$Right" 30 "VisitHall$Right" "visits" "I" ∈ TT := List.mem_filter.mpr ⟨List.mem_of_getElem? (i := 588) (by decide +kernel), by decide +kernel⟩
theorem wd_589 : Cond.fieldLinkNest "VisitHall$RightReader" 32 "VisitHall$Right" "visits" "I" "VisitHall" ∈ TT := List.mem_filter.mpr ⟨List.mem_of_getElem? (i := 589) (by decide +kernel), by decide +kernel⟩
theorem wd_590 : Cond.fieldLinkNest "VisitHall" 166 "VisitHall$Right" "visits" "I" "VisitHall" ∈ TT := List.mem_filter.mpr ⟨List.mem_of_getElem? (i := 590) (by decide +kernel), by decide +kernel⟩
theorem wd_591 : Cond.fieldLinkNest "VisitHall$RightReader" 41 "VisitHall$Right" "span" "I" "VisitHall" ∈ TT := List.mem_filter.mpr ⟨List.mem_of_getElem? (i := 591) (by decide +kernel), by decide +kernel⟩
theorem wd_592 : Cond.fieldLinkNest "VisitHall$Gate" 144 "VisitHall$Right" "span" "I" "VisitHall" ∈ TT := List.mem_filter.mpr ⟨List.mem_of_getElem? (i := 592) (by decide +kernel), by decide +kernel⟩
theorem wd_593 : Cond.fieldLinkNest "VisitHall" 169 "VisitHall$Right" "span" "I" "VisitHall" ∈ TT := List.mem_filter.mpr ⟨List.mem_of_getElem? (i := 593) (by decide +kernel), by decide +kernel⟩
theorem wd_594 : Cond.fieldLink "VisitHall$Right" 10 "VisitHall$Right" "far" "I" ∈ TT := List.mem_filter.mpr ⟨List.mem_of_getElem? (i := 594) (by decide +kernel), by decide +kernel⟩
theorem wd_595 : Cond.fieldLinkNest "VisitHall$RightReader" 71 "VisitHall$Right" "far" "I" "VisitHall" ∈ TT := List.mem_filter.mpr ⟨List.mem_of_getElem? (i := 595) (by decide +kernel), by decide +kernel⟩
theorem wd_596 : Cond.fieldLinkNest "VisitHall$Gate" 137 "VisitHall$Right" "far" "I" "VisitHall" ∈ TT := List.mem_filter.mpr ⟨List.mem_of_getElem? (i := 596) (by decide +kernel), by decide +kernel⟩
theorem wd_597 : Cond.fieldLinkNest "VisitHall" 172 "VisitHall$Right" "far" "I" "VisitHall" ∈ TT := List.mem_filter.mpr ⟨List.mem_of_getElem? (i := 597) (by decide +kernel), by decide +kernel⟩
theorem wd_598 : Cond.fieldLink "VisitHall$Right" 33 "VisitHall$Right" "more" "I" ∈ TT := List.mem_filter.mpr ⟨List.mem_of_getElem? (i := 598) (by decide +kernel), by decide +kernel⟩
theorem wd_599 : Cond.fieldLinkNest "VisitHall$RightReader" 75 "VisitHall$Right" "more" "I" "VisitHall" ∈ TT := List.mem_filter.mpr ⟨List.mem_of_getElem? (i := 599) (by decide +kernel), by decide +kernel⟩
theorem wd_600 : Cond.fieldLinkNest "VisitHall" 175 "VisitHall$Right" "more" "I" "VisitHall" ∈ TT := List.mem_filter.mpr ⟨List.mem_of_getElem? (i := 600) (by decide +kernel), by decide +kernel⟩
theorem wd_601 : Cond.fieldLink "VisitHall$Right" 16 "VisitHall$Right" "longest" "I" ∈ TT := List.mem_filter.mpr ⟨List.mem_of_getElem? (i := 601) (by decide +kernel), by decide +kernel⟩
theorem wd_602 : Cond.fieldLinkNest "VisitHall$RightReader" 80 "VisitHall$Right" "longest" "I" "VisitHall" ∈ TT := List.mem_filter.mpr ⟨List.mem_of_getElem? (i := 602) (by decide +kernel), by decide +kernel⟩
theorem wd_603 : Cond.fieldLinkNest "VisitHall" 178 "VisitHall$Right" "longest" "I" "VisitHall" ∈ TT := List.mem_filter.mpr ⟨List.mem_of_getElem? (i := 603) (by decide +kernel), by decide +kernel⟩
theorem wd_604 : Cond.fieldLink "VisitHall$Right" 19 "VisitHall$Right" "closed" "I" ∈ TT := List.mem_filter.mpr ⟨List.mem_of_getElem? (i := 604) (by decide +kernel), by decide +kernel⟩
theorem wd_605 : Cond.fieldLinkNest "VisitHall$RightReader" 85 "VisitHall$Right" "closed" "I" "VisitHall" ∈ TT := List.mem_filter.mpr ⟨List.mem_of_getElem? (i := 605) (by decide +kernel), by decide +kernel⟩
theorem wd_606 : Cond.fieldLinkNest "VisitHall" 181 "VisitHall$Right" "closed" "I" "VisitHall" ∈ TT := List.mem_filter.mpr ⟨List.mem_of_getElem? (i := 606) (by decide +kernel), by decide +kernel⟩
theorem wd_620 : Cond.methodLink "VisitHall$RightReader" 28 ({ cls := "VisitHall$RightReader", name := "nextNumber", desc := "(II)I" }) ∈ TT := List.mem_filter.mpr ⟨List.mem_of_getElem? (i := 620) (by decide +kernel), by decide +kernel⟩
theorem wd_622 : Cond.instanceMethod ({ cls := "VisitHall$RightReader", name := "nextNumber", desc := "(II)I" }) ∈ TT := List.mem_filter.mpr ⟨List.mem_of_getElem? (i := 622) (by decide +kernel), by decide +kernel⟩
theorem wd_623 : Cond.code ({ cls := "VisitHall$RightReader", name := "nextNumber", desc := "(II)I" }) prog_7_method_11_code 4 (Option.some FieldType.int) ∈ TT := List.mem_filter.mpr ⟨List.mem_of_getElem? (i := 623) (by decide +kernel), by decide +kernel⟩
theorem wd_624 : Cond.methodLink "VisitHall$RightReader" 44 ({ cls := "VisitHall$RightReader", name := "next", desc := "()V" }) ∈ TT := List.mem_filter.mpr ⟨List.mem_of_getElem? (i := 624) (by decide +kernel), by decide +kernel⟩
theorem wd_626 : Cond.instanceMethod ({ cls := "VisitHall$RightReader", name := "next", desc := "()V" }) ∈ TT := List.mem_filter.mpr ⟨List.mem_of_getElem? (i := 626) (by decide +kernel), by decide +kernel⟩
theorem wd_627 : Cond.code ({ cls := "VisitHall$RightReader", name := "next", desc := "()V" }) prog_7_method_8_code 1 (Option.none : Option FieldType) ∈ TT := List.mem_filter.mpr ⟨List.mem_of_getElem? (i := 627) (by decide +kernel), by decide +kernel⟩
theorem wd_628 : Cond.methodLink "VisitHall$RightReader" 90 ({ cls := "VisitHall$RightReader", name := "hasFault", desc := "()Z" }) ∈ TT := List.mem_filter.mpr ⟨List.mem_of_getElem? (i := 628) (by decide +kernel), by decide +kernel⟩
theorem wd_629 : Cond.instanceMethod ({ cls := "VisitHall$RightReader", name := "hasFault", desc := "()Z" }) ∈ TT := List.mem_filter.mpr ⟨List.mem_of_getElem? (i := 629) (by decide +kernel), by decide +kernel⟩
theorem wd_630 : Cond.selects "VisitHall$RightReader" ({ cls := "VisitHall$RightReader", name := "hasFault", desc := "()Z" }) ({ cls := "VisitHall$RightReader", name := "hasFault", desc := "()Z" }) ∈ TT := List.mem_filter.mpr ⟨List.mem_of_getElem? (i := 630) (by decide +kernel), by decide +kernel⟩
theorem wd_631 : Cond.code ({ cls := "VisitHall$RightReader", name := "hasFault", desc := "()Z" }) prog_7_method_2_code 1 (Option.some FieldType.boolean) ∈ TT := List.mem_filter.mpr ⟨List.mem_of_getElem? (i := 631) (by decide +kernel), by decide +kernel⟩
theorem wd_632 : Cond.methodLink "VisitHall$RightReader" 108 ({ cls := "VisitHall$RightReader", name := "wordAsNumber", desc := "()I" }) ∈ TT := List.mem_filter.mpr ⟨List.mem_of_getElem? (i := 632) (by decide +kernel), by decide +kernel⟩
theorem wd_634 : Cond.instanceMethod ({ cls := "VisitHall$RightReader", name := "wordAsNumber", desc := "()I" }) ∈ TT := List.mem_filter.mpr ⟨List.mem_of_getElem? (i := 634) (by decide +kernel), by decide +kernel⟩
theorem wd_635 : Cond.code ({ cls := "VisitHall$RightReader", name := "wordAsNumber", desc := "()I" }) prog_7_method_12_code 4 (Option.some FieldType.int) ∈ TT := List.mem_filter.mpr ⟨List.mem_of_getElem? (i := 635) (by decide +kernel), by decide +kernel⟩
theorem wd_636 : Cond.methodLinkNest "VisitHall$RightReader" 111 ({ cls := "VisitHall", name := "isBelow", desc := "(II)Z" }) "VisitHall" ∈ TT := List.mem_filter.mpr ⟨List.mem_of_getElem? (i := 636) (by decide +kernel), by decide +kernel⟩
theorem wd_637 : Cond.methodLink "VisitHall$RightReader" 115 ({ cls := "java/lang/Math", name := "min", desc := "(II)I" }) ∈ TT := List.mem_filter.mpr ⟨List.mem_of_getElem? (i := 637) (by decide +kernel), by decide +kernel⟩
theorem wd_638 : Cond.static ({ cls := "java/lang/Math", name := "min", desc := "(II)I" }) ∈ TT := List.mem_filter.mpr ⟨List.mem_of_getElem? (i := 638) (by decide +kernel), by decide +kernel⟩
theorem wd_639 : Cond.code ({ cls := "java/lang/Math", name := "min", desc := "(II)I" }) prog_15_method_69_code 2 (Option.some FieldType.int) ∈ TT := List.mem_filter.mpr ⟨List.mem_of_getElem? (i := 639) (by decide +kernel), by decide +kernel⟩
theorem wd_640 : Cond.methodLink "VisitHall$RightReader" 62 ({ cls := "VisitHall$RightReader", name := "refuse", desc := "()V" }) ∈ TT := List.mem_filter.mpr ⟨List.mem_of_getElem? (i := 640) (by decide +kernel), by decide +kernel⟩
theorem wd_642 : Cond.instanceMethod ({ cls := "VisitHall$RightReader", name := "refuse", desc := "()V" }) ∈ TT := List.mem_filter.mpr ⟨List.mem_of_getElem? (i := 642) (by decide +kernel), by decide +kernel⟩
theorem wd_643 : Cond.code ({ cls := "VisitHall$RightReader", name := "refuse", desc := "()V" }) prog_7_method_7_code 1 (Option.none : Option FieldType) ∈ TT := List.mem_filter.mpr ⟨List.mem_of_getElem? (i := 643) (by decide +kernel), by decide +kernel⟩
theorem wd_645 : Cond.methodLink "VisitHall$RightReader" 37 ({ cls := "VisitHall$RightReader", name := "nextMustBe", desc := "(Ljava/lang/String;)V" }) ∈ TT := List.mem_filter.mpr ⟨List.mem_of_getElem? (i := 645) (by decide +kernel), by decide +kernel⟩
theorem wd_647 : Cond.instanceMethod ({ cls := "VisitHall$RightReader", name := "nextMustBe", desc := "(Ljava/lang/String;)V" }) ∈ TT := List.mem_filter.mpr ⟨List.mem_of_getElem? (i := 647) (by decide +kernel), by decide +kernel⟩
theorem wd_648 : Cond.code ({ cls := "VisitHall$RightReader", name := "nextMustBe", desc := "(Ljava/lang/String;)V" }) prog_7_method_10_code 2 (Option.none : Option FieldType) ∈ TT := List.mem_filter.mpr ⟨List.mem_of_getElem? (i := 648) (by decide +kernel), by decide +kernel⟩
theorem wd_649 : Cond.methodLink "VisitHall$RightReader" 67 ({ cls := "VisitHall$RightReader", name := "isWord", desc := "(Ljava/lang/String;)Z" }) ∈ TT := List.mem_filter.mpr ⟨List.mem_of_getElem? (i := 649) (by decide +kernel), by decide +kernel⟩
theorem wd_651 : Cond.instanceMethod ({ cls := "VisitHall$RightReader", name := "isWord", desc := "(Ljava/lang/String;)Z" }) ∈ TT := List.mem_filter.mpr ⟨List.mem_of_getElem? (i := 651) (by decide +kernel), by decide +kernel⟩
theorem wd_652 : Cond.code ({ cls := "VisitHall$RightReader", name := "isWord", desc := "(Ljava/lang/String;)Z" }) prog_7_method_9_code 3 (Option.some FieldType.boolean) ∈ TT := List.mem_filter.mpr ⟨List.mem_of_getElem? (i := 652) (by decide +kernel), by decide +kernel⟩
theorem wd_653 : Cond.methodLink "VisitHall$RightReader" 98 ({ cls := "java/lang/String", name := "length", desc := "()I" }) ∈ TT := List.mem_filter.mpr ⟨List.mem_of_getElem? (i := 653) (by decide +kernel), by decide +kernel⟩
theorem wd_654 : Cond.instanceMethod ({ cls := "java/lang/String", name := "length", desc := "()I" }) ∈ TT := List.mem_filter.mpr ⟨List.mem_of_getElem? (i := 654) (by decide +kernel), by decide +kernel⟩
theorem wd_655 : Cond.selects "java/lang/String" ({ cls := "java/lang/String", name := "length", desc := "()I" }) ({ cls := "java/lang/String", name := "length", desc := "()I" }) ∈ TT := List.mem_filter.mpr ⟨List.mem_of_getElem? (i := 655) (by decide +kernel), by decide +kernel⟩
theorem wd_656 : Cond.code ({ cls := "java/lang/String", name := "length", desc := "()I" }) prog_16_method_54_code 1 (Option.some FieldType.int) ∈ TT := List.mem_filter.mpr ⟨List.mem_of_getElem? (i := 656) (by decide +kernel), by decide +kernel⟩
theorem wd_657 : Cond.methodLink "java/lang/String" 335 ({ cls := "java/lang/String", name := "coder", desc := "()B" }) ∈ TT := List.mem_filter.mpr ⟨List.mem_of_getElem? (i := 657) (by decide +kernel), by decide +kernel⟩
theorem wd_658 : Cond.instanceMethod ({ cls := "java/lang/String", name := "coder", desc := "()B" }) ∈ TT := List.mem_filter.mpr ⟨List.mem_of_getElem? (i := 658) (by decide +kernel), by decide +kernel⟩
theorem wd_659 : Cond.selects "java/lang/String" ({ cls := "java/lang/String", name := "coder", desc := "()B" }) ({ cls := "java/lang/String", name := "coder", desc := "()B" }) ∈ TT := List.mem_filter.mpr ⟨List.mem_of_getElem? (i := 659) (by decide +kernel), by decide +kernel⟩
theorem wd_660 : Cond.code ({ cls := "java/lang/String", name := "coder", desc := "()B" }) prog_16_method_152_code 1 (Option.some FieldType.byte) ∈ TT := List.mem_filter.mpr ⟨List.mem_of_getElem? (i := 660) (by decide +kernel), by decide +kernel⟩
theorem wd_661 : Cond.fieldLink "java/lang/String" 38 "java/lang/String" "COMPACT_STRINGS" "Z" ∈ TT := List.mem_filter.mpr ⟨List.mem_of_getElem? (i := 661) (by decide +kernel), by decide +kernel⟩
theorem wd_663 : Cond.methodLink "VisitHall$RightReader" 104 ({ cls := "java/lang/String", name := "charAt", desc := "(I)C" }) ∈ TT := List.mem_filter.mpr ⟨List.mem_of_getElem? (i := 663) (by decide +kernel), by decide +kernel⟩
theorem wd_664 : Cond.instanceMethod ({ cls := "java/lang/String", name := "charAt", desc := "(I)C" }) ∈ TT := List.mem_filter.mpr ⟨List.mem_of_getElem? (i := 664) (by decide +kernel), by decide +kernel⟩
theorem wd_665 : Cond.selects "java/lang/String" ({ cls := "java/lang/String", name := "charAt", desc := "(I)C" }) ({ cls := "java/lang/String", name := "charAt", desc := "(I)C" }) ∈ TT := List.mem_filter.mpr ⟨List.mem_of_getElem? (i := 665) (by decide +kernel), by decide +kernel⟩
theorem wd_666 : Cond.code ({ cls := "java/lang/String", name := "charAt", desc := "(I)C" }) prog_16_method_56_code 2 (Option.some FieldType.char) ∈ TT := List.mem_filter.mpr ⟨List.mem_of_getElem? (i := 666) (by decide +kernel), by decide +kernel⟩
theorem wd_667 : Cond.methodLink "java/lang/String" 492 ({ cls := "java/lang/String", name := "isLatin1", desc := "()Z" }) ∈ TT := List.mem_filter.mpr ⟨List.mem_of_getElem? (i := 667) (by decide +kernel), by decide +kernel⟩
theorem wd_668 : Cond.instanceMethod ({ cls := "java/lang/String", name := "isLatin1", desc := "()Z" }) ∈ TT := List.mem_filter.mpr ⟨List.mem_of_getElem? (i := 668) (by decide +kernel), by decide +kernel⟩
theorem wd_669 : Cond.selects "java/lang/String" ({ cls := "java/lang/String", name := "isLatin1", desc := "()Z" }) ({ cls := "java/lang/String", name := "isLatin1", desc := "()Z" }) ∈ TT := List.mem_filter.mpr ⟨List.mem_of_getElem? (i := 669) (by decide +kernel), by decide +kernel⟩
theorem wd_670 : Cond.code ({ cls := "java/lang/String", name := "isLatin1", desc := "()Z" }) prog_16_method_154_code 1 (Option.some FieldType.boolean) ∈ TT := List.mem_filter.mpr ⟨List.mem_of_getElem? (i := 670) (by decide +kernel), by decide +kernel⟩
theorem wd_671 : Cond.methodLink "java/lang/String" 495 ({ cls := "java/lang/StringLatin1", name := "charAt", desc := "([BI)C" }) ∈ TT := List.mem_filter.mpr ⟨List.mem_of_getElem? (i := 671) (by decide +kernel), by decide +kernel⟩
theorem wd_672 : Cond.static ({ cls := "java/lang/StringLatin1", name := "charAt", desc := "([BI)C" }) ∈ TT := List.mem_filter.mpr ⟨List.mem_of_getElem? (i := 672) (by decide +kernel), by decide +kernel⟩
theorem wd_673 : Cond.code ({ cls := "java/lang/StringLatin1", name := "charAt", desc := "([BI)C" }) prog_17_method_2_code 2 (Option.some FieldType.char) ∈ TT := List.mem_filter.mpr ⟨List.mem_of_getElem? (i := 673) (by decide +kernel), by decide +kernel⟩
theorem wd_674 : Cond.methodLink "java/lang/StringLatin1" 9 ({ cls := "java/lang/String", name := "checkIndex", desc := "(II)V" }) ∈ TT := List.mem_filter.mpr ⟨List.mem_of_getElem? (i := 674) (by decide +kernel), by decide +kernel⟩
theorem wd_675 : Cond.static ({ cls := "java/lang/String", name := "checkIndex", desc := "(II)V" }) ∈ TT := List.mem_filter.mpr ⟨List.mem_of_getElem? (i := 675) (by decide +kernel), by decide +kernel⟩
theorem wd_676 : Cond.code ({ cls := "java/lang/String", name := "checkIndex", desc := "(II)V" }) prog_16_method_155_code 2 (Option.none : Option FieldType) ∈ TT := List.mem_filter.mpr ⟨List.mem_of_getElem? (i := 676) (by decide +kernel), by decide +kernel⟩
theorem wd_677 : Cond.fieldLink "java/lang/String" 1053 "jdk/internal/util/Preconditions" "SIOOBE_FORMATTER" "Ljava/util/function/BiFunction;" ∈ TT := List.mem_filter.mpr ⟨List.mem_of_getElem? (i := 677) (by decide +kernel), by decide +kernel⟩
theorem wd_679 : Cond.methodLink "java/lang/String" 1059 ({ cls := "jdk/internal/util/Preconditions", name := "checkIndex", desc := "(IILjava/util/function/BiFunction;)I" }) ∈ TT := List.mem_filter.mpr ⟨List.mem_of_getElem? (i := 679) (by decide +kernel), by decide +kernel⟩
theorem wd_680 : Cond.static ({ cls := "jdk/internal/util/Preconditions", name := "checkIndex", desc := "(IILjava/util/function/BiFunction;)I" }) ∈ TT := List.mem_filter.mpr ⟨List.mem_of_getElem? (i := 680) (by decide +kernel), by decide +kernel⟩
theorem wd_681 : Cond.code ({ cls := "jdk/internal/util/Preconditions", name := "checkIndex", desc := "(IILjava/util/function/BiFunction;)I" }) prog_21_method_11_code 3 (Option.some FieldType.int) ∈ TT := List.mem_filter.mpr ⟨List.mem_of_getElem? (i := 681) (by decide +kernel), by decide +kernel⟩
theorem wd_682 : Cond.methodLink "java/lang/String" 498 ({ cls := "java/lang/StringUTF16", name := "charAt", desc := "([BI)C" }) ∈ TT := List.mem_filter.mpr ⟨List.mem_of_getElem? (i := 682) (by decide +kernel), by decide +kernel⟩
theorem wd_683 : Cond.static ({ cls := "java/lang/StringUTF16", name := "charAt", desc := "([BI)C" }) ∈ TT := List.mem_filter.mpr ⟨List.mem_of_getElem? (i := 683) (by decide +kernel), by decide +kernel⟩
theorem wd_684 : Cond.code ({ cls := "java/lang/StringUTF16", name := "charAt", desc := "([BI)C" }) prog_18_method_83_code 2 (Option.some FieldType.char) ∈ TT := List.mem_filter.mpr ⟨List.mem_of_getElem? (i := 684) (by decide +kernel), by decide +kernel⟩
theorem wd_685 : Cond.methodLink "java/lang/StringUTF16" 67 ({ cls := "java/lang/StringUTF16", name := "checkIndex", desc := "(I[B)V" }) ∈ TT := List.mem_filter.mpr ⟨List.mem_of_getElem? (i := 685) (by decide +kernel), by decide +kernel⟩
theorem wd_686 : Cond.static ({ cls := "java/lang/StringUTF16", name := "checkIndex", desc := "(I[B)V" }) ∈ TT := List.mem_filter.mpr ⟨List.mem_of_getElem? (i := 686) (by decide +kernel), by decide +kernel⟩
theorem wd_687 : Cond.code ({ cls := "java/lang/StringUTF16", name := "checkIndex", desc := "(I[B)V" }) prog_18_method_91_code 2 (Option.none : Option FieldType) ∈ TT := List.mem_filter.mpr ⟨List.mem_of_getElem? (i := 687) (by decide +kernel), by decide +kernel⟩
theorem wd_688 : Cond.methodLink "java/lang/StringUTF16" 48 ({ cls := "java/lang/StringUTF16", name := "length", desc := "([B)I" }) ∈ TT := List.mem_filter.mpr ⟨List.mem_of_getElem? (i := 688) (by decide +kernel), by decide +kernel⟩
theorem wd_689 : Cond.static ({ cls := "java/lang/StringUTF16", name := "length", desc := "([B)I" }) ∈ TT := List.mem_filter.mpr ⟨List.mem_of_getElem? (i := 689) (by decide +kernel), by decide +kernel⟩
theorem wd_690 : Cond.code ({ cls := "java/lang/StringUTF16", name := "length", desc := "([B)I" }) prog_18_method_6_code 1 (Option.some FieldType.int) ∈ TT := List.mem_filter.mpr ⟨List.mem_of_getElem? (i := 690) (by decide +kernel), by decide +kernel⟩
theorem wd_691 : Cond.methodLink "java/lang/StringUTF16" 414 ({ cls := "java/lang/String", name := "checkIndex", desc := "(II)V" }) ∈ TT := List.mem_filter.mpr ⟨List.mem_of_getElem? (i := 691) (by decide +kernel), by decide +kernel⟩
theorem wd_692 : Cond.methodLink "java/lang/StringUTF16" 71 ({ cls := "java/lang/StringUTF16", name := "getChar", desc := "([BI)C" }) ∈ TT := List.mem_filter.mpr ⟨List.mem_of_getElem? (i := 692) (by decide +kernel), by decide +kernel⟩
theorem wd_693 : Cond.static ({ cls := "java/lang/StringUTF16", name := "getChar", desc := "([BI)C" }) ∈ TT := List.mem_filter.mpr ⟨List.mem_of_getElem? (i := 693) (by decide +kernel), by decide +kernel⟩
theorem wd_694 : Cond.code ({ cls := "java/lang/StringUTF16", name := "getChar", desc := "([BI)C" }) prog_18_method_5_code 2 (Option.some FieldType.char) ∈ TT := List.mem_filter.mpr ⟨List.mem_of_getElem? (i := 694) (by decide +kernel), by decide +kernel⟩
theorem wd_695 : Cond.fieldLink "java/lang/StringUTF16" 44 "java/lang/StringUTF16" "$assertionsDisabled" "Z" ∈ TT := List.mem_filter.mpr ⟨List.mem_of_getElem? (i := 695) (by decide +kernel), by decide +kernel⟩
theorem wd_697 : Cond.fieldLink "java/lang/StringUTF16" 59 "java/lang/StringUTF16" "HI_BYTE_SHIFT" "I" ∈ TT := List.mem_filter.mpr ⟨List.mem_of_getElem? (i := 697) (by decide +kernel), by decide +kernel⟩
theorem wd_699 : Cond.fieldLink "java/lang/StringUTF16" 63 "java/lang/StringUTF16" "LO_BYTE_SHIFT" "I" ∈ TT := List.mem_filter.mpr ⟨List.mem_of_getElem? (i := 699) (by decide +kernel), by decide +kernel⟩
theorem wd_701 : Cond.methodLink "VisitHall$RightReader" 47 ({ cls := "VisitHall$RightReader", name := "readFar", desc := "(LVisitHall$Right;)V" }) ∈ TT := List.mem_filter.mpr ⟨List.mem_of_getElem? (i := 701) (by decide +kernel), by decide +kernel⟩
theorem wd_703 : Cond.instanceMethod ({ cls := "VisitHall$RightReader", name := "readFar", desc := "(LVisitHall$Right;)V" }) ∈ TT := List.mem_filter.mpr ⟨List.mem_of_getElem? (i := 703) (by decide +kernel), by decide +kernel⟩
theorem wd_704 : Cond.code ({ cls := "VisitHall$RightReader", name := "readFar", desc := "(LVisitHall$Right;)V" }) prog_7_method_4_code 2 (Option.none : Option FieldType) ∈ TT := List.mem_filter.mpr ⟨List.mem_of_getElem? (i := 704) (by decide +kernel), by decide +kernel⟩
theorem wd_707 : Cond.methodLink "VisitHall$RightReader" 51 ({ cls := "VisitHall$RightReader", name := "readLong", desc := "(LVisitHall$Right;)V" }) ∈ TT := List.mem_filter.mpr ⟨List.mem_of_getElem? (i := 707) (by decide +kernel), by decide +kernel⟩
theorem wd_709 : Cond.instanceMethod ({ cls := "VisitHall$RightReader", name := "readLong", desc := "(LVisitHall$Right;)V" }) ∈ TT := List.mem_filter.mpr ⟨List.mem_of_getElem? (i := 709) (by decide +kernel), by decide +kernel⟩
theorem wd_710 : Cond.code ({ cls := "VisitHall$RightReader", name := "readLong", desc := "(LVisitHall$Right;)V" }) prog_7_method_5_code 2 (Option.none : Option FieldType) ∈ TT := List.mem_filter.mpr ⟨List.mem_of_getElem? (i := 710) (by decide +kernel), by decide +kernel⟩
theorem wd_712 : Cond.methodLink "VisitHall$RightReader" 54 ({ cls := "VisitHall$RightReader", name := "readNot", desc := "(LVisitHall$Right;)V" }) ∈ TT := List.mem_filter.mpr ⟨List.mem_of_getElem? (i := 712) (by decide +kernel), by decide +kernel⟩
theorem wd_714 : Cond.instanceMethod ({ cls := "VisitHall$RightReader", name := "readNot", desc := "(LVisitHall$Right;)V" }) ∈ TT := List.mem_filter.mpr ⟨List.mem_of_getElem? (i := 714) (by decide +kernel), by decide +kernel⟩
theorem wd_715 : Cond.code ({ cls := "VisitHall$RightReader", name := "readNot", desc := "(LVisitHall$Right;)V" }) prog_7_method_6_code 5 (Option.none : Option FieldType) ∈ TT := List.mem_filter.mpr ⟨List.mem_of_getElem? (i := 715) (by decide +kernel), by decide +kernel⟩
theorem wd_718 : Cond.methodLink "VisitHall" 160 ({ cls := "VisitHall$RightReader", name := "hasFault", desc := "()Z" }) ∈ TT := List.mem_filter.mpr ⟨List.mem_of_getElem? (i := 718) (by decide +kernel), by decide +kernel⟩
theorem wd_719 : Cond.methodLink "VisitHallLaw" 64 ({ cls := "VisitHall", name := "of", desc := "(II)I" }) ∈ TT := List.mem_filter.mpr ⟨List.mem_of_getElem? (i := 719) (by decide +kernel), by decide +kernel⟩
theorem wd_720 : Cond.instanceMethod ({ cls := "VisitHall", name := "of", desc := "(II)I" }) ∈ TT := List.mem_filter.mpr ⟨List.mem_of_getElem? (i := 720) (by decide +kernel), by decide +kernel⟩
theorem wd_721 : Cond.selects "VisitHall" ({ cls := "VisitHall", name := "of", desc := "(II)I" }) ({ cls := "VisitHall", name := "of", desc := "(II)I" }) ∈ TT := List.mem_filter.mpr ⟨List.mem_of_getElem? (i := 721) (by decide +kernel), by decide +kernel⟩
theorem wd_722 : Cond.code ({ cls := "VisitHall", name := "of", desc := "(II)I" }) prog_1_method_14_code 4 (Option.some FieldType.int) ∈ TT := List.mem_filter.mpr ⟨List.mem_of_getElem? (i := 722) (by decide +kernel), by decide +kernel⟩
theorem wd_723 : Cond.methodLink "VisitHallLaw" 68 ({ cls := "VisitHall", name := "ask", desc := "(IIIII)I" }) ∈ TT := List.mem_filter.mpr ⟨List.mem_of_getElem? (i := 723) (by decide +kernel), by decide +kernel⟩
theorem wd_724 : Cond.instanceMethod ({ cls := "VisitHall", name := "ask", desc := "(IIIII)I" }) ∈ TT := List.mem_filter.mpr ⟨List.mem_of_getElem? (i := 724) (by decide +kernel), by decide +kernel⟩
theorem wd_725 : Cond.selects "VisitHall" ({ cls := "VisitHall", name := "ask", desc := "(IIIII)I" }) ({ cls := "VisitHall", name := "ask", desc := "(IIIII)I" }) ∈ TT := List.mem_filter.mpr ⟨List.mem_of_getElem? (i := 725) (by decide +kernel), by decide +kernel⟩
theorem wd_726 : Cond.code ({ cls := "VisitHall", name := "ask", desc := "(IIIII)I" }) prog_1_method_15_code 8 (Option.some FieldType.int) ∈ TT := List.mem_filter.mpr ⟨List.mem_of_getElem? (i := 726) (by decide +kernel), by decide +kernel⟩
theorem wd_727 : Cond.methodLink "VisitHall" 184 ({ cls := "VisitHall", name := "canBeAsked", desc := "(IIII)Z" }) ∈ TT := List.mem_filter.mpr ⟨List.mem_of_getElem? (i := 727) (by decide +kernel), by decide +kernel⟩
theorem wd_729 : Cond.instanceMethod ({ cls := "VisitHall", name := "canBeAsked", desc := "(IIII)Z" }) ∈ TT := List.mem_filter.mpr ⟨List.mem_of_getElem? (i := 729) (by decide +kernel), by decide +kernel⟩
theorem wd_730 : Cond.code ({ cls := "VisitHall", name := "canBeAsked", desc := "(IIII)Z" }) prog_1_method_30_code 5 (Option.some FieldType.boolean) ∈ TT := List.mem_filter.mpr ⟨List.mem_of_getElem? (i := 730) (by decide +kernel), by decide +kernel⟩
theorem wd_731 : Cond.methodLink "VisitHall" 312 ({ cls := "VisitHall$People", name := "isParty", desc := "(I)Z" }) ∈ TT := List.mem_filter.mpr ⟨List.mem_of_getElem? (i := 731) (by decide +kernel), by decide +kernel⟩
theorem wd_732 : Cond.instanceMethod ({ cls := "VisitHall$People", name := "isParty", desc := "(I)Z" }) ∈ TT := List.mem_filter.mpr ⟨List.mem_of_getElem? (i := 732) (by decide +kernel), by decide +kernel⟩
theorem wd_733 : Cond.selects "VisitHall$People" ({ cls := "VisitHall$People", name := "isParty", desc := "(I)Z" }) ({ cls := "VisitHall$People", name := "isParty", desc := "(I)Z" }) ∈ TT := List.mem_filter.mpr ⟨List.mem_of_getElem? (i := 733) (by decide +kernel), by decide +kernel⟩
theorem wd_734 : Cond.code ({ cls := "VisitHall$People", name := "isParty", desc := "(I)Z" }) prog_4_method_7_code 3 (Option.some FieldType.boolean) ∈ TT := List.mem_filter.mpr ⟨List.mem_of_getElem? (i := 734) (by decide +kernel), by decide +kernel⟩
theorem wd_735 : Cond.methodLink "VisitHall$People" 42 ({ cls := "java/lang/Integer", name := "bitCount", desc := "(I)I" }) ∈ TT := List.mem_filter.mpr ⟨List.mem_of_getElem? (i := 735) (by decide +kernel), by decide +kernel⟩
theorem wd_736 : Cond.static ({ cls := "java/lang/Integer", name := "bitCount", desc := "(I)I" }) ∈ TT := List.mem_filter.mpr ⟨List.mem_of_getElem? (i := 736) (by decide +kernel), by decide +kernel⟩
theorem wd_737 : Cond.code ({ cls := "java/lang/Integer", name := "bitCount", desc := "(I)I" }) prog_14_method_49_code 1 (Option.some FieldType.int) ∈ TT := List.mem_filter.mpr ⟨List.mem_of_getElem? (i := 737) (by decide +kernel), by decide +kernel⟩
theorem wd_738 : Cond.constant "java/lang/Integer" 265 1431655765 ∈ TT := List.mem_filter.mpr ⟨List.mem_of_getElem? (i := 738) (by decide +kernel), by decide +kernel⟩
theorem wd_739 : Cond.constant "java/lang/Integer" 266 858993459 ∈ TT := List.mem_filter.mpr ⟨List.mem_of_getElem? (i := 739) (by decide +kernel), by decide +kernel⟩
theorem wd_740 : Cond.constant "java/lang/Integer" 267 252645135 ∈ TT := List.mem_filter.mpr ⟨List.mem_of_getElem? (i := 740) (by decide +kernel), by decide +kernel⟩
theorem wd_741 : Cond.methodLink "VisitHall" 315 ({ cls := "VisitHall", name := "areHalves", desc := "(I)Z" }) ∈ TT := List.mem_filter.mpr ⟨List.mem_of_getElem? (i := 741) (by decide +kernel), by decide +kernel⟩
theorem wd_742 : Cond.static ({ cls := "VisitHall", name := "areHalves", desc := "(I)Z" }) ∈ TT := List.mem_filter.mpr ⟨List.mem_of_getElem? (i := 742) (by decide +kernel), by decide +kernel⟩
theorem wd_743 : Cond.code ({ cls := "VisitHall", name := "areHalves", desc := "(I)Z" }) prog_1_method_31_code 3 (Option.some FieldType.boolean) ∈ TT := List.mem_filter.mpr ⟨List.mem_of_getElem? (i := 743) (by decide +kernel), by decide +kernel⟩
theorem wd_744 : Cond.methodLink "VisitHall" 188 ({ cls := "VisitHall$Book", name := "isFull", desc := "()Z" }) ∈ TT := List.mem_filter.mpr ⟨List.mem_of_getElem? (i := 744) (by decide +kernel), by decide +kernel⟩
theorem wd_745 : Cond.instanceMethod ({ cls := "VisitHall$Book", name := "isFull", desc := "()Z" }) ∈ TT := List.mem_filter.mpr ⟨List.mem_of_getElem? (i := 745) (by decide +kernel), by decide +kernel⟩
theorem wd_746 : Cond.selects "VisitHall$Book" ({ cls := "VisitHall$Book", name := "isFull", desc := "()Z" }) ({ cls := "VisitHall$Book", name := "isFull", desc := "()Z" }) ∈ TT := List.mem_filter.mpr ⟨List.mem_of_getElem? (i := 746) (by decide +kernel), by decide +kernel⟩
theorem wd_747 : Cond.code ({ cls := "VisitHall$Book", name := "isFull", desc := "()Z" }) prog_2_method_2_code 1 (Option.some FieldType.boolean) ∈ TT := List.mem_filter.mpr ⟨List.mem_of_getElem? (i := 747) (by decide +kernel), by decide +kernel⟩
theorem wd_748 : Cond.methodLink "VisitHall" 191 ({ cls := "VisitHall$People", name := "areLawyers", desc := "(I)Z" }) ∈ TT := List.mem_filter.mpr ⟨List.mem_of_getElem? (i := 748) (by decide +kernel), by decide +kernel⟩
theorem wd_749 : Cond.instanceMethod ({ cls := "VisitHall$People", name := "areLawyers", desc := "(I)Z" }) ∈ TT := List.mem_filter.mpr ⟨List.mem_of_getElem? (i := 749) (by decide +kernel), by decide +kernel⟩
theorem wd_750 : Cond.selects "VisitHall$People" ({ cls := "VisitHall$People", name := "areLawyers", desc := "(I)Z" }) ({ cls := "VisitHall$People", name := "areLawyers", desc := "(I)Z" }) ∈ TT := List.mem_filter.mpr ⟨List.mem_of_getElem? (i := 750) (by decide +kernel), by decide +kernel⟩
theorem wd_751 : Cond.code ({ cls := "VisitHall$People", name := "areLawyers", desc := "(I)Z" }) prog_4_method_8_code 2 (Option.some FieldType.boolean) ∈ TT := List.mem_filter.mpr ⟨List.mem_of_getElem? (i := 751) (by decide +kernel), by decide +kernel⟩
theorem wd_752 : Cond.methodLink "VisitHall" 194 ({ cls := "VisitHall$Visit", name := "fill", desc := "(IIIIZ)V" }) ∈ TT := List.mem_filter.mpr ⟨List.mem_of_getElem? (i := 752) (by decide +kernel), by decide +kernel⟩
theorem wd_753 : Cond.instanceMethod ({ cls := "VisitHall$Visit", name := "fill", desc := "(IIIIZ)V" }) ∈ TT := List.mem_filter.mpr ⟨List.mem_of_getElem? (i := 753) (by decide +kernel), by decide +kernel⟩
theorem wd_754 : Cond.selects "VisitHall$Visit" ({ cls := "VisitHall$Visit", name := "fill", desc := "(IIIIZ)V" }) ({ cls := "VisitHall$Visit", name := "fill", desc := "(IIIIZ)V" }) ∈ TT := List.mem_filter.mpr ⟨List.mem_of_getElem? (i := 754) (by decide +kernel), by decide +kernel⟩
theorem wd_755 : Cond.code ({ cls := "VisitHall$Visit", name := "fill", desc := "(IIIIZ)V" }) prog_11_method_2_code 6 (Option.none : Option FieldType) ∈ TT := List.mem_filter.mpr ⟨List.mem_of_getElem? (i := 755) (by decide +kernel), by decide +kernel⟩
theorem wd_756 : Cond.methodLink "VisitHall" 198 ({ cls := "VisitHall$Gate", name := "reason", desc := "(LVisitHall$Visit;)I" }) ∈ TT := List.mem_filter.mpr ⟨List.mem_of_getElem? (i := 756) (by decide +kernel), by decide +kernel⟩
theorem wd_757 : Cond.methodLink "VisitHall" 202 ({ cls := "VisitHall$Gate", name := "admit", desc := "(LVisitHall$Visit;)V" }) ∈ TT := List.mem_filter.mpr ⟨List.mem_of_getElem? (i := 757) (by decide +kernel), by decide +kernel⟩
theorem wd_758 : Cond.methodLink "VisitHall" 209 ({ cls := "VisitHall$Book", name := "enter", desc := "(LVisitHall$Visit;)I" }) ∈ TT := List.mem_filter.mpr ⟨List.mem_of_getElem? (i := 758) (by decide +kernel), by decide +kernel⟩
theorem wd_759 : Cond.instanceMethod ({ cls := "VisitHall$Book", name := "enter", desc := "(LVisitHall$Visit;)I" }) ∈ TT := List.mem_filter.mpr ⟨List.mem_of_getElem? (i := 759) (by decide +kernel), by decide +kernel⟩
theorem wd_760 : Cond.selects "VisitHall$Book" ({ cls := "VisitHall$Book", name := "enter", desc := "(LVisitHall$Visit;)I" }) ({ cls := "VisitHall$Book", name := "enter", desc := "(LVisitHall$Visit;)I" }) ∈ TT := List.mem_filter.mpr ⟨List.mem_of_getElem? (i := 760) (by decide +kernel), by decide +kernel⟩
theorem wd_761 : Cond.code ({ cls := "VisitHall$Book", name := "enter", desc := "(LVisitHall$Visit;)I" }) prog_2_method_3_code 2 (Option.some FieldType.int) ∈ TT := List.mem_filter.mpr ⟨List.mem_of_getElem? (i := 761) (by decide +kernel), by decide +kernel⟩
theorem wd_762 : Cond.methodLink "VisitHall$Book" 21 ({ cls := "VisitHall$Book", name := "isFull", desc := "()Z" }) ∈ TT := List.mem_filter.mpr ⟨List.mem_of_getElem? (i := 762) (by decide +kernel), by decide +kernel⟩
theorem wd_763 : Cond.constant "VisitHall$Book" 25 (-1000000003) ∈ TT := List.mem_filter.mpr ⟨List.mem_of_getElem? (i := 763) (by decide +kernel), by decide +kernel⟩
theorem wd_764 : Cond.methodLink "VisitHallLaw" 73 ({ cls := "VisitHall", name := "why", desc := "(IIII)I" }) ∈ TT := List.mem_filter.mpr ⟨List.mem_of_getElem? (i := 764) (by decide +kernel), by decide +kernel⟩
theorem wd_765 : Cond.instanceMethod ({ cls := "VisitHall", name := "why", desc := "(IIII)I" }) ∈ TT := List.mem_filter.mpr ⟨List.mem_of_getElem? (i := 765) (by decide +kernel), by decide +kernel⟩
theorem wd_766 : Cond.selects "VisitHall" ({ cls := "VisitHall", name := "why", desc := "(IIII)I" }) ({ cls := "VisitHall", name := "why", desc := "(IIII)I" }) ∈ TT := List.mem_filter.mpr ⟨List.mem_of_getElem? (i := 766) (by decide +kernel), by decide +kernel⟩
theorem wd_767 : Cond.code ({ cls := "VisitHall", name := "why", desc := "(IIII)I" }) prog_1_method_16_code 5 (Option.some FieldType.int) ∈ TT := List.mem_filter.mpr ⟨List.mem_of_getElem? (i := 767) (by decide +kernel), by decide +kernel⟩
theorem wd_768 : Cond.methodLink "VisitHallLaw" 78 ({ cls := "VisitHall", name := "giveBack", desc := "(I)I" }) ∈ TT := List.mem_filter.mpr ⟨List.mem_of_getElem? (i := 768) (by decide +kernel), by decide +kernel⟩
theorem wd_769 : Cond.instanceMethod ({ cls := "VisitHall", name := "giveBack", desc := "(I)I" }) ∈ TT := List.mem_filter.mpr ⟨List.mem_of_getElem? (i := 769) (by decide +kernel), by decide +kernel⟩
theorem wd_770 : Cond.selects "VisitHall" ({ cls := "VisitHall", name := "giveBack", desc := "(I)I" }) ({ cls := "VisitHall", name := "giveBack", desc := "(I)I" }) ∈ TT := List.mem_filter.mpr ⟨List.mem_of_getElem? (i := 770) (by decide +kernel), by decide +kernel⟩
theorem wd_771 : Cond.code ({ cls := "VisitHall", name := "giveBack", desc := "(I)I" }) prog_1_method_17_code 3 (Option.some FieldType.int) ∈ TT := List.mem_filter.mpr ⟨List.mem_of_getElem? (i := 771) (by decide +kernel), by decide +kernel⟩
theorem wd_772 : Cond.methodLink "VisitHall" 212 ({ cls := "VisitHall$Book", name := "at", desc := "(I)LVisitHall$Visit;" }) ∈ TT := List.mem_filter.mpr ⟨List.mem_of_getElem? (i := 772) (by decide +kernel), by decide +kernel⟩
theorem wd_773 : Cond.instanceMethod ({ cls := "VisitHall$Book", name := "at", desc := "(I)LVisitHall$Visit;" }) ∈ TT := List.mem_filter.mpr ⟨List.mem_of_getElem? (i := 773) (by decide +kernel), by decide +kernel⟩
theorem wd_774 : Cond.selects "VisitHall$Book" ({ cls := "VisitHall$Book", name := "at", desc := "(I)LVisitHall$Visit;" }) ({ cls := "VisitHall$Book", name := "at", desc := "(I)LVisitHall$Visit;" }) ∈ TT := List.mem_filter.mpr ⟨List.mem_of_getElem? (i := 774) (by decide +kernel), by decide +kernel⟩
theorem wd_775 : Cond.code ({ cls := "VisitHall$Book", name := "at", desc := "(I)LVisitHall$Visit;" }) prog_2_method_4_code 2 (Option.some (FieldType.object "VisitHall$Visit")) ∈ TT := List.mem_filter.mpr ⟨List.mem_of_getElem? (i := 775) (by decide +kernel), by decide +kernel⟩
theorem wd_776 : Cond.methodLinkNest "VisitHall$Book" 26 ({ cls := "VisitHall", name := "isBelow", desc := "(II)Z" }) "VisitHall" ∈ TT := List.mem_filter.mpr ⟨List.mem_of_getElem? (i := 776) (by decide +kernel), by decide +kernel⟩
theorem wd_777 : Cond.methodLink "VisitHallLaw" 82 ({ cls := "VisitHall", name := "visit", desc := "(II)I" }) ∈ TT := List.mem_filter.mpr ⟨List.mem_of_getElem? (i := 777) (by decide +kernel), by decide +kernel⟩
theorem wd_778 : Cond.instanceMethod ({ cls := "VisitHall", name := "visit", desc := "(II)I" }) ∈ TT := List.mem_filter.mpr ⟨List.mem_of_getElem? (i := 778) (by decide +kernel), by decide +kernel⟩
theorem wd_779 : Cond.selects "VisitHall" ({ cls := "VisitHall", name := "visit", desc := "(II)I" }) ({ cls := "VisitHall", name := "visit", desc := "(II)I" }) ∈ TT := List.mem_filter.mpr ⟨List.mem_of_getElem? (i := 779) (by decide +kernel), by decide +kernel⟩
theorem wd_780 : Cond.code ({ cls := "VisitHall", name := "visit", desc := "(II)I" }) prog_1_method_18_code 4 (Option.some FieldType.int) ∈ TT := List.mem_filter.mpr ⟨List.mem_of_getElem? (i := 780) (by decide +kernel), by decide +kernel⟩
theorem wd_781 : Cond.methodLink "VisitHallLaw" 86 ({ cls := "VisitHall", name := "rule", desc := "(II)I" }) ∈ TT := List.mem_filter.mpr ⟨List.mem_of_getElem? (i := 781) (by decide +kernel), by decide +kernel⟩
theorem wd_782 : Cond.instanceMethod ({ cls := "VisitHall", name := "rule", desc := "(II)I" }) ∈ TT := List.mem_filter.mpr ⟨List.mem_of_getElem? (i := 782) (by decide +kernel), by decide +kernel⟩
theorem wd_783 : Cond.selects "VisitHall" ({ cls := "VisitHall", name := "rule", desc := "(II)I" }) ({ cls := "VisitHall", name := "rule", desc := "(II)I" }) ∈ TT := List.mem_filter.mpr ⟨List.mem_of_getElem? (i := 783) (by decide +kernel), by decide +kernel⟩
theorem wd_784 : Cond.code ({ cls := "VisitHall", name := "rule", desc := "(II)I" }) prog_1_method_19_code 4 (Option.some FieldType.int) ∈ TT := List.mem_filter.mpr ⟨List.mem_of_getElem? (i := 784) (by decide +kernel), by decide +kernel⟩
theorem wd_785 : Cond.methodLink "VisitHall" 237 ({ cls := "VisitHall", name := "mayRule", desc := "(II)Z" }) ∈ TT := List.mem_filter.mpr ⟨List.mem_of_getElem? (i := 785) (by decide +kernel), by decide +kernel⟩
theorem wd_786 : Cond.static ({ cls := "VisitHall", name := "mayRule", desc := "(II)Z" }) ∈ TT := List.mem_filter.mpr ⟨List.mem_of_getElem? (i := 786) (by decide +kernel), by decide +kernel⟩
theorem wd_787 : Cond.code ({ cls := "VisitHall", name := "mayRule", desc := "(II)Z" }) prog_1_method_32_code 2 (Option.some FieldType.boolean) ∈ TT := List.mem_filter.mpr ⟨List.mem_of_getElem? (i := 787) (by decide +kernel), by decide +kernel⟩
theorem wd_788 : Cond.methodLink "VisitHallLaw" 90 ({ cls := "VisitHall", name := "days", desc := "(I)I" }) ∈ TT := List.mem_filter.mpr ⟨List.mem_of_getElem? (i := 788) (by decide +kernel), by decide +kernel⟩
theorem wd_789 : Cond.instanceMethod ({ cls := "VisitHall", name := "days", desc := "(I)I" }) ∈ TT := List.mem_filter.mpr ⟨List.mem_of_getElem? (i := 789) (by decide +kernel), by decide +kernel⟩
theorem wd_790 : Cond.selects "VisitHall" ({ cls := "VisitHall", name := "days", desc := "(I)I" }) ({ cls := "VisitHall", name := "days", desc := "(I)I" }) ∈ TT := List.mem_filter.mpr ⟨List.mem_of_getElem? (i := 790) (by decide +kernel), by decide +kernel⟩
theorem wd_791 : Cond.code ({ cls := "VisitHall", name := "days", desc := "(I)I" }) prog_1_method_20_code 2 (Option.some FieldType.int) ∈ TT := List.mem_filter.mpr ⟨List.mem_of_getElem? (i := 791) (by decide +kernel), by decide +kernel⟩
theorem wd_792 : Cond.methodLink "VisitHallLaw" 94 ({ cls := "VisitHall", name := "hall", desc := "(III)I" }) ∈ TT := List.mem_filter.mpr ⟨List.mem_of_getElem? (i := 792) (by decide +kernel), by decide +kernel⟩
theorem wd_793 : Cond.instanceMethod ({ cls := "VisitHall", name := "hall", desc := "(III)I" }) ∈ TT := List.mem_filter.mpr ⟨List.mem_of_getElem? (i := 793) (by decide +kernel), by decide +kernel⟩
theorem wd_794 : Cond.selects "VisitHall" ({ cls := "VisitHall", name := "hall", desc := "(III)I" }) ({ cls := "VisitHall", name := "hall", desc := "(III)I" }) ∈ TT := List.mem_filter.mpr ⟨List.mem_of_getElem? (i := 794) (by decide +kernel), by decide +kernel⟩
theorem wd_795 : Cond.code ({ cls := "VisitHall", name := "hall", desc := "(III)I" }) prog_1_method_21_code 5 (Option.some FieldType.int) ∈ TT := List.mem_filter.mpr ⟨List.mem_of_getElem? (i := 795) (by decide +kernel), by decide +kernel⟩
theorem wd_796 : Cond.methodLink "VisitHall" 249 ({ cls := "VisitHall$Book", name := "letAt", desc := "(II)I" }) ∈ TT := List.mem_filter.mpr ⟨List.mem_of_getElem? (i := 796) (by decide +kernel), by decide +kernel⟩
theorem wd_797 : Cond.methodLink "VisitHall" 252 ({ cls := "VisitHall$Gate", name := "tablesOn", desc := "(I)I" }) ∈ TT := List.mem_filter.mpr ⟨List.mem_of_getElem? (i := 797) (by decide +kernel), by decide +kernel⟩
theorem wd_798 : Cond.methodLink "VisitHall" 255 ({ cls := "java/lang/Math", name := "max", desc := "(II)I" }) ∈ TT := List.mem_filter.mpr ⟨List.mem_of_getElem? (i := 798) (by decide +kernel), by decide +kernel⟩
theorem wd_799 : Cond.methodLink "VisitHallLaw" 98 ({ cls := "VisitHall", name := "comes", desc := "(II)I" }) ∈ TT := List.mem_filter.mpr ⟨List.mem_of_getElem? (i := 799) (by decide +kernel), by decide +kernel⟩
theorem wd_800 : Cond.instanceMethod ({ cls := "VisitHall", name := "comes", desc := "(II)I" }) ∈ TT := List.mem_filter.mpr ⟨List.mem_of_getElem? (i := 800) (by decide +kernel), by decide +kernel⟩
theorem wd_801 : Cond.selects "VisitHall" ({ cls := "VisitHall", name := "comes", desc := "(II)I" }) ({ cls := "VisitHall", name := "comes", desc := "(II)I" }) ∈ TT := List.mem_filter.mpr ⟨List.mem_of_getElem? (i := 801) (by decide +kernel), by decide +kernel⟩
theorem wd_802 : Cond.code ({ cls := "VisitHall", name := "comes", desc := "(II)I" }) prog_1_method_22_code 3 (Option.some FieldType.int) ∈ TT := List.mem_filter.mpr ⟨List.mem_of_getElem? (i := 802) (by decide +kernel), by decide +kernel⟩
theorem wd_803 : Cond.methodLink "VisitHall" 260 ({ cls := "VisitHall$Searches", name := "draw", desc := "(LVisitHall$Book;LVisitHall$People;I)V" }) ∈ TT := List.mem_filter.mpr ⟨List.mem_of_getElem? (i := 803) (by decide +kernel), by decide +kernel⟩
theorem wd_804 : Cond.instanceMethod ({ cls := "VisitHall$Searches", name := "draw", desc := "(LVisitHall$Book;LVisitHall$People;I)V" }) ∈ TT := List.mem_filter.mpr ⟨List.mem_of_getElem? (i := 804) (by decide +kernel), by decide +kernel⟩
theorem wd_805 : Cond.selects "VisitHall$Searches" ({ cls := "VisitHall$Searches", name := "draw", desc := "(LVisitHall$Book;LVisitHall$People;I)V" }) ({ cls := "VisitHall$Searches", name := "draw", desc := "(LVisitHall$Book;LVisitHall$People;I)V" }) ∈ TT := List.mem_filter.mpr ⟨List.mem_of_getElem? (i := 805) (by decide +kernel), by decide +kernel⟩
theorem wd_806 : Cond.code ({ cls := "VisitHall$Searches", name := "draw", desc := "(LVisitHall$Book;LVisitHall$People;I)V" }) prog_8_method_2_code 10 (Option.none : Option FieldType) ∈ TT := List.mem_filter.mpr ⟨List.mem_of_getElem? (i := 806) (by decide +kernel), by decide +kernel⟩
theorem wd_807 : Cond.constant "VisitHall$Searches" 21 16777216 ∈ TT := List.mem_filter.mpr ⟨List.mem_of_getElem? (i := 807) (by decide +kernel), by decide +kernel⟩
theorem wd_808 : Cond.constant "VisitHall$Searches" 47 1664525 ∈ TT := List.mem_filter.mpr ⟨List.mem_of_getElem? (i := 808) (by decide +kernel), by decide +kernel⟩
theorem wd_809 : Cond.constant "VisitHall$Searches" 48 1013904223 ∈ TT := List.mem_filter.mpr ⟨List.mem_of_getElem? (i := 809) (by decide +kernel), by decide +kernel⟩
theorem wd_810 : Cond.methodLink "VisitHall$Searches" 49 ({ cls := "VisitHall$People", name := "isChild", desc := "(I)Z" }) ∈ TT := List.mem_filter.mpr ⟨List.mem_of_getElem? (i := 810) (by decide +kernel), by decide +kernel⟩
theorem wd_811 : Cond.instanceMethod ({ cls := "VisitHall$People", name := "isChild", desc := "(I)Z" }) ∈ TT := List.mem_filter.mpr ⟨List.mem_of_getElem? (i := 811) (by decide +kernel), by decide +kernel⟩
theorem wd_812 : Cond.selects "VisitHall$People" ({ cls := "VisitHall$People", name := "isChild", desc := "(I)Z" }) ({ cls := "VisitHall$People", name := "isChild", desc := "(I)Z" }) ∈ TT := List.mem_filter.mpr ⟨List.mem_of_getElem? (i := 812) (by decide +kernel), by decide +kernel⟩
theorem wd_813 : Cond.code ({ cls := "VisitHall$People", name := "isChild", desc := "(I)Z" }) prog_4_method_11_code 2 (Option.some FieldType.boolean) ∈ TT := List.mem_filter.mpr ⟨List.mem_of_getElem? (i := 813) (by decide +kernel), by decide +kernel⟩
theorem wd_814 : Cond.methodLink "VisitHallLaw" 102 ({ cls := "VisitHall", name := "sheet", desc := "(II)I" }) ∈ TT := List.mem_filter.mpr ⟨List.mem_of_getElem? (i := 814) (by decide +kernel), by decide +kernel⟩
theorem wd_815 : Cond.instanceMethod ({ cls := "VisitHall", name := "sheet", desc := "(II)I" }) ∈ TT := List.mem_filter.mpr ⟨List.mem_of_getElem? (i := 815) (by decide +kernel), by decide +kernel⟩
theorem wd_816 : Cond.selects "VisitHall" ({ cls := "VisitHall", name := "sheet", desc := "(II)I" }) ({ cls := "VisitHall", name := "sheet", desc := "(II)I" }) ∈ TT := List.mem_filter.mpr ⟨List.mem_of_getElem? (i := 816) (by decide +kernel), by decide +kernel⟩
theorem wd_817 : Cond.code ({ cls := "VisitHall", name := "sheet", desc := "(II)I" }) prog_1_method_23_code 3 (Option.some FieldType.int) ∈ TT := List.mem_filter.mpr ⟨List.mem_of_getElem? (i := 817) (by decide +kernel), by decide +kernel⟩
theorem wd_818 : Cond.constant "VisitHall" 270 (-1000000014) ∈ TT := List.mem_filter.mpr ⟨List.mem_of_getElem? (i := 818) (by decide +kernel), by decide +kernel⟩
theorem wd_819 : Cond.methodLink "VisitHall" 271 ({ cls := "VisitHall$Sheet", name := "clear", desc := "(I)V" }) ∈ TT := List.mem_filter.mpr ⟨List.mem_of_getElem? (i := 819) (by decide +kernel), by decide +kernel⟩
theorem wd_820 : Cond.instanceMethod ({ cls := "VisitHall$Sheet", name := "clear", desc := "(I)V" }) ∈ TT := List.mem_filter.mpr ⟨List.mem_of_getElem? (i := 820) (by decide +kernel), by decide +kernel⟩
theorem wd_821 : Cond.selects "VisitHall$Sheet" ({ cls := "VisitHall$Sheet", name := "clear", desc := "(I)V" }) ({ cls := "VisitHall$Sheet", name := "clear", desc := "(I)V" }) ∈ TT := List.mem_filter.mpr ⟨List.mem_of_getElem? (i := 821) (by decide +kernel), by decide +kernel⟩
theorem wd_822 : Cond.code ({ cls := "VisitHall$Sheet", name := "clear", desc := "(I)V" }) prog_9_method_3_code 2 (Option.none : Option FieldType) ∈ TT := List.mem_filter.mpr ⟨List.mem_of_getElem? (i := 822) (by decide +kernel), by decide +kernel⟩
theorem wd_823 : Cond.methodLink "VisitHall$Sheet" 17 ({ cls := "java/util/Arrays", name := "fill", desc := "([BB)V" }) ∈ TT := List.mem_filter.mpr ⟨List.mem_of_getElem? (i := 823) (by decide +kernel), by decide +kernel⟩
theorem wd_824 : Cond.static ({ cls := "java/util/Arrays", name := "fill", desc := "([BB)V" }) ∈ TT := List.mem_filter.mpr ⟨List.mem_of_getElem? (i := 824) (by decide +kernel), by decide +kernel⟩
theorem wd_825 : Cond.code ({ cls := "java/util/Arrays", name := "fill", desc := "([BB)V" }) prog_20_method_109_code 4 (Option.none : Option FieldType) ∈ TT := List.mem_filter.mpr ⟨List.mem_of_getElem? (i := 825) (by decide +kernel), by decide +kernel⟩
theorem wd_826 : Cond.methodLink "VisitHallLaw" 106 ({ cls := "VisitHall", name := "mark", desc := "(III)I" }) ∈ TT := List.mem_filter.mpr ⟨List.mem_of_getElem? (i := 826) (by decide +kernel), by decide +kernel⟩
theorem wd_827 : Cond.instanceMethod ({ cls := "VisitHall", name := "mark", desc := "(III)I" }) ∈ TT := List.mem_filter.mpr ⟨List.mem_of_getElem? (i := 827) (by decide +kernel), by decide +kernel⟩
theorem wd_828 : Cond.selects "VisitHall" ({ cls := "VisitHall", name := "mark", desc := "(III)I" }) ({ cls := "VisitHall", name := "mark", desc := "(III)I" }) ∈ TT := List.mem_filter.mpr ⟨List.mem_of_getElem? (i := 828) (by decide +kernel), by decide +kernel⟩
theorem wd_829 : Cond.code ({ cls := "VisitHall", name := "mark", desc := "(III)I" }) prog_1_method_24_code 6 (Option.some FieldType.int) ∈ TT := List.mem_filter.mpr ⟨List.mem_of_getElem? (i := 829) (by decide +kernel), by decide +kernel⟩
theorem wd_830 : Cond.methodLink "VisitHall" 274 ({ cls := "VisitHall$Sheet", name := "isMissing", desc := "()Z" }) ∈ TT := List.mem_filter.mpr ⟨List.mem_of_getElem? (i := 830) (by decide +kernel), by decide +kernel⟩
theorem wd_831 : Cond.instanceMethod ({ cls := "VisitHall$Sheet", name := "isMissing", desc := "()Z" }) ∈ TT := List.mem_filter.mpr ⟨List.mem_of_getElem? (i := 831) (by decide +kernel), by decide +kernel⟩
theorem wd_832 : Cond.selects "VisitHall$Sheet" ({ cls := "VisitHall$Sheet", name := "isMissing", desc := "()Z" }) ({ cls := "VisitHall$Sheet", name := "isMissing", desc := "()Z" }) ∈ TT := List.mem_filter.mpr ⟨List.mem_of_getElem? (i := 832) (by decide +kernel), by decide +kernel⟩
theorem wd_833 : Cond.code ({ cls := "VisitHall$Sheet", name := "isMissing", desc := "()Z" }) prog_9_method_2_code 1 (Option.some FieldType.boolean) ∈ TT := List.mem_filter.mpr ⟨List.mem_of_getElem? (i := 833) (by decide +kernel), by decide +kernel⟩
theorem wd_834 : Cond.constant "VisitHall" 277 (-1000000011) ∈ TT := List.mem_filter.mpr ⟨List.mem_of_getElem? (i := 834) (by decide +kernel), by decide +kernel⟩
theorem wd_835 : Cond.methodLink "VisitHall" 278 ({ cls := "VisitHall$Sheet", name := "has", desc := "(I)Z" }) ∈ TT := List.mem_filter.mpr ⟨List.mem_of_getElem? (i := 835) (by decide +kernel), by decide +kernel⟩
theorem wd_836 : Cond.constant "VisitHall" 281 (-1000000013) ∈ TT := List.mem_filter.mpr ⟨List.mem_of_getElem? (i := 836) (by decide +kernel), by decide +kernel⟩
theorem wd_837 : Cond.methodLink "VisitHallLaw" 110 ({ cls := "VisitHall", name := "copy", desc := "(IIIII)I" }) ∈ TT := List.mem_filter.mpr ⟨List.mem_of_getElem? (i := 837) (by decide +kernel), by decide +kernel⟩
theorem wd_838 : Cond.instanceMethod ({ cls := "VisitHall", name := "copy", desc := "(IIIII)I" }) ∈ TT := List.mem_filter.mpr ⟨List.mem_of_getElem? (i := 838) (by decide +kernel), by decide +kernel⟩
theorem wd_839 : Cond.selects "VisitHall" ({ cls := "VisitHall", name := "copy", desc := "(IIIII)I" }) ({ cls := "VisitHall", name := "copy", desc := "(IIIII)I" }) ∈ TT := List.mem_filter.mpr ⟨List.mem_of_getElem? (i := 839) (by decide +kernel), by decide +kernel⟩
theorem wd_840 : Cond.code ({ cls := "VisitHall", name := "copy", desc := "(IIIII)I" }) prog_1_method_25_code 8 (Option.some FieldType.int) ∈ TT := List.mem_filter.mpr ⟨List.mem_of_getElem? (i := 840) (by decide +kernel), by decide +kernel⟩
theorem wd_841 : Cond.methodLink "VisitHall" 286 ({ cls := "VisitHall$Sheet", name := "hasRun", desc := "(II)Z" }) ∈ TT := List.mem_filter.mpr ⟨List.mem_of_getElem? (i := 841) (by decide +kernel), by decide +kernel⟩
theorem wd_842 : Cond.instanceMethod ({ cls := "VisitHall$Sheet", name := "hasRun", desc := "(II)Z" }) ∈ TT := List.mem_filter.mpr ⟨List.mem_of_getElem? (i := 842) (by decide +kernel), by decide +kernel⟩
theorem wd_843 : Cond.selects "VisitHall$Sheet" ({ cls := "VisitHall$Sheet", name := "hasRun", desc := "(II)Z" }) ({ cls := "VisitHall$Sheet", name := "hasRun", desc := "(II)Z" }) ∈ TT := List.mem_filter.mpr ⟨List.mem_of_getElem? (i := 843) (by decide +kernel), by decide +kernel⟩
theorem wd_844 : Cond.code ({ cls := "VisitHall$Sheet", name := "hasRun", desc := "(II)Z" }) prog_9_method_5_code 3 (Option.some FieldType.boolean) ∈ TT := List.mem_filter.mpr ⟨List.mem_of_getElem? (i := 844) (by decide +kernel), by decide +kernel⟩
theorem wd_845 : Cond.methodLink "VisitHall" 289 ({ cls := "java/lang/System", name := "arraycopy", desc := "(Ljava/lang/Object;ILjava/lang/Object;II)V" }) ∈ TT := List.mem_filter.mpr ⟨List.mem_of_getElem? (i := 845) (by decide +kernel), by decide +kernel⟩
theorem wd_846 : Cond.static ({ cls := "java/lang/System", name := "arraycopy", desc := "(Ljava/lang/Object;ILjava/lang/Object;II)V" }) ∈ TT := List.mem_filter.mpr ⟨List.mem_of_getElem? (i := 846) (by decide +kernel), by decide +kernel⟩
theorem wd_848 : Cond.methodLink "VisitHallLaw" 114 ({ cls := "VisitHall", name := "lose", desc := "(I)I" }) ∈ TT := List.mem_filter.mpr ⟨List.mem_of_getElem? (i := 848) (by decide +kernel), by decide +kernel⟩
theorem wd_849 : Cond.instanceMethod ({ cls := "VisitHall", name := "lose", desc := "(I)I" }) ∈ TT := List.mem_filter.mpr ⟨List.mem_of_getElem? (i := 849) (by decide +kernel), by decide +kernel⟩
theorem wd_850 : Cond.selects "VisitHall" ({ cls := "VisitHall", name := "lose", desc := "(I)I" }) ({ cls := "VisitHall", name := "lose", desc := "(I)I" }) ∈ TT := List.mem_filter.mpr ⟨List.mem_of_getElem? (i := 850) (by decide +kernel), by decide +kernel⟩
theorem wd_851 : Cond.code ({ cls := "VisitHall", name := "lose", desc := "(I)I" }) prog_1_method_26_code 4 (Option.some FieldType.int) ∈ TT := List.mem_filter.mpr ⟨List.mem_of_getElem? (i := 851) (by decide +kernel), by decide +kernel⟩
theorem wd_852 : Cond.methodLink "VisitHallLaw" 118 ({ cls := "VisitHall", name := "count", desc := "(I)I" }) ∈ TT := List.mem_filter.mpr ⟨List.mem_of_getElem? (i := 852) (by decide +kernel), by decide +kernel⟩
theorem wd_853 : Cond.instanceMethod ({ cls := "VisitHall", name := "count", desc := "(I)I" }) ∈ TT := List.mem_filter.mpr ⟨List.mem_of_getElem? (i := 853) (by decide +kernel), by decide +kernel⟩
theorem wd_854 : Cond.selects "VisitHall" ({ cls := "VisitHall", name := "count", desc := "(I)I" }) ({ cls := "VisitHall", name := "count", desc := "(I)I" }) ∈ TT := List.mem_filter.mpr ⟨List.mem_of_getElem? (i := 854) (by decide +kernel), by decide +kernel⟩
theorem wd_855 : Cond.code ({ cls := "VisitHall", name := "count", desc := "(I)I" }) prog_1_method_27_code 2 (Option.some FieldType.int) ∈ TT := List.mem_filter.mpr ⟨List.mem_of_getElem? (i := 855) (by decide +kernel), by decide +kernel⟩
theorem wd_856 : Cond.methodLink "VisitHall" 296 ({ cls := "VisitHall$People", name := "prisonersHere", desc := "()I" }) ∈ TT := List.mem_filter.mpr ⟨List.mem_of_getElem? (i := 856) (by decide +kernel), by decide +kernel⟩
theorem wd_857 : Cond.instanceMethod ({ cls := "VisitHall$People", name := "prisonersHere", desc := "()I" }) ∈ TT := List.mem_filter.mpr ⟨List.mem_of_getElem? (i := 857) (by decide +kernel), by decide +kernel⟩
theorem wd_858 : Cond.selects "VisitHall$People" ({ cls := "VisitHall$People", name := "prisonersHere", desc := "()I" }) ({ cls := "VisitHall$People", name := "prisonersHere", desc := "()I" }) ∈ TT := List.mem_filter.mpr ⟨List.mem_of_getElem? (i := 858) (by decide +kernel), by decide +kernel⟩
theorem wd_859 : Cond.code ({ cls := "VisitHall$People", name := "prisonersHere", desc := "()I" }) prog_4_method_16_code 3 (Option.some FieldType.int) ∈ TT := List.mem_filter.mpr ⟨List.mem_of_getElem? (i := 859) (by decide +kernel), by decide +kernel⟩
theorem wd_860 : Cond.methodLink "VisitHall" 303 ({ cls := "VisitHall$Book", name := "inState", desc := "(I)I" }) ∈ TT := List.mem_filter.mpr ⟨List.mem_of_getElem? (i := 860) (by decide +kernel), by decide +kernel⟩
theorem wd_861 : Cond.instanceMethod ({ cls := "VisitHall$Book", name := "inState", desc := "(I)I" }) ∈ TT := List.mem_filter.mpr ⟨List.mem_of_getElem? (i := 861) (by decide +kernel), by decide +kernel⟩
theorem wd_862 : Cond.selects "VisitHall$Book" ({ cls := "VisitHall$Book", name := "inState", desc := "(I)I" }) ({ cls := "VisitHall$Book", name := "inState", desc := "(I)I" }) ∈ TT := List.mem_filter.mpr ⟨List.mem_of_getElem? (i := 862) (by decide +kernel), by decide +kernel⟩
theorem wd_863 : Cond.code ({ cls := "VisitHall$Book", name := "inState", desc := "(I)I" }) prog_2_method_5_code 4 (Option.some FieldType.int) ∈ TT := List.mem_filter.mpr ⟨List.mem_of_getElem? (i := 863) (by decide +kernel), by decide +kernel⟩
theorem wd_864 : Cond.methodLink "VisitHall" 306 ({ cls := "VisitHall$People", name := "orderCount", desc := "()I" }) ∈ TT := List.mem_filter.mpr ⟨List.mem_of_getElem? (i := 864) (by decide +kernel), by decide +kernel⟩
theorem wd_865 : Cond.instanceMethod ({ cls := "VisitHall$People", name := "orderCount", desc := "()I" }) ∈ TT := List.mem_filter.mpr ⟨List.mem_of_getElem? (i := 865) (by decide +kernel), by decide +kernel⟩
theorem wd_866 : Cond.selects "VisitHall$People" ({ cls := "VisitHall$People", name := "orderCount", desc := "()I" }) ({ cls := "VisitHall$People", name := "orderCount", desc := "()I" }) ∈ TT := List.mem_filter.mpr ⟨List.mem_of_getElem? (i := 866) (by decide +kernel), by decide +kernel⟩
theorem wd_867 : Cond.code ({ cls := "VisitHall$People", name := "orderCount", desc := "()I" }) prog_4_method_17_code 3 (Option.some FieldType.int) ∈ TT := List.mem_filter.mpr ⟨List.mem_of_getElem? (i := 867) (by decide +kernel), by decide +kernel⟩
theorem wd_868 : Cond.methodLink "VisitHall$People" 59 ({ cls := "VisitHall$Prisoner", name := "orderCount", desc := "()I" }) ∈ TT := List.mem_filter.mpr ⟨List.mem_of_getElem? (i := 868) (by decide +kernel), by decide +kernel⟩
theorem wd_869 : Cond.instanceMethod ({ cls := "VisitHall$Prisoner", name := "orderCount", desc := "()I" }) ∈ TT := List.mem_filter.mpr ⟨List.mem_of_getElem? (i := 869) (by decide +kernel), by decide +kernel⟩
theorem wd_870 : Cond.selects "VisitHall$Prisoner" ({ cls := "VisitHall$Prisoner", name := "orderCount", desc := "()I" }) ({ cls := "VisitHall$Prisoner", name := "orderCount", desc := "()I" }) ∈ TT := List.mem_filter.mpr ⟨List.mem_of_getElem? (i := 870) (by decide +kernel), by decide +kernel⟩
theorem wd_871 : Cond.code ({ cls := "VisitHall$Prisoner", name := "orderCount", desc := "()I" }) prog_5_method_5_code 3 (Option.some FieldType.int) ∈ TT := List.mem_filter.mpr ⟨List.mem_of_getElem? (i := 871) (by decide +kernel), by decide +kernel⟩
theorem wd_872 : Cond.methodLink "VisitHall" 309 ({ cls := "VisitHall$People", name := "rivalPairs", desc := "()I" }) ∈ TT := List.mem_filter.mpr ⟨List.mem_of_getElem? (i := 872) (by decide +kernel), by decide +kernel⟩
theorem wd_873 : Cond.instanceMethod ({ cls := "VisitHall$People", name := "rivalPairs", desc := "()I" }) ∈ TT := List.mem_filter.mpr ⟨List.mem_of_getElem? (i := 873) (by decide +kernel), by decide +kernel⟩
theorem wd_874 : Cond.selects "VisitHall$People" ({ cls := "VisitHall$People", name := "rivalPairs", desc := "()I" }) ({ cls := "VisitHall$People", name := "rivalPairs", desc := "()I" }) ∈ TT := List.mem_filter.mpr ⟨List.mem_of_getElem? (i := 874) (by decide +kernel), by decide +kernel⟩
theorem wd_875 : Cond.code ({ cls := "VisitHall$People", name := "rivalPairs", desc := "()I" }) prog_4_method_15_code 3 (Option.some FieldType.int) ∈ TT := List.mem_filter.mpr ⟨List.mem_of_getElem? (i := 875) (by decide +kernel), by decide +kernel⟩
theorem wd_876 : Cond.classLink "VisitHallLaw" 10 "VisitHallModel" ∈ TT := List.mem_filter.mpr ⟨List.mem_of_getElem? (i := 876) (by decide +kernel), by decide +kernel⟩
theorem wd_877 : Cond.instantiable "VisitHallModel" 44 ∈ TT := List.mem_filter.mpr ⟨List.mem_of_getElem? (i := 877) (by decide +kernel), by decide +kernel⟩
theorem wd_878 : Cond.methodLink "VisitHallLaw" 12 ({ cls := "VisitHallModel", name := "<init>", desc := "()V" }) ∈ TT := List.mem_filter.mpr ⟨List.mem_of_getElem? (i := 878) (by decide +kernel), by decide +kernel⟩
theorem wd_879 : Cond.instanceMethod ({ cls := "VisitHallModel", name := "<init>", desc := "()V" }) ∈ TT := List.mem_filter.mpr ⟨List.mem_of_getElem? (i := 879) (by decide +kernel), by decide +kernel⟩
theorem wd_880 : Cond.code ({ cls := "VisitHallModel", name := "<init>", desc := "()V" }) prog_13_method_1_code 2 (Option.none : Option FieldType) ∈ TT := List.mem_filter.mpr ⟨List.mem_of_getElem? (i := 880) (by decide +kernel), by decide +kernel⟩
theorem wd_881 : Cond.methodLink "VisitHallModel" 1 ({ cls := "java/lang/Object", name := "<init>", desc := "()V" }) ∈ TT := List.mem_filter.mpr ⟨List.mem_of_getElem? (i := 881) (by decide +kernel), by decide +kernel⟩
theorem wd_882 : Cond.fieldLink "VisitHallModel" 125 "VisitHallModel" "today" "I" ∈ TT := List.mem_filter.mpr ⟨List.mem_of_getElem? (i := 882) (by decide +kernel), by decide +kernel⟩
theorem wd_883 : Cond.fieldLink "VisitHallModel" 99 "VisitHallModel" "prisoners" "I" ∈ TT := List.mem_filter.mpr ⟨List.mem_of_getElem? (i := 883) (by decide +kernel), by decide +kernel⟩
theorem wd_884 : Cond.fieldLink "VisitHallModel" 7 "VisitHallModel" "pClass" "[I" ∈ TT := List.mem_filter.mpr ⟨List.mem_of_getElem? (i := 884) (by decide +kernel), by decide +kernel⟩
theorem wd_885 : Cond.fieldLink "VisitHallModel" 13 "VisitHallModel" "pFamily" "[I" ∈ TT := List.mem_filter.mpr ⟨List.mem_of_getElem? (i := 885) (by decide +kernel), by decide +kernel⟩
theorem wd_886 : Cond.fieldLink "VisitHallModel" 16 "VisitHallModel" "isHere" "[I" ∈ TT := List.mem_filter.mpr ⟨List.mem_of_getElem? (i := 886) (by decide +kernel), by decide +kernel⟩
theorem wd_887 : Cond.fieldLink "VisitHallModel" 19 "VisitHallModel" "lists" "[I" ∈ TT := List.mem_filter.mpr ⟨List.mem_of_getElem? (i := 887) (by decide +kernel), by decide +kernel⟩
theorem wd_888 : Cond.fieldLink "VisitHallModel" 22 "VisitHallModel" "orders" "[I" ∈ TT := List.mem_filter.mpr ⟨List.mem_of_getElem? (i := 888) (by decide +kernel), by decide +kernel⟩
theorem wd_889 : Cond.fieldLink "VisitHallModel" 106 "VisitHallModel" "visitors" "I" ∈ TT := List.mem_filter.mpr ⟨List.mem_of_getElem? (i := 889) (by decide +kernel), by decide +kernel⟩
theorem wd_890 : Cond.fieldLink "VisitHallModel" 25 "VisitHallModel" "kind" "[I" ∈ TT := List.mem_filter.mpr ⟨List.mem_of_getElem? (i := 890) (by decide +kernel), by decide +kernel⟩
theorem wd_891 : Cond.fieldLink "VisitHallModel" 28 "VisitHallModel" "vFamily" "[I" ∈ TT := List.mem_filter.mpr ⟨List.mem_of_getElem? (i := 891) (by decide +kernel), by decide +kernel⟩
theorem wd_892 : Cond.fieldLink "VisitHallModel" 31 "VisitHallModel" "way" "[I" ∈ TT := List.mem_filter.mpr ⟨List.mem_of_getElem? (i := 892) (by decide +kernel), by decide +kernel⟩
theorem wd_893 : Cond.fieldLink "VisitHallModel" 34 "VisitHallModel" "rivals" "[I" ∈ TT := List.mem_filter.mpr ⟨List.mem_of_getElem? (i := 893) (by decide +kernel), by decide +kernel⟩
theorem wd_894 : Cond.fieldLink "VisitHallModel" 37 "VisitHallModel" "hasText" "[Z" ∈ TT := List.mem_filter.mpr ⟨List.mem_of_getElem? (i := 894) (by decide +kernel), by decide +kernel⟩
theorem wd_895 : Cond.fieldLink "VisitHallModel" 41 "VisitHallModel" "rN" "[I" ∈ TT := List.mem_filter.mpr ⟨List.mem_of_getElem? (i := 895) (by decide +kernel), by decide +kernel⟩
theorem wd_896 : Cond.fieldLink "VisitHallModel" 44 "VisitHallModel" "rM" "[I" ∈ TT := List.mem_filter.mpr ⟨List.mem_of_getElem? (i := 896) (by decide +kernel), by decide +kernel⟩
theorem wd_897 : Cond.fieldLink "VisitHallModel" 47 "VisitHallModel" "rFar" "[I" ∈ TT := List.mem_filter.mpr ⟨List.mem_of_getElem? (i := 897) (by decide +kernel), by decide +kernel⟩
theorem wd_898 : Cond.fieldLink "VisitHallModel" 50 "VisitHallModel" "rMore" "[I" ∈ TT := List.mem_filter.mpr ⟨List.mem_of_getElem? (i := 898) (by decide +kernel), by decide +kernel⟩
theorem wd_899 : Cond.fieldLink "VisitHallModel" 53 "VisitHallModel" "rLong" "[I" ∈ TT := List.mem_filter.mpr ⟨List.mem_of_getElem? (i := 899) (by decide +kernel), by decide +kernel⟩
theorem wd_900 : Cond.fieldLink "VisitHallModel" 56 "VisitHallModel" "rNot" "[I" ∈ TT := List.mem_filter.mpr ⟨List.mem_of_getElem? (i := 900) (by decide +kernel), by decide +kernel⟩
theorem wd_901 : Cond.fieldLink "VisitHallModel" 59 "VisitHallModel" "tape" "[I" ∈ TT := List.mem_filter.mpr ⟨List.mem_of_getElem? (i := 901) (by decide +kernel), by decide +kernel⟩
theorem wd_902 : Cond.fieldLink "VisitHallModel" 133 "VisitHallModel" "taped" "I" ∈ TT := List.mem_filter.mpr ⟨List.mem_of_getElem? (i := 902) (by decide +kernel), by decide +kernel⟩
theorem wd_903 : Cond.fieldLink "VisitHallModel" 118 "VisitHallModel" "visits" "I" ∈ TT := List.mem_filter.mpr ⟨List.mem_of_getElem? (i := 903) (by decide +kernel), by decide +kernel⟩
theorem wd_904 : Cond.fieldLink "VisitHallModel" 62 "VisitHallModel" "vOf" "[I" ∈ TT := List.mem_filter.mpr ⟨List.mem_of_getElem? (i := 904) (by decide +kernel), by decide +kernel⟩
theorem wd_905 : Cond.fieldLink "VisitHallModel" 65 "VisitHallModel" "vSet" "[I" ∈ TT := List.mem_filter.mpr ⟨List.mem_of_getElem? (i := 905) (by decide +kernel), by decide +kernel⟩
theorem wd_906 : Cond.fieldLink "VisitHallModel" 68 "VisitHallModel" "vDay" "[I" ∈ TT := List.mem_filter.mpr ⟨List.mem_of_getElem? (i := 906) (by decide +kernel), by decide +kernel⟩
theorem wd_907 : Cond.fieldLink "VisitHallModel" 71 "VisitHallModel" "vFirst" "[I" ∈ TT := List.mem_filter.mpr ⟨List.mem_of_getElem? (i := 907) (by decide +kernel), by decide +kernel⟩
theorem wd_908 : Cond.fieldLink "VisitHallModel" 74 "VisitHallModel" "vMany" "[I" ∈ TT := List.mem_filter.mpr ⟨List.mem_of_getElem? (i := 908) (by decide +kernel), by decide +kernel⟩
theorem wd_909 : Cond.fieldLink "VisitHallModel" 77 "VisitHallModel" "state" "[I" ∈ TT := List.mem_filter.mpr ⟨List.mem_of_getElem? (i := 909) (by decide +kernel), by decide +kernel⟩
theorem wd_910 : Cond.fieldLink "VisitHallModel" 80 "VisitHallModel" "tables" "I" ∈ TT := List.mem_filter.mpr ⟨List.mem_of_getElem? (i := 910) (by decide +kernel), by decide +kernel⟩
theorem wd_911 : Cond.fieldLink "VisitHallModel" 84 "VisitHallModel" "oneIn" "I" ∈ TT := List.mem_filter.mpr ⟨List.mem_of_getElem? (i := 911) (by decide +kernel), by decide +kernel⟩
theorem wd_912 : Cond.fieldLink "VisitHallModel" 234 "VisitHallModel" "seed" "I" ∈ TT := List.mem_filter.mpr ⟨List.mem_of_getElem? (i := 912) (by decide +kernel), by decide +kernel⟩
theorem wd_913 : Cond.fieldLink "VisitHallModel" 87 "VisitHallModel" "places" "[I" ∈ TT := List.mem_filter.mpr ⟨List.mem_of_getElem? (i := 913) (by decide +kernel), by decide +kernel⟩
theorem wd_914 : Cond.fieldLink "VisitHallModel" 90 "VisitHallModel" "numbers" "[I" ∈ TT := List.mem_filter.mpr ⟨List.mem_of_getElem? (i := 914) (by decide +kernel), by decide +kernel⟩
theorem wd_915 : Cond.fieldLink "VisitHallModel" 140 "VisitHallModel" "read" "I" ∈ TT := List.mem_filter.mpr ⟨List.mem_of_getElem? (i := 915) (by decide +kernel), by decide +kernel⟩
theorem wd_916 : Cond.fieldLink "VisitHallModel" 143 "VisitHallModel" "from" "I" ∈ TT := List.mem_filter.mpr ⟨List.mem_of_getElem? (i := 916) (by decide +kernel), by decide +kernel⟩
theorem wd_917 : Cond.fieldLink "VisitHallModel" 146 "VisitHallModel" "long1" "I" ∈ TT := List.mem_filter.mpr ⟨List.mem_of_getElem? (i := 917) (by decide +kernel), by decide +kernel⟩
theorem wd_918 : Cond.fieldLink "VisitHallModel" 168 "VisitHallModel" "tN" "I" ∈ TT := List.mem_filter.mpr ⟨List.mem_of_getElem? (i := 918) (by decide +kernel), by decide +kernel⟩
theorem wd_919 : Cond.fieldLink "VisitHallModel" 178 "VisitHallModel" "tM" "I" ∈ TT := List.mem_filter.mpr ⟨List.mem_of_getElem? (i := 919) (by decide +kernel), by decide +kernel⟩
theorem wd_920 : Cond.fieldLink "VisitHallModel" 150 "VisitHallModel" "tFar" "I" ∈ TT := List.mem_filter.mpr ⟨List.mem_of_getElem? (i := 920) (by decide +kernel), by decide +kernel⟩
theorem wd_921 : Cond.fieldLink "VisitHallModel" 153 "VisitHallModel" "tMore" "I" ∈ TT := List.mem_filter.mpr ⟨List.mem_of_getElem? (i := 921) (by decide +kernel), by decide +kernel⟩
theorem wd_922 : Cond.fieldLink "VisitHallModel" 156 "VisitHallModel" "tLong" "I" ∈ TT := List.mem_filter.mpr ⟨List.mem_of_getElem? (i := 922) (by decide +kernel), by decide +kernel⟩
theorem wd_923 : Cond.fieldLink "VisitHallModel" 159 "VisitHallModel" "tNot" "I" ∈ TT := List.mem_filter.mpr ⟨List.mem_of_getElem? (i := 923) (by decide +kernel), by decide +kernel⟩
theorem wd_924 : Cond.fieldLink "VisitHallModel" 93 "VisitHallModel" "before" "[I" ∈ TT := List.mem_filter.mpr ⟨List.mem_of_getElem? (i := 924) (by decide +kernel), by decide +kernel⟩
theorem wd_925 : Cond.fieldLink "VisitHallModel" 96 "VisitHallModel" "carried" "[I" ∈ TT := List.mem_filter.mpr ⟨List.mem_of_getElem? (i := 925) (by decide +kernel), by decide +kernel⟩
theorem wd_1015 : Cond.arrayClass FieldType.boolean ∈ TT := List.mem_filter.mpr ⟨List.mem_of_getElem? (i := 1015) (by decide +kernel), by decide +kernel⟩
theorem wd_1016 : Cond.methodLink "VisitHallLaw" 17 ({ cls := "VisitHallModel", name := "prisoner", desc := "(II)I" }) ∈ TT := List.mem_filter.mpr ⟨List.mem_of_getElem? (i := 1016) (by decide +kernel), by decide +kernel⟩
theorem wd_1017 : Cond.instanceMethod ({ cls := "VisitHallModel", name := "prisoner", desc := "(II)I" }) ∈ TT := List.mem_filter.mpr ⟨List.mem_of_getElem? (i := 1017) (by decide +kernel), by decide +kernel⟩
theorem wd_1018 : Cond.selects "VisitHallModel" ({ cls := "VisitHallModel", name := "prisoner", desc := "(II)I" }) ({ cls := "VisitHallModel", name := "prisoner", desc := "(II)I" }) ∈ TT := List.mem_filter.mpr ⟨List.mem_of_getElem? (i := 1018) (by decide +kernel), by decide +kernel⟩
theorem wd_1019 : Cond.code ({ cls := "VisitHallModel", name := "prisoner", desc := "(II)I" }) prog_13_method_6_code 3 (Option.some FieldType.int) ∈ TT := List.mem_filter.mpr ⟨List.mem_of_getElem? (i := 1019) (by decide +kernel), by decide +kernel⟩
theorem wd_1020 : Cond.methodLink "VisitHallModel" 102 ({ cls := "VisitHallModel", name := "isIn", desc := "(III)Z" }) ∈ TT := List.mem_filter.mpr ⟨List.mem_of_getElem? (i := 1020) (by decide +kernel), by decide +kernel⟩
theorem wd_1021 : Cond.static ({ cls := "VisitHallModel", name := "isIn", desc := "(III)Z" }) ∈ TT := List.mem_filter.mpr ⟨List.mem_of_getElem? (i := 1021) (by decide +kernel), by decide +kernel⟩
theorem wd_1022 : Cond.code ({ cls := "VisitHallModel", name := "isIn", desc := "(III)Z" }) prog_13_method_2_code 3 (Option.some FieldType.boolean) ∈ TT := List.mem_filter.mpr ⟨List.mem_of_getElem? (i := 1022) (by decide +kernel), by decide +kernel⟩
theorem wd_1023 : Cond.constant "VisitHallModel" 109 (-1000000001) ∈ TT := List.mem_filter.mpr ⟨List.mem_of_getElem? (i := 1023) (by decide +kernel), by decide +kernel⟩
theorem wd_1024 : Cond.constant "VisitHallModel" 110 (-1000000003) ∈ TT := List.mem_filter.mpr ⟨List.mem_of_getElem? (i := 1024) (by decide +kernel), by decide +kernel⟩
theorem wd_1025 : Cond.methodLink "VisitHallLaw" 22 ({ cls := "VisitHallModel", name := "visitor", desc := "(III)I" }) ∈ TT := List.mem_filter.mpr ⟨List.mem_of_getElem? (i := 1025) (by decide +kernel), by decide +kernel⟩
theorem wd_1026 : Cond.instanceMethod ({ cls := "VisitHallModel", name := "visitor", desc := "(III)I" }) ∈ TT := List.mem_filter.mpr ⟨List.mem_of_getElem? (i := 1026) (by decide +kernel), by decide +kernel⟩
theorem wd_1027 : Cond.selects "VisitHallModel" ({ cls := "VisitHallModel", name := "visitor", desc := "(III)I" }) ({ cls := "VisitHallModel", name := "visitor", desc := "(III)I" }) ∈ TT := List.mem_filter.mpr ⟨List.mem_of_getElem? (i := 1027) (by decide +kernel), by decide +kernel⟩
theorem wd_1028 : Cond.code ({ cls := "VisitHallModel", name := "visitor", desc := "(III)I" }) prog_13_method_7_code 4 (Option.some FieldType.int) ∈ TT := List.mem_filter.mpr ⟨List.mem_of_getElem? (i := 1028) (by decide +kernel), by decide +kernel⟩
theorem wd_1029 : Cond.methodLink "VisitHallLaw" 26 ({ cls := "VisitHallModel", name := "isOf", desc := "(II)I" }) ∈ TT := List.mem_filter.mpr ⟨List.mem_of_getElem? (i := 1029) (by decide +kernel), by decide +kernel⟩
theorem wd_1030 : Cond.instanceMethod ({ cls := "VisitHallModel", name := "isOf", desc := "(II)I" }) ∈ TT := List.mem_filter.mpr ⟨List.mem_of_getElem? (i := 1030) (by decide +kernel), by decide +kernel⟩
theorem wd_1031 : Cond.selects "VisitHallModel" ({ cls := "VisitHallModel", name := "isOf", desc := "(II)I" }) ({ cls := "VisitHallModel", name := "isOf", desc := "(II)I" }) ∈ TT := List.mem_filter.mpr ⟨List.mem_of_getElem? (i := 1031) (by decide +kernel), by decide +kernel⟩
theorem wd_1032 : Cond.code ({ cls := "VisitHallModel", name := "isOf", desc := "(II)I" }) prog_13_method_8_code 4 (Option.some FieldType.int) ∈ TT := List.mem_filter.mpr ⟨List.mem_of_getElem? (i := 1032) (by decide +kernel), by decide +kernel⟩
theorem wd_1033 : Cond.methodLink "VisitHallModel" 111 ({ cls := "VisitHallModel", name := "isVisitor", desc := "(I)Z" }) ∈ TT := List.mem_filter.mpr ⟨List.mem_of_getElem? (i := 1033) (by decide +kernel), by decide +kernel⟩
theorem wd_1035 : Cond.instanceMethod ({ cls := "VisitHallModel", name := "isVisitor", desc := "(I)Z" }) ∈ TT := List.mem_filter.mpr ⟨List.mem_of_getElem? (i := 1035) (by decide +kernel), by decide +kernel⟩
theorem wd_1036 : Cond.code ({ cls := "VisitHallModel", name := "isVisitor", desc := "(I)Z" }) prog_13_method_4_code 2 (Option.some FieldType.boolean) ∈ TT := List.mem_filter.mpr ⟨List.mem_of_getElem? (i := 1036) (by decide +kernel), by decide +kernel⟩
theorem wd_1037 : Cond.methodLink "VisitHallLaw" 30 ({ cls := "VisitHallModel", name := "list", desc := "(III)I" }) ∈ TT := List.mem_filter.mpr ⟨List.mem_of_getElem? (i := 1037) (by decide +kernel), by decide +kernel⟩
theorem wd_1038 : Cond.instanceMethod ({ cls := "VisitHallModel", name := "list", desc := "(III)I" }) ∈ TT := List.mem_filter.mpr ⟨List.mem_of_getElem? (i := 1038) (by decide +kernel), by decide +kernel⟩
theorem wd_1039 : Cond.selects "VisitHallModel" ({ cls := "VisitHallModel", name := "list", desc := "(III)I" }) ({ cls := "VisitHallModel", name := "list", desc := "(III)I" }) ∈ TT := List.mem_filter.mpr ⟨List.mem_of_getElem? (i := 1039) (by decide +kernel), by decide +kernel⟩
theorem wd_1040 : Cond.code ({ cls := "VisitHallModel", name := "list", desc := "(III)I" }) prog_13_method_9_code 5 (Option.some FieldType.int) ∈ TT := List.mem_filter.mpr ⟨List.mem_of_getElem? (i := 1040) (by decide +kernel), by decide +kernel⟩
theorem wd_1041 : Cond.methodLink "VisitHallModel" 115 ({ cls := "VisitHallModel", name := "isPrisoner", desc := "(I)Z" }) ∈ TT := List.mem_filter.mpr ⟨List.mem_of_getElem? (i := 1041) (by decide +kernel), by decide +kernel⟩
theorem wd_1043 : Cond.instanceMethod ({ cls := "VisitHallModel", name := "isPrisoner", desc := "(I)Z" }) ∈ TT := List.mem_filter.mpr ⟨List.mem_of_getElem? (i := 1043) (by decide +kernel), by decide +kernel⟩
theorem wd_1044 : Cond.code ({ cls := "VisitHallModel", name := "isPrisoner", desc := "(I)Z" }) prog_13_method_3_code 2 (Option.some FieldType.boolean) ∈ TT := List.mem_filter.mpr ⟨List.mem_of_getElem? (i := 1044) (by decide +kernel), by decide +kernel⟩
theorem wd_1045 : Cond.methodLink "VisitHallLaw" 34 ({ cls := "VisitHallModel", name := "order", desc := "(III)I" }) ∈ TT := List.mem_filter.mpr ⟨List.mem_of_getElem? (i := 1045) (by decide +kernel), by decide +kernel⟩
theorem wd_1046 : Cond.instanceMethod ({ cls := "VisitHallModel", name := "order", desc := "(III)I" }) ∈ TT := List.mem_filter.mpr ⟨List.mem_of_getElem? (i := 1046) (by decide +kernel), by decide +kernel⟩
theorem wd_1047 : Cond.selects "VisitHallModel" ({ cls := "VisitHallModel", name := "order", desc := "(III)I" }) ({ cls := "VisitHallModel", name := "order", desc := "(III)I" }) ∈ TT := List.mem_filter.mpr ⟨List.mem_of_getElem? (i := 1047) (by decide +kernel), by decide +kernel⟩
theorem wd_1048 : Cond.code ({ cls := "VisitHallModel", name := "order", desc := "(III)I" }) prog_13_method_10_code 6 (Option.some FieldType.int) ∈ TT := List.mem_filter.mpr ⟨List.mem_of_getElem? (i := 1048) (by decide +kernel), by decide +kernel⟩
theorem wd_1049 : Cond.methodLink "VisitHallModel" 121 ({ cls := "VisitHallModel", name := "has", desc := "(II)Z" }) ∈ TT := List.mem_filter.mpr ⟨List.mem_of_getElem? (i := 1049) (by decide +kernel), by decide +kernel⟩
theorem wd_1050 : Cond.static ({ cls := "VisitHallModel", name := "has", desc := "(II)Z" }) ∈ TT := List.mem_filter.mpr ⟨List.mem_of_getElem? (i := 1050) (by decide +kernel), by decide +kernel⟩
theorem wd_1051 : Cond.code ({ cls := "VisitHallModel", name := "has", desc := "(II)Z" }) prog_13_method_5_code 2 (Option.some FieldType.boolean) ∈ TT := List.mem_filter.mpr ⟨List.mem_of_getElem? (i := 1051) (by decide +kernel), by decide +kernel⟩
theorem wd_1052 : Cond.methodLink "VisitHallLaw" 38 ({ cls := "VisitHallModel", name := "lift", desc := "(II)I" }) ∈ TT := List.mem_filter.mpr ⟨List.mem_of_getElem? (i := 1052) (by decide +kernel), by decide +kernel⟩
theorem wd_1053 : Cond.instanceMethod ({ cls := "VisitHallModel", name := "lift", desc := "(II)I" }) ∈ TT := List.mem_filter.mpr ⟨List.mem_of_getElem? (i := 1053) (by decide +kernel), by decide +kernel⟩
theorem wd_1054 : Cond.selects "VisitHallModel" ({ cls := "VisitHallModel", name := "lift", desc := "(II)I" }) ({ cls := "VisitHallModel", name := "lift", desc := "(II)I" }) ∈ TT := List.mem_filter.mpr ⟨List.mem_of_getElem? (i := 1054) (by decide +kernel), by decide +kernel⟩
theorem wd_1055 : Cond.code ({ cls := "VisitHallModel", name := "lift", desc := "(II)I" }) prog_13_method_11_code 5 (Option.some FieldType.int) ∈ TT := List.mem_filter.mpr ⟨List.mem_of_getElem? (i := 1055) (by decide +kernel), by decide +kernel⟩
theorem wd_1056 : Cond.constant "VisitHallModel" 128 (-1000000002) ∈ TT := List.mem_filter.mpr ⟨List.mem_of_getElem? (i := 1056) (by decide +kernel), by decide +kernel⟩
theorem wd_1057 : Cond.methodLink "VisitHallModel" 129 ({ cls := "VisitHallModel", name := "walk", desc := "()I" }) ∈ TT := List.mem_filter.mpr ⟨List.mem_of_getElem? (i := 1057) (by decide +kernel), by decide +kernel⟩
theorem wd_1059 : Cond.instanceMethod ({ cls := "VisitHallModel", name := "walk", desc := "()I" }) ∈ TT := List.mem_filter.mpr ⟨List.mem_of_getElem? (i := 1059) (by decide +kernel), by decide +kernel⟩
theorem wd_1060 : Cond.code ({ cls := "VisitHallModel", name := "walk", desc := "()I" }) prog_13_method_37_code 3 (Option.some FieldType.int) ∈ TT := List.mem_filter.mpr ⟨List.mem_of_getElem? (i := 1060) (by decide +kernel), by decide +kernel⟩
theorem wd_1061 : Cond.methodLink "VisitHallModel" 221 ({ cls := "VisitHallModel", name := "refusal", desc := "(IIIIIZ)I" }) ∈ TT := List.mem_filter.mpr ⟨List.mem_of_getElem? (i := 1061) (by decide +kernel), by decide +kernel⟩
theorem wd_1063 : Cond.instanceMethod ({ cls := "VisitHallModel", name := "refusal", desc := "(IIIIIZ)I" }) ∈ TT := List.mem_filter.mpr ⟨List.mem_of_getElem? (i := 1063) (by decide +kernel), by decide +kernel⟩
theorem wd_1064 : Cond.code ({ cls := "VisitHallModel", name := "refusal", desc := "(IIIIIZ)I" }) prog_13_method_36_code 8 (Option.some FieldType.int) ∈ TT := List.mem_filter.mpr ⟨List.mem_of_getElem? (i := 1064) (by decide +kernel), by decide +kernel⟩
theorem wd_1065 : Cond.methodLink "VisitHallModel" 213 ({ cls := "VisitHallModel", name := "reason", desc := "(IIIII)I" }) ∈ TT := List.mem_filter.mpr ⟨List.mem_of_getElem? (i := 1065) (by decide +kernel), by decide +kernel⟩
theorem wd_1067 : Cond.instanceMethod ({ cls := "VisitHallModel", name := "reason", desc := "(IIIII)I" }) ∈ TT := List.mem_filter.mpr ⟨List.mem_of_getElem? (i := 1067) (by decide +kernel), by decide +kernel⟩
theorem wd_1068 : Cond.code ({ cls := "VisitHallModel", name := "reason", desc := "(IIIII)I" }) prog_13_method_34_code 7 (Option.some FieldType.int) ∈ TT := List.mem_filter.mpr ⟨List.mem_of_getElem? (i := 1068) (by decide +kernel), by decide +kernel⟩
theorem wd_1069 : Cond.methodLink "VisitHallModel" 190 ({ cls := "VisitHallModel", name := "isUnlisted", desc := "(II)Z" }) ∈ TT := List.mem_filter.mpr ⟨List.mem_of_getElem? (i := 1069) (by decide +kernel), by decide +kernel⟩
theorem wd_1071 : Cond.instanceMethod ({ cls := "VisitHallModel", name := "isUnlisted", desc := "(II)Z" }) ∈ TT := List.mem_filter.mpr ⟨List.mem_of_getElem? (i := 1071) (by decide +kernel), by decide +kernel⟩
theorem wd_1072 : Cond.code ({ cls := "VisitHallModel", name := "isUnlisted", desc := "(II)Z" }) prog_13_method_31_code 4 (Option.some FieldType.boolean) ∈ TT := List.mem_filter.mpr ⟨List.mem_of_getElem? (i := 1072) (by decide +kernel), by decide +kernel⟩
theorem wd_1073 : Cond.methodLink "VisitHallModel" 193 ({ cls := "VisitHallModel", name := "isBarred", desc := "(III)Z" }) ∈ TT := List.mem_filter.mpr ⟨List.mem_of_getElem? (i := 1073) (by decide +kernel), by decide +kernel⟩
theorem wd_1075 : Cond.instanceMethod ({ cls := "VisitHallModel", name := "isBarred", desc := "(III)Z" }) ∈ TT := List.mem_filter.mpr ⟨List.mem_of_getElem? (i := 1075) (by decide +kernel), by decide +kernel⟩
theorem wd_1076 : Cond.code ({ cls := "VisitHallModel", name := "isBarred", desc := "(III)Z" }) prog_13_method_30_code 6 (Option.some FieldType.boolean) ∈ TT := List.mem_filter.mpr ⟨List.mem_of_getElem? (i := 1076) (by decide +kernel), by decide +kernel⟩
theorem wd_1077 : Cond.methodLink "VisitHallModel" 196 ({ cls := "VisitHallModel", name := "isChildAlone", desc := "(I)Z" }) ∈ TT := List.mem_filter.mpr ⟨List.mem_of_getElem? (i := 1077) (by decide +kernel), by decide +kernel⟩
theorem wd_1079 : Cond.instanceMethod ({ cls := "VisitHallModel", name := "isChildAlone", desc := "(I)Z" }) ∈ TT := List.mem_filter.mpr ⟨List.mem_of_getElem? (i := 1079) (by decide +kernel), by decide +kernel⟩
theorem wd_1080 : Cond.code ({ cls := "VisitHallModel", name := "isChildAlone", desc := "(I)Z" }) prog_13_method_32_code 5 (Option.some FieldType.boolean) ∈ TT := List.mem_filter.mpr ⟨List.mem_of_getElem? (i := 1080) (by decide +kernel), by decide +kernel⟩
theorem wd_1081 : Cond.methodLink "VisitHallModel" 187 ({ cls := "VisitHallModel", name := "isLawyers", desc := "(I)Z" }) ∈ TT := List.mem_filter.mpr ⟨List.mem_of_getElem? (i := 1081) (by decide +kernel), by decide +kernel⟩
theorem wd_1083 : Cond.instanceMethod ({ cls := "VisitHallModel", name := "isLawyers", desc := "(I)Z" }) ∈ TT := List.mem_filter.mpr ⟨List.mem_of_getElem? (i := 1083) (by decide +kernel), by decide +kernel⟩
theorem wd_1084 : Cond.code ({ cls := "VisitHallModel", name := "isLawyers", desc := "(I)Z" }) prog_13_method_25_code 3 (Option.some FieldType.boolean) ∈ TT := List.mem_filter.mpr ⟨List.mem_of_getElem? (i := 1084) (by decide +kernel), by decide +kernel⟩
theorem wd_1085 : Cond.methodLink "VisitHallModel" 199 ({ cls := "VisitHallModel", name := "isTooMany", desc := "(III)Z" }) ∈ TT := List.mem_filter.mpr ⟨List.mem_of_getElem? (i := 1085) (by decide +kernel), by decide +kernel⟩
theorem wd_1087 : Cond.instanceMethod ({ cls := "VisitHallModel", name := "isTooMany", desc := "(III)Z" }) ∈ TT := List.mem_filter.mpr ⟨List.mem_of_getElem? (i := 1087) (by decide +kernel), by decide +kernel⟩
theorem wd_1088 : Cond.code ({ cls := "VisitHallModel", name := "isTooMany", desc := "(III)Z" }) prog_13_method_33_code 10 (Option.some FieldType.boolean) ∈ TT := List.mem_filter.mpr ⟨List.mem_of_getElem? (i := 1088) (by decide +kernel), by decide +kernel⟩
theorem wd_1089 : Cond.constant "VisitHallModel" 149 (-1000000005) ∈ TT := List.mem_filter.mpr ⟨List.mem_of_getElem? (i := 1089) (by decide +kernel), by decide +kernel⟩
theorem wd_1090 : Cond.methodLink "VisitHallModel" 202 ({ cls := "VisitHallModel", name := "meets", desc := "(IIII)Z" }) ∈ TT := List.mem_filter.mpr ⟨List.mem_of_getElem? (i := 1090) (by decide +kernel), by decide +kernel⟩
theorem wd_1092 : Cond.instanceMethod ({ cls := "VisitHallModel", name := "meets", desc := "(IIII)Z" }) ∈ TT := List.mem_filter.mpr ⟨List.mem_of_getElem? (i := 1092) (by decide +kernel), by decide +kernel⟩
theorem wd_1093 : Cond.code ({ cls := "VisitHallModel", name := "meets", desc := "(IIII)Z" }) prog_13_method_29_code 5 (Option.some FieldType.boolean) ∈ TT := List.mem_filter.mpr ⟨List.mem_of_getElem? (i := 1093) (by decide +kernel), by decide +kernel⟩
theorem wd_1094 : Cond.methodLink "VisitHallModel" 205 ({ cls := "VisitHallModel", name := "letAt", desc := "(II)I" }) ∈ TT := List.mem_filter.mpr ⟨List.mem_of_getElem? (i := 1094) (by decide +kernel), by decide +kernel⟩
theorem wd_1096 : Cond.instanceMethod ({ cls := "VisitHallModel", name := "letAt", desc := "(II)I" }) ∈ TT := List.mem_filter.mpr ⟨List.mem_of_getElem? (i := 1096) (by decide +kernel), by decide +kernel⟩
theorem wd_1097 : Cond.code ({ cls := "VisitHallModel", name := "letAt", desc := "(II)I" }) prog_13_method_28_code 5 (Option.some FieldType.int) ∈ TT := List.mem_filter.mpr ⟨List.mem_of_getElem? (i := 1097) (by decide +kernel), by decide +kernel⟩
theorem wd_1098 : Cond.methodLink "VisitHallModel" 184 ({ cls := "VisitHallModel", name := "isAt", desc := "(III)Z" }) ∈ TT := List.mem_filter.mpr ⟨List.mem_of_getElem? (i := 1098) (by decide +kernel), by decide +kernel⟩
theorem wd_1100 : Cond.instanceMethod ({ cls := "VisitHallModel", name := "isAt", desc := "(III)Z" }) ∈ TT := List.mem_filter.mpr ⟨List.mem_of_getElem? (i := 1100) (by decide +kernel), by decide +kernel⟩
theorem wd_1101 : Cond.code ({ cls := "VisitHallModel", name := "isAt", desc := "(III)Z" }) prog_13_method_27_code 4 (Option.some FieldType.boolean) ∈ TT := List.mem_filter.mpr ⟨List.mem_of_getElem? (i := 1101) (by decide +kernel), by decide +kernel⟩
theorem wd_1102 : Cond.methodLink "VisitHallModel" 209 ({ cls := "VisitHallModel", name := "tablesOn", desc := "(I)I" }) ∈ TT := List.mem_filter.mpr ⟨List.mem_of_getElem? (i := 1102) (by decide +kernel), by decide +kernel⟩
theorem wd_1104 : Cond.instanceMethod ({ cls := "VisitHallModel", name := "tablesOn", desc := "(I)I" }) ∈ TT := List.mem_filter.mpr ⟨List.mem_of_getElem? (i := 1104) (by decide +kernel), by decide +kernel⟩
theorem wd_1105 : Cond.code ({ cls := "VisitHallModel", name := "tablesOn", desc := "(I)I" }) prog_13_method_26_code 2 (Option.some FieldType.int) ∈ TT := List.mem_filter.mpr ⟨List.mem_of_getElem? (i := 1105) (by decide +kernel), by decide +kernel⟩
theorem wd_1106 : Cond.methodLink "VisitHallModel" 217 ({ cls := "VisitHallModel", name := "makesRoom", desc := "(IIIZ)Z" }) ∈ TT := List.mem_filter.mpr ⟨List.mem_of_getElem? (i := 1106) (by decide +kernel), by decide +kernel⟩
theorem wd_1108 : Cond.instanceMethod ({ cls := "VisitHallModel", name := "makesRoom", desc := "(IIIZ)Z" }) ∈ TT := List.mem_filter.mpr ⟨List.mem_of_getElem? (i := 1108) (by decide +kernel), by decide +kernel⟩
theorem wd_1109 : Cond.code ({ cls := "VisitHallModel", name := "makesRoom", desc := "(IIIZ)Z" }) prog_13_method_35_code 9 (Option.some FieldType.boolean) ∈ TT := List.mem_filter.mpr ⟨List.mem_of_getElem? (i := 1109) (by decide +kernel), by decide +kernel⟩
theorem wd_1110 : Cond.methodLink "VisitHallLaw" 42 ({ cls := "VisitHallModel", name := "rivals", desc := "(III)I" }) ∈ TT := List.mem_filter.mpr ⟨List.mem_of_getElem? (i := 1110) (by decide +kernel), by decide +kernel⟩
theorem wd_1111 : Cond.instanceMethod ({ cls := "VisitHallModel", name := "rivals", desc := "(III)I" }) ∈ TT := List.mem_filter.mpr ⟨List.mem_of_getElem? (i := 1111) (by decide +kernel), by decide +kernel⟩
theorem wd_1112 : Cond.selects "VisitHallModel" ({ cls := "VisitHallModel", name := "rivals", desc := "(III)I" }) ({ cls := "VisitHallModel", name := "rivals", desc := "(III)I" }) ∈ TT := List.mem_filter.mpr ⟨List.mem_of_getElem? (i := 1112) (by decide +kernel), by decide +kernel⟩
theorem wd_1113 : Cond.code ({ cls := "VisitHallModel", name := "rivals", desc := "(III)I" }) prog_13_method_12_code 6 (Option.some FieldType.int) ∈ TT := List.mem_filter.mpr ⟨List.mem_of_getElem? (i := 1113) (by decide +kernel), by decide +kernel⟩
theorem wd_1114 : Cond.methodLink "VisitHallLaw" 47 ({ cls := "VisitHallModel", name := "move", desc := "(I)I" }) ∈ TT := List.mem_filter.mpr ⟨List.mem_of_getElem? (i := 1114) (by decide +kernel), by decide +kernel⟩
theorem wd_1115 : Cond.instanceMethod ({ cls := "VisitHallModel", name := "move", desc := "(I)I" }) ∈ TT := List.mem_filter.mpr ⟨List.mem_of_getElem? (i := 1115) (by decide +kernel), by decide +kernel⟩
theorem wd_1116 : Cond.selects "VisitHallModel" ({ cls := "VisitHallModel", name := "move", desc := "(I)I" }) ({ cls := "VisitHallModel", name := "move", desc := "(I)I" }) ∈ TT := List.mem_filter.mpr ⟨List.mem_of_getElem? (i := 1116) (by decide +kernel), by decide +kernel⟩
theorem wd_1117 : Cond.code ({ cls := "VisitHallModel", name := "move", desc := "(I)I" }) prog_13_method_13_code 4 (Option.some FieldType.int) ∈ TT := List.mem_filter.mpr ⟨List.mem_of_getElem? (i := 1117) (by decide +kernel), by decide +kernel⟩
theorem wd_1118 : Cond.methodLink "VisitHallLaw" 51 ({ cls := "VisitHallModel", name := "told", desc := "(II)I" }) ∈ TT := List.mem_filter.mpr ⟨List.mem_of_getElem? (i := 1118) (by decide +kernel), by decide +kernel⟩
theorem wd_1119 : Cond.instanceMethod ({ cls := "VisitHallModel", name := "told", desc := "(II)I" }) ∈ TT := List.mem_filter.mpr ⟨List.mem_of_getElem? (i := 1119) (by decide +kernel), by decide +kernel⟩
theorem wd_1120 : Cond.selects "VisitHallModel" ({ cls := "VisitHallModel", name := "told", desc := "(II)I" }) ({ cls := "VisitHallModel", name := "told", desc := "(II)I" }) ∈ TT := List.mem_filter.mpr ⟨List.mem_of_getElem? (i := 1120) (by decide +kernel), by decide +kernel⟩
theorem wd_1121 : Cond.code ({ cls := "VisitHallModel", name := "told", desc := "(II)I" }) prog_13_method_14_code 5 (Option.some FieldType.int) ∈ TT := List.mem_filter.mpr ⟨List.mem_of_getElem? (i := 1121) (by decide +kernel), by decide +kernel⟩
theorem wd_1122 : Cond.methodLink "VisitHallLaw" 55 ({ cls := "VisitHallModel", name := "feed", desc := "(III)I" }) ∈ TT := List.mem_filter.mpr ⟨List.mem_of_getElem? (i := 1122) (by decide +kernel), by decide +kernel⟩
theorem wd_1123 : Cond.instanceMethod ({ cls := "VisitHallModel", name := "feed", desc := "(III)I" }) ∈ TT := List.mem_filter.mpr ⟨List.mem_of_getElem? (i := 1123) (by decide +kernel), by decide +kernel⟩
theorem wd_1124 : Cond.selects "VisitHallModel" ({ cls := "VisitHallModel", name := "feed", desc := "(III)I" }) ({ cls := "VisitHallModel", name := "feed", desc := "(III)I" }) ∈ TT := List.mem_filter.mpr ⟨List.mem_of_getElem? (i := 1124) (by decide +kernel), by decide +kernel⟩
theorem wd_1125 : Cond.code ({ cls := "VisitHallModel", name := "feed", desc := "(III)I" }) prog_13_method_16_code 4 (Option.some FieldType.int) ∈ TT := List.mem_filter.mpr ⟨List.mem_of_getElem? (i := 1125) (by decide +kernel), by decide +kernel⟩
theorem wd_1126 : Cond.methodLink "VisitHallModel" 136 ({ cls := "VisitHallModel", name := "four", desc := "(I)V" }) ∈ TT := List.mem_filter.mpr ⟨List.mem_of_getElem? (i := 1126) (by decide +kernel), by decide +kernel⟩
theorem wd_1128 : Cond.instanceMethod ({ cls := "VisitHallModel", name := "four", desc := "(I)V" }) ∈ TT := List.mem_filter.mpr ⟨List.mem_of_getElem? (i := 1128) (by decide +kernel), by decide +kernel⟩
theorem wd_1129 : Cond.code ({ cls := "VisitHallModel", name := "four", desc := "(I)V" }) prog_13_method_15_code 3 (Option.none : Option FieldType) ∈ TT := List.mem_filter.mpr ⟨List.mem_of_getElem? (i := 1129) (by decide +kernel), by decide +kernel⟩
theorem wd_1130 : Cond.methodLink "VisitHallLaw" 59 ({ cls := "VisitHallModel", name := "trim", desc := "(I)I" }) ∈ TT := List.mem_filter.mpr ⟨List.mem_of_getElem? (i := 1130) (by decide +kernel), by decide +kernel⟩
theorem wd_1131 : Cond.instanceMethod ({ cls := "VisitHallModel", name := "trim", desc := "(I)I" }) ∈ TT := List.mem_filter.mpr ⟨List.mem_of_getElem? (i := 1131) (by decide +kernel), by decide +kernel⟩
theorem wd_1132 : Cond.selects "VisitHallModel" ({ cls := "VisitHallModel", name := "trim", desc := "(I)I" }) ({ cls := "VisitHallModel", name := "trim", desc := "(I)I" }) ∈ TT := List.mem_filter.mpr ⟨List.mem_of_getElem? (i := 1132) (by decide +kernel), by decide +kernel⟩
theorem wd_1133 : Cond.code ({ cls := "VisitHallModel", name := "trim", desc := "(I)I" }) prog_13_method_17_code 2 (Option.some FieldType.int) ∈ TT := List.mem_filter.mpr ⟨List.mem_of_getElem? (i := 1133) (by decide +kernel), by decide +kernel⟩
theorem wd_1134 : Cond.methodLink "VisitHallLaw" 63 ({ cls := "VisitHallModel", name := "right", desc := "(I)I" }) ∈ TT := List.mem_filter.mpr ⟨List.mem_of_getElem? (i := 1134) (by decide +kernel), by decide +kernel⟩
theorem wd_1135 : Cond.instanceMethod ({ cls := "VisitHallModel", name := "right", desc := "(I)I" }) ∈ TT := List.mem_filter.mpr ⟨List.mem_of_getElem? (i := 1135) (by decide +kernel), by decide +kernel⟩
theorem wd_1136 : Cond.selects "VisitHallModel" ({ cls := "VisitHallModel", name := "right", desc := "(I)I" }) ({ cls := "VisitHallModel", name := "right", desc := "(I)I" }) ∈ TT := List.mem_filter.mpr ⟨List.mem_of_getElem? (i := 1136) (by decide +kernel), by decide +kernel⟩
theorem wd_1137 : Cond.code ({ cls := "VisitHallModel", name := "right", desc := "(I)I" }) prog_13_method_23_code 3 (Option.some FieldType.int) ∈ TT := List.mem_filter.mpr ⟨List.mem_of_getElem? (i := 1137) (by decide +kernel), by decide +kernel⟩
theorem wd_1138 : Cond.methodLink "VisitHallModel" 181 ({ cls := "VisitHallModel", name := "readRight", desc := "()I" }) ∈ TT := List.mem_filter.mpr ⟨List.mem_of_getElem? (i := 1138) (by decide +kernel), by decide +kernel⟩
theorem wd_1140 : Cond.instanceMethod ({ cls := "VisitHallModel", name := "readRight", desc := "()I" }) ∈ TT := List.mem_filter.mpr ⟨List.mem_of_getElem? (i := 1140) (by decide +kernel), by decide +kernel⟩
theorem wd_1141 : Cond.code ({ cls := "VisitHallModel", name := "readRight", desc := "()I" }) prog_13_method_22_code 4 (Option.some FieldType.int) ∈ TT := List.mem_filter.mpr ⟨List.mem_of_getElem? (i := 1141) (by decide +kernel), by decide +kernel⟩
theorem wd_1142 : Cond.methodLink "VisitHallModel" 162 ({ cls := "VisitHallModel", name := "next", desc := "()V" }) ∈ TT := List.mem_filter.mpr ⟨List.mem_of_getElem? (i := 1142) (by decide +kernel), by decide +kernel⟩
theorem wd_1144 : Cond.instanceMethod ({ cls := "VisitHallModel", name := "next", desc := "()V" }) ∈ TT := List.mem_filter.mpr ⟨List.mem_of_getElem? (i := 1144) (by decide +kernel), by decide +kernel⟩
theorem wd_1145 : Cond.code ({ cls := "VisitHallModel", name := "next", desc := "()V" }) prog_13_method_18_code 1 (Option.none : Option FieldType) ∈ TT := List.mem_filter.mpr ⟨List.mem_of_getElem? (i := 1145) (by decide +kernel), by decide +kernel⟩
theorem wd_1146 : Cond.methodLink "VisitHallModel" 165 ({ cls := "VisitHallModel", name := "number", desc := "()I" }) ∈ TT := List.mem_filter.mpr ⟨List.mem_of_getElem? (i := 1146) (by decide +kernel), by decide +kernel⟩
theorem wd_1148 : Cond.instanceMethod ({ cls := "VisitHallModel", name := "number", desc := "()I" }) ∈ TT := List.mem_filter.mpr ⟨List.mem_of_getElem? (i := 1148) (by decide +kernel), by decide +kernel⟩
theorem wd_1149 : Cond.code ({ cls := "VisitHallModel", name := "number", desc := "()I" }) prog_13_method_21_code 3 (Option.some FieldType.int) ∈ TT := List.mem_filter.mpr ⟨List.mem_of_getElem? (i := 1149) (by decide +kernel), by decide +kernel⟩
theorem wd_1150 : Cond.methodLink "VisitHallModel" 171 ({ cls := "VisitHallModel", name := "here", desc := "()I" }) ∈ TT := List.mem_filter.mpr ⟨List.mem_of_getElem? (i := 1150) (by decide +kernel), by decide +kernel⟩
theorem wd_1152 : Cond.instanceMethod ({ cls := "VisitHallModel", name := "here", desc := "()I" }) ∈ TT := List.mem_filter.mpr ⟨List.mem_of_getElem? (i := 1152) (by decide +kernel), by decide +kernel⟩
theorem wd_1153 : Cond.code ({ cls := "VisitHallModel", name := "here", desc := "()I" }) prog_13_method_19_code 1 (Option.some FieldType.int) ∈ TT := List.mem_filter.mpr ⟨List.mem_of_getElem? (i := 1153) (by decide +kernel), by decide +kernel⟩
theorem wd_1154 : Cond.methodLink "VisitHallModel" 174 ({ cls := "VisitHallModel", name := "isWord", desc := "(IIII)Z" }) ∈ TT := List.mem_filter.mpr ⟨List.mem_of_getElem? (i := 1154) (by decide +kernel), by decide +kernel⟩
theorem wd_1156 : Cond.instanceMethod ({ cls := "VisitHallModel", name := "isWord", desc := "(IIII)Z" }) ∈ TT := List.mem_filter.mpr ⟨List.mem_of_getElem? (i := 1156) (by decide +kernel), by decide +kernel⟩
theorem wd_1157 : Cond.code ({ cls := "VisitHallModel", name := "isWord", desc := "(IIII)Z" }) prog_13_method_20_code 6 (Option.some FieldType.boolean) ∈ TT := List.mem_filter.mpr ⟨List.mem_of_getElem? (i := 1157) (by decide +kernel), by decide +kernel⟩
theorem wd_1158 : Cond.methodLink "VisitHallLaw" 67 ({ cls := "VisitHallModel", name := "of", desc := "(II)I" }) ∈ TT := List.mem_filter.mpr ⟨List.mem_of_getElem? (i := 1158) (by decide +kernel), by decide +kernel⟩
theorem wd_1159 : Cond.instanceMethod ({ cls := "VisitHallModel", name := "of", desc := "(II)I" }) ∈ TT := List.mem_filter.mpr ⟨List.mem_of_getElem? (i := 1159) (by decide +kernel), by decide +kernel⟩
theorem wd_1160 : Cond.selects "VisitHallModel" ({ cls := "VisitHallModel", name := "of", desc := "(II)I" }) ({ cls := "VisitHallModel", name := "of", desc := "(II)I" }) ∈ TT := List.mem_filter.mpr ⟨List.mem_of_getElem? (i := 1160) (by decide +kernel), by decide +kernel⟩
theorem wd_1161 : Cond.code ({ cls := "VisitHallModel", name := "of", desc := "(II)I" }) prog_13_method_24_code 3 (Option.some FieldType.int) ∈ TT := List.mem_filter.mpr ⟨List.mem_of_getElem? (i := 1161) (by decide +kernel), by decide +kernel⟩
theorem wd_1162 : Cond.methodLink "VisitHallLaw" 72 ({ cls := "VisitHallModel", name := "ask", desc := "(IIIII)I" }) ∈ TT := List.mem_filter.mpr ⟨List.mem_of_getElem? (i := 1162) (by decide +kernel), by decide +kernel⟩
theorem wd_1163 : Cond.instanceMethod ({ cls := "VisitHallModel", name := "ask", desc := "(IIIII)I" }) ∈ TT := List.mem_filter.mpr ⟨List.mem_of_getElem? (i := 1163) (by decide +kernel), by decide +kernel⟩
theorem wd_1164 : Cond.selects "VisitHallModel" ({ cls := "VisitHallModel", name := "ask", desc := "(IIIII)I" }) ({ cls := "VisitHallModel", name := "ask", desc := "(IIIII)I" }) ∈ TT := List.mem_filter.mpr ⟨List.mem_of_getElem? (i := 1164) (by decide +kernel), by decide +kernel⟩
theorem wd_1165 : Cond.code ({ cls := "VisitHallModel", name := "ask", desc := "(IIIII)I" }) prog_13_method_40_code 7 (Option.some FieldType.int) ∈ TT := List.mem_filter.mpr ⟨List.mem_of_getElem? (i := 1165) (by decide +kernel), by decide +kernel⟩
theorem wd_1166 : Cond.methodLink "VisitHallModel" 228 ({ cls := "VisitHallModel", name := "isAsked", desc := "(IIII)Z" }) ∈ TT := List.mem_filter.mpr ⟨List.mem_of_getElem? (i := 1166) (by decide +kernel), by decide +kernel⟩
theorem wd_1168 : Cond.instanceMethod ({ cls := "VisitHallModel", name := "isAsked", desc := "(IIII)Z" }) ∈ TT := List.mem_filter.mpr ⟨List.mem_of_getElem? (i := 1168) (by decide +kernel), by decide +kernel⟩
theorem wd_1169 : Cond.code ({ cls := "VisitHallModel", name := "isAsked", desc := "(IIII)Z" }) prog_13_method_39_code 7 (Option.some FieldType.boolean) ∈ TT := List.mem_filter.mpr ⟨List.mem_of_getElem? (i := 1169) (by decide +kernel), by decide +kernel⟩
theorem wd_1170 : Cond.methodLink "VisitHallModel" 225 ({ cls := "VisitHallModel", name := "bits", desc := "(I)I" }) ∈ TT := List.mem_filter.mpr ⟨List.mem_of_getElem? (i := 1170) (by decide +kernel), by decide +kernel⟩
theorem wd_1171 : Cond.static ({ cls := "VisitHallModel", name := "bits", desc := "(I)I" }) ∈ TT := List.mem_filter.mpr ⟨List.mem_of_getElem? (i := 1171) (by decide +kernel), by decide +kernel⟩
theorem wd_1172 : Cond.code ({ cls := "VisitHallModel", name := "bits", desc := "(I)I" }) prog_13_method_38_code 3 (Option.some FieldType.int) ∈ TT := List.mem_filter.mpr ⟨List.mem_of_getElem? (i := 1172) (by decide +kernel), by decide +kernel⟩
theorem wd_1173 : Cond.methodLink "VisitHallLaw" 77 ({ cls := "VisitHallModel", name := "why", desc := "(IIII)I" }) ∈ TT := List.mem_filter.mpr ⟨List.mem_of_getElem? (i := 1173) (by decide +kernel), by decide +kernel⟩
theorem wd_1174 : Cond.instanceMethod ({ cls := "VisitHallModel", name := "why", desc := "(IIII)I" }) ∈ TT := List.mem_filter.mpr ⟨List.mem_of_getElem? (i := 1174) (by decide +kernel), by decide +kernel⟩
theorem wd_1175 : Cond.selects "VisitHallModel" ({ cls := "VisitHallModel", name := "why", desc := "(IIII)I" }) ({ cls := "VisitHallModel", name := "why", desc := "(IIII)I" }) ∈ TT := List.mem_filter.mpr ⟨List.mem_of_getElem? (i := 1175) (by decide +kernel), by decide +kernel⟩
theorem wd_1176 : Cond.code ({ cls := "VisitHallModel", name := "why", desc := "(IIII)I" }) prog_13_method_41_code 5 (Option.some FieldType.int) ∈ TT := List.mem_filter.mpr ⟨List.mem_of_getElem? (i := 1176) (by decide +kernel), by decide +kernel⟩
theorem wd_1177 : Cond.methodLink "VisitHallLaw" 81 ({ cls := "VisitHallModel", name := "giveBack", desc := "(I)I" }) ∈ TT := List.mem_filter.mpr ⟨List.mem_of_getElem? (i := 1177) (by decide +kernel), by decide +kernel⟩
theorem wd_1178 : Cond.instanceMethod ({ cls := "VisitHallModel", name := "giveBack", desc := "(I)I" }) ∈ TT := List.mem_filter.mpr ⟨List.mem_of_getElem? (i := 1178) (by decide +kernel), by decide +kernel⟩
theorem wd_1179 : Cond.selects "VisitHallModel" ({ cls := "VisitHallModel", name := "giveBack", desc := "(I)I" }) ({ cls := "VisitHallModel", name := "giveBack", desc := "(I)I" }) ∈ TT := List.mem_filter.mpr ⟨List.mem_of_getElem? (i := 1179) (by decide +kernel), by decide +kernel⟩
theorem wd_1180 : Cond.code ({ cls := "VisitHallModel", name := "giveBack", desc := "(I)I" }) prog_13_method_43_code 2 (Option.some FieldType.int) ∈ TT := List.mem_filter.mpr ⟨List.mem_of_getElem? (i := 1180) (by decide +kernel), by decide +kernel⟩
theorem wd_1181 : Cond.methodLink "VisitHallModel" 231 ({ cls := "VisitHallModel", name := "isVisit", desc := "(I)Z" }) ∈ TT := List.mem_filter.mpr ⟨List.mem_of_getElem? (i := 1181) (by decide +kernel), by decide +kernel⟩
theorem wd_1183 : Cond.instanceMethod ({ cls := "VisitHallModel", name := "isVisit", desc := "(I)Z" }) ∈ TT := List.mem_filter.mpr ⟨List.mem_of_getElem? (i := 1183) (by decide +kernel), by decide +kernel⟩
theorem wd_1184 : Cond.code ({ cls := "VisitHallModel", name := "isVisit", desc := "(I)Z" }) prog_13_method_42_code 2 (Option.some FieldType.boolean) ∈ TT := List.mem_filter.mpr ⟨List.mem_of_getElem? (i := 1184) (by decide +kernel), by decide +kernel⟩
theorem wd_1185 : Cond.methodLink "VisitHallLaw" 85 ({ cls := "VisitHallModel", name := "visit", desc := "(II)I" }) ∈ TT := List.mem_filter.mpr ⟨List.mem_of_getElem? (i := 1185) (by decide +kernel), by decide +kernel⟩
theorem wd_1186 : Cond.instanceMethod ({ cls := "VisitHallModel", name := "visit", desc := "(II)I" }) ∈ TT := List.mem_filter.mpr ⟨List.mem_of_getElem? (i := 1186) (by decide +kernel), by decide +kernel⟩
theorem wd_1187 : Cond.selects "VisitHallModel" ({ cls := "VisitHallModel", name := "visit", desc := "(II)I" }) ({ cls := "VisitHallModel", name := "visit", desc := "(II)I" }) ∈ TT := List.mem_filter.mpr ⟨List.mem_of_getElem? (i := 1187) (by decide +kernel), by decide +kernel⟩
theorem wd_1188 : Cond.code ({ cls := "VisitHallModel", name := "visit", desc := "(II)I" }) prog_13_method_44_code 3 (Option.some FieldType.int) ∈ TT := List.mem_filter.mpr ⟨List.mem_of_getElem? (i := 1188) (by decide +kernel), by decide +kernel⟩
theorem wd_1189 : Cond.methodLink "VisitHallLaw" 89 ({ cls := "VisitHallModel", name := "rule", desc := "(II)I" }) ∈ TT := List.mem_filter.mpr ⟨List.mem_of_getElem? (i := 1189) (by decide +kernel), by decide +kernel⟩
theorem wd_1190 : Cond.instanceMethod ({ cls := "VisitHallModel", name := "rule", desc := "(II)I" }) ∈ TT := List.mem_filter.mpr ⟨List.mem_of_getElem? (i := 1190) (by decide +kernel), by decide +kernel⟩
theorem wd_1191 : Cond.selects "VisitHallModel" ({ cls := "VisitHallModel", name := "rule", desc := "(II)I" }) ({ cls := "VisitHallModel", name := "rule", desc := "(II)I" }) ∈ TT := List.mem_filter.mpr ⟨List.mem_of_getElem? (i := 1191) (by decide +kernel), by decide +kernel⟩
theorem wd_1192 : Cond.code ({ cls := "VisitHallModel", name := "rule", desc := "(II)I" }) prog_13_method_45_code 5 (Option.some FieldType.int) ∈ TT := List.mem_filter.mpr ⟨List.mem_of_getElem? (i := 1192) (by decide +kernel), by decide +kernel⟩
theorem wd_1193 : Cond.methodLink "VisitHallLaw" 93 ({ cls := "VisitHallModel", name := "days", desc := "(I)I" }) ∈ TT := List.mem_filter.mpr ⟨List.mem_of_getElem? (i := 1193) (by decide +kernel), by decide +kernel⟩
theorem wd_1194 : Cond.instanceMethod ({ cls := "VisitHallModel", name := "days", desc := "(I)I" }) ∈ TT := List.mem_filter.mpr ⟨List.mem_of_getElem? (i := 1194) (by decide +kernel), by decide +kernel⟩
theorem wd_1195 : Cond.selects "VisitHallModel" ({ cls := "VisitHallModel", name := "days", desc := "(I)I" }) ({ cls := "VisitHallModel", name := "days", desc := "(I)I" }) ∈ TT := List.mem_filter.mpr ⟨List.mem_of_getElem? (i := 1195) (by decide +kernel), by decide +kernel⟩
theorem wd_1196 : Cond.code ({ cls := "VisitHallModel", name := "days", desc := "(I)I" }) prog_13_method_46_code 2 (Option.some FieldType.int) ∈ TT := List.mem_filter.mpr ⟨List.mem_of_getElem? (i := 1196) (by decide +kernel), by decide +kernel⟩
theorem wd_1197 : Cond.methodLink "VisitHallLaw" 97 ({ cls := "VisitHallModel", name := "hall", desc := "(III)I" }) ∈ TT := List.mem_filter.mpr ⟨List.mem_of_getElem? (i := 1197) (by decide +kernel), by decide +kernel⟩
theorem wd_1198 : Cond.instanceMethod ({ cls := "VisitHallModel", name := "hall", desc := "(III)I" }) ∈ TT := List.mem_filter.mpr ⟨List.mem_of_getElem? (i := 1198) (by decide +kernel), by decide +kernel⟩
theorem wd_1199 : Cond.selects "VisitHallModel" ({ cls := "VisitHallModel", name := "hall", desc := "(III)I" }) ({ cls := "VisitHallModel", name := "hall", desc := "(III)I" }) ∈ TT := List.mem_filter.mpr ⟨List.mem_of_getElem? (i := 1199) (by decide +kernel), by decide +kernel⟩
theorem wd_1200 : Cond.code ({ cls := "VisitHallModel", name := "hall", desc := "(III)I" }) prog_13_method_48_code 6 (Option.some FieldType.int) ∈ TT := List.mem_filter.mpr ⟨List.mem_of_getElem? (i := 1200) (by decide +kernel), by decide +kernel⟩
theorem wd_1201 : Cond.methodLink "VisitHallModel" 237 ({ cls := "VisitHallModel", name := "isDay", desc := "(I)Z" }) ∈ TT := List.mem_filter.mpr ⟨List.mem_of_getElem? (i := 1201) (by decide +kernel), by decide +kernel⟩
theorem wd_1202 : Cond.static ({ cls := "VisitHallModel", name := "isDay", desc := "(I)Z" }) ∈ TT := List.mem_filter.mpr ⟨List.mem_of_getElem? (i := 1202) (by decide +kernel), by decide +kernel⟩
theorem wd_1203 : Cond.code ({ cls := "VisitHallModel", name := "isDay", desc := "(I)Z" }) prog_13_method_47_code 1 (Option.some FieldType.boolean) ∈ TT := List.mem_filter.mpr ⟨List.mem_of_getElem? (i := 1203) (by decide +kernel), by decide +kernel⟩
theorem wd_1204 : Cond.methodLink "VisitHallLaw" 101 ({ cls := "VisitHallModel", name := "comes", desc := "(II)I" }) ∈ TT := List.mem_filter.mpr ⟨List.mem_of_getElem? (i := 1204) (by decide +kernel), by decide +kernel⟩
theorem wd_1205 : Cond.instanceMethod ({ cls := "VisitHallModel", name := "comes", desc := "(II)I" }) ∈ TT := List.mem_filter.mpr ⟨List.mem_of_getElem? (i := 1205) (by decide +kernel), by decide +kernel⟩
theorem wd_1206 : Cond.selects "VisitHallModel" ({ cls := "VisitHallModel", name := "comes", desc := "(II)I" }) ({ cls := "VisitHallModel", name := "comes", desc := "(II)I" }) ∈ TT := List.mem_filter.mpr ⟨List.mem_of_getElem? (i := 1206) (by decide +kernel), by decide +kernel⟩
theorem wd_1207 : Cond.code ({ cls := "VisitHallModel", name := "comes", desc := "(II)I" }) prog_13_method_49_code 8 (Option.some FieldType.int) ∈ TT := List.mem_filter.mpr ⟨List.mem_of_getElem? (i := 1207) (by decide +kernel), by decide +kernel⟩
theorem wd_1208 : Cond.constant "VisitHallModel" 240 1664525 ∈ TT := List.mem_filter.mpr ⟨List.mem_of_getElem? (i := 1208) (by decide +kernel), by decide +kernel⟩
theorem wd_1209 : Cond.constant "VisitHallModel" 241 1013904223 ∈ TT := List.mem_filter.mpr ⟨List.mem_of_getElem? (i := 1209) (by decide +kernel), by decide +kernel⟩
theorem wd_1210 : Cond.constant "VisitHallModel" 242 16777216 ∈ TT := List.mem_filter.mpr ⟨List.mem_of_getElem? (i := 1210) (by decide +kernel), by decide +kernel⟩
theorem wd_1211 : Cond.methodLink "VisitHallLaw" 105 ({ cls := "VisitHallModel", name := "sheet", desc := "(II)I" }) ∈ TT := List.mem_filter.mpr ⟨List.mem_of_getElem? (i := 1211) (by decide +kernel), by decide +kernel⟩
theorem wd_1212 : Cond.instanceMethod ({ cls := "VisitHallModel", name := "sheet", desc := "(II)I" }) ∈ TT := List.mem_filter.mpr ⟨List.mem_of_getElem? (i := 1212) (by decide +kernel), by decide +kernel⟩
theorem wd_1213 : Cond.selects "VisitHallModel" ({ cls := "VisitHallModel", name := "sheet", desc := "(II)I" }) ({ cls := "VisitHallModel", name := "sheet", desc := "(II)I" }) ∈ TT := List.mem_filter.mpr ⟨List.mem_of_getElem? (i := 1213) (by decide +kernel), by decide +kernel⟩
theorem wd_1214 : Cond.code ({ cls := "VisitHallModel", name := "sheet", desc := "(II)I" }) prog_13_method_51_code 4 (Option.some FieldType.int) ∈ TT := List.mem_filter.mpr ⟨List.mem_of_getElem? (i := 1214) (by decide +kernel), by decide +kernel⟩
theorem wd_1215 : Cond.methodLink "VisitHallModel" 243 ({ cls := "VisitHallModel", name := "isSheet", desc := "(I)Z" }) ∈ TT := List.mem_filter.mpr ⟨List.mem_of_getElem? (i := 1215) (by decide +kernel), by decide +kernel⟩
theorem wd_1216 : Cond.static ({ cls := "VisitHallModel", name := "isSheet", desc := "(I)Z" }) ∈ TT := List.mem_filter.mpr ⟨List.mem_of_getElem? (i := 1216) (by decide +kernel), by decide +kernel⟩
theorem wd_1217 : Cond.code ({ cls := "VisitHallModel", name := "isSheet", desc := "(I)Z" }) prog_13_method_50_code 1 (Option.some FieldType.boolean) ∈ TT := List.mem_filter.mpr ⟨List.mem_of_getElem? (i := 1217) (by decide +kernel), by decide +kernel⟩
theorem wd_1218 : Cond.constant "VisitHallModel" 246 (-1000000014) ∈ TT := List.mem_filter.mpr ⟨List.mem_of_getElem? (i := 1218) (by decide +kernel), by decide +kernel⟩
theorem wd_1219 : Cond.methodLink "VisitHallLaw" 109 ({ cls := "VisitHallModel", name := "mark", desc := "(III)I" }) ∈ TT := List.mem_filter.mpr ⟨List.mem_of_getElem? (i := 1219) (by decide +kernel), by decide +kernel⟩
theorem wd_1220 : Cond.instanceMethod ({ cls := "VisitHallModel", name := "mark", desc := "(III)I" }) ∈ TT := List.mem_filter.mpr ⟨List.mem_of_getElem? (i := 1220) (by decide +kernel), by decide +kernel⟩
theorem wd_1221 : Cond.selects "VisitHallModel" ({ cls := "VisitHallModel", name := "mark", desc := "(III)I" }) ({ cls := "VisitHallModel", name := "mark", desc := "(III)I" }) ∈ TT := List.mem_filter.mpr ⟨List.mem_of_getElem? (i := 1221) (by decide +kernel), by decide +kernel⟩
theorem wd_1222 : Cond.code ({ cls := "VisitHallModel", name := "mark", desc := "(III)I" }) prog_13_method_52_code 5 (Option.some FieldType.int) ∈ TT := List.mem_filter.mpr ⟨List.mem_of_getElem? (i := 1222) (by decide +kernel), by decide +kernel⟩
theorem wd_1223 : Cond.constant "VisitHallModel" 247 (-1000000011) ∈ TT := List.mem_filter.mpr ⟨List.mem_of_getElem? (i := 1223) (by decide +kernel), by decide +kernel⟩
theorem wd_1224 : Cond.constant "VisitHallModel" 248 (-1000000013) ∈ TT := List.mem_filter.mpr ⟨List.mem_of_getElem? (i := 1224) (by decide +kernel), by decide +kernel⟩
theorem wd_1225 : Cond.methodLink "VisitHallLaw" 113 ({ cls := "VisitHallModel", name := "copy", desc := "(IIIII)I" }) ∈ TT := List.mem_filter.mpr ⟨List.mem_of_getElem? (i := 1225) (by decide +kernel), by decide +kernel⟩
theorem wd_1226 : Cond.instanceMethod ({ cls := "VisitHallModel", name := "copy", desc := "(IIIII)I" }) ∈ TT := List.mem_filter.mpr ⟨List.mem_of_getElem? (i := 1226) (by decide +kernel), by decide +kernel⟩
theorem wd_1227 : Cond.selects "VisitHallModel" ({ cls := "VisitHallModel", name := "copy", desc := "(IIIII)I" }) ({ cls := "VisitHallModel", name := "copy", desc := "(IIIII)I" }) ∈ TT := List.mem_filter.mpr ⟨List.mem_of_getElem? (i := 1227) (by decide +kernel), by decide +kernel⟩
theorem wd_1228 : Cond.code ({ cls := "VisitHallModel", name := "copy", desc := "(IIIII)I" }) prog_13_method_53_code 7 (Option.some FieldType.int) ∈ TT := List.mem_filter.mpr ⟨List.mem_of_getElem? (i := 1228) (by decide +kernel), by decide +kernel⟩
theorem wd_1229 : Cond.methodLink "VisitHallLaw" 117 ({ cls := "VisitHallModel", name := "lose", desc := "(I)I" }) ∈ TT := List.mem_filter.mpr ⟨List.mem_of_getElem? (i := 1229) (by decide +kernel), by decide +kernel⟩
theorem wd_1230 : Cond.instanceMethod ({ cls := "VisitHallModel", name := "lose", desc := "(I)I" }) ∈ TT := List.mem_filter.mpr ⟨List.mem_of_getElem? (i := 1230) (by decide +kernel), by decide +kernel⟩
theorem wd_1231 : Cond.selects "VisitHallModel" ({ cls := "VisitHallModel", name := "lose", desc := "(I)I" }) ({ cls := "VisitHallModel", name := "lose", desc := "(I)I" }) ∈ TT := List.mem_filter.mpr ⟨List.mem_of_getElem? (i := 1231) (by decide +kernel), by decide +kernel⟩
theorem wd_1232 : Cond.code ({ cls := "VisitHallModel", name := "lose", desc := "(I)I" }) prog_13_method_54_code 3 (Option.some FieldType.int) ∈ TT := List.mem_filter.mpr ⟨List.mem_of_getElem? (i := 1232) (by decide +kernel), by decide +kernel⟩
theorem wd_1233 : Cond.methodLink "VisitHallLaw" 121 ({ cls := "VisitHallModel", name := "count", desc := "(I)I" }) ∈ TT := List.mem_filter.mpr ⟨List.mem_of_getElem? (i := 1233) (by decide +kernel), by decide +kernel⟩
theorem wd_1234 : Cond.instanceMethod ({ cls := "VisitHallModel", name := "count", desc := "(I)I" }) ∈ TT := List.mem_filter.mpr ⟨List.mem_of_getElem? (i := 1234) (by decide +kernel), by decide +kernel⟩
theorem wd_1235 : Cond.selects "VisitHallModel" ({ cls := "VisitHallModel", name := "count", desc := "(I)I" }) ({ cls := "VisitHallModel", name := "count", desc := "(I)I" }) ∈ TT := List.mem_filter.mpr ⟨List.mem_of_getElem? (i := 1235) (by decide +kernel), by decide +kernel⟩
theorem wd_1236 : Cond.code ({ cls := "VisitHallModel", name := "count", desc := "(I)I" }) prog_13_method_55_code 4 (Option.some FieldType.int) ∈ TT := List.mem_filter.mpr ⟨List.mem_of_getElem? (i := 1236) (by decide +kernel), by decide +kernel⟩
theorem wd_1237 : Cond.fieldLink "java/lang/String" 9 "java/lang/String" "value" "[B" ∈ TT := List.mem_filter.mpr ⟨List.mem_of_getElem? (i := 1237) (by decide +kernel), by decide +kernel⟩
theorem wd_1238 : Cond.fieldLink "java/lang/String" 15 "java/lang/String" "coder" "B" ∈ TT := List.mem_filter.mpr ⟨List.mem_of_getElem? (i := 1238) (by decide +kernel), by decide +kernel⟩
end
section
/-! tables of steps as trees -/
theorem hnd {cc : ByteArray} {own : String} {nL : Nat} {ret : Option FieldType} {lv pc n : Nat} {x y : HOp} (h1 : HOK cc own nL ret lv pc x) (h2 : HOK cc own nL ret lv pc y) : HOK cc own nL ret lv pc (cond (Nat.blt pc n) x y) := by
  cases Nat.blt pc n
  · exact h2
  · exact h1
theorem hlf {cc : ByteArray} {own : String} {nL : Nat} {ret : Option FieldType} {lv pc n : Nat} {x : HOp} (h1 : HOK cc own nL ret lv n x) : HOK cc own nL ret lv pc (cond (Nat.beq pc n) x o_bad) := by
  cases hb : Nat.beq pc n with
  | false => exact ok_bad
  | true =>
    have e := Nat.eq_of_beq_eq_true hb
    subst e
    exact h1
/-- answers of boolean methods: two roads -/
def spZ (c : Prop) (w : HW) (σ : HS) (K : HRt) : Prop := (c → K (some (HI 1)) w σ) ∧ (¬ c → K (some (HI 0)) w σ)
theorem br2 {a b c d : Prop} (h1 : a → b) (h2 : c → d) : (a → b) ∧ (c → d) := ⟨h1, h2⟩
def sp_X10_isBelow : HSp := fun as w σ K => match as with
  | [.inl v, .inl b] => spZ (0 ≤ v ∧ v < b) w σ K
  | _ => False
/-- no loop -/
theorem mvc0 {ins : Nat → HOp} {nL n : Nat} {sp : HSp} (F : Nat) (h : ∀ as w σ q, as.length = n → sp as w σ q → wp ins (fun _ => none) q F 0 (loc0 nL as) [] w σ) : MVC ins nL n sp := fun as w σ q hl hs => ⟨fun _ => false, fun _ _ _ _ _ _ => False, 0, F, fun _ _ _ _ _ _ h _ => (Bool.false_ne_true h).elim, h as w σ q hl hs⟩
theorem dX10_isBelow_0 : decode cX10_isBelow 0 = .ok (.iload_n 0, 1) := by decide +kernel
theorem dX10_isBelow_1 : decode cX10_isBelow 1 = .ok (.ifCond .lt 12, 3) := by decide +kernel
theorem dX10_isBelow_4 : decode cX10_isBelow 4 = .ok (.iload_n 0, 1) := by decide +kernel
theorem dX10_isBelow_5 : decode cX10_isBelow 5 = .ok (.iload_n 1, 1) := by decide +kernel
theorem dX10_isBelow_6 : decode cX10_isBelow 6 = .ok (.if_icmp .ge 7, 3) := by decide +kernel
theorem dX10_isBelow_9 : decode cX10_isBelow 9 = .ok (.iconst 1, 1) := by decide +kernel
theorem dX10_isBelow_10 : decode cX10_isBelow 10 = .ok (.goto 4, 3) := by decide +kernel
theorem dX10_isBelow_13 : decode cX10_isBelow 13 = .ok (.iconst 0, 1) := by decide +kernel
theorem dX10_isBelow_14 : decode cX10_isBelow 14 = .ok (.ireturn, 1) := by decide +kernel
def ins_X10_isBelow (pc : Nat) : HOp := cond (Nat.blt pc 6) (cond (Nat.blt pc 4) (cond (Nat.blt pc 1) (cond (Nat.beq pc 0) (o_iload 0 1) o_bad) (cond (Nat.beq pc 1) (o_if (fun x => x < 0) 13 4) o_bad)) (cond (Nat.blt pc 5) (cond (Nat.beq pc 4) (o_iload 0 5) o_bad) (cond (Nat.beq pc 5) (o_iload 1 6) o_bad))) (cond (Nat.blt pc 10) (cond (Nat.blt pc 9) (cond (Nat.beq pc 6) (o_icmp (fun x y => y ≤ x) 13 9) o_bad) (cond (Nat.beq pc 9) (o_const (1) 10) o_bad)) (cond (Nat.blt pc 13) (cond (Nat.beq pc 10) (o_goto 14) o_bad) (cond (Nat.blt pc 14) (cond (Nat.beq pc 13) (o_const (0) 14) o_bad) (cond (Nat.beq pc 14) (o_zret) o_bad))))
set_option maxRecDepth 20000 in
theorem ok_X10_isBelow : HOKs cX10_isBelow RX10 2 (some .boolean) 1 ins_X10_isBelow := fun _ => hnd (hnd (hnd (hlf (ok_iload_n dX10_isBelow_0 rfl rfl)) (hlf (ok_if_lt dX10_isBelow_1 (by decide) rfl))) (hnd (hlf (ok_iload_n dX10_isBelow_4 rfl rfl)) (hlf (ok_iload_n dX10_isBelow_5 rfl rfl)))) (hnd (hnd (hlf (ok_icmp_ge dX10_isBelow_6 (by decide) rfl)) (hlf (ok_iconst dX10_isBelow_9 (by decide) rfl))) (hnd (hlf (ok_goto dX10_isBelow_10 (by decide))) (hnd (hlf (ok_iconst dX10_isBelow_13 (by decide) rfl)) (hlf (ok_zret dX10_isBelow_14)))))
end
section
theorem vc_X10_isBelow : MVC ins_X10_isBelow 2 2 sp_X10_isBelow := by
  refine mvc0 40 fun as w σ q hl hs => ?_
  unfold sp_X10_isBelow at hs
  split at hs
  · rename_i v b
    refine And.intro (fun h1 => ?_) (fun h1 => ?_)
    · refine And.intro (Or.inl rfl) (hs.2 ?_)
      intro h
      exact absurd h1 (Int32.not_lt.mpr h.1)
    · refine And.intro (fun h2 => ?_) (fun h2 => ?_)
      · refine And.intro (Or.inl rfl) (hs.2 ?_)
        intro h
        exact absurd h.2 (Int32.not_lt.mpr h2)
      · refine And.intro (Or.inr rfl) (hs.1 ⟨Int32.not_lt.mp h1, Int32.not_le.mp h2⟩)
  · exact hs.elim
theorem ct_X10_isBelow : Ctr yX10_isBelow cX10_isBelow 2 (some .boolean) 1 0 0 2 sp_X10_isBelow := ctr_of (by decide +kernel) rfl (by decide) ok_X10_isBelow vc_X10_isBelow
end
section
/-! counting, and one loop in a method -/
def cnt (p : Nat → Bool) : Nat → Nat
  | 0 => 0
  | n + 1 => cnt p n + (if p n then 1 else 0)
theorem cnt_le (p : Nat → Bool) : ∀ n, cnt p n ≤ n
  | 0 => Nat.le_refl 0
  | n + 1 => by have := cnt_le p n; unfold cnt; split <;> omega
theorem cnt_y {p : Nat → Bool} {n : Nat} (h : p n = true) : cnt p (n + 1) = cnt p n + 1 := by simp [cnt, h]
theorem cnt_n {p : Nat → Bool} {n : Nat} (h : p n = false) : cnt p (n + 1) = cnt p n := by simp [cnt, h]
def cut1 (h : Nat) (I : Nat → HKp) (N : Nat) : Nat → Option HKp := fun pc => bif Nat.beq pc h then some (fun ls st w σ => ∃ N', N' < N ∧ I N' ls st w σ) else none
def cut1A (h : Nat) (I : Nat → HKp) : Nat → Option HKp := fun pc => bif Nat.beq pc h then some (fun ls st w σ => ∃ N, I N ls st w σ) else none
theorem mvc1 {ins : Nat → HOp} {nL n : Nat} {sp : HSp} (h F : Nat) (H : ∀ as w σ q, as.length = n → sp as w σ q → ∃ I : Nat → HKp, (∀ N ls st w' σ', I N ls st w' σ' → ins h (wp ins (cut1 h I N) q F) q ls st w' σ') ∧ wp ins (cut1A h I) q F 0 (loc0 nL as) [] w σ) : MVC ins nL n sp := by
  intro as w σ q hl hs
  obtain ⟨I, h1, h2⟩ := H as w σ q hl hs
  refine ⟨fun pc => Nat.beq pc h, fun _ => I, F, F, fun N pc ls st w' σ' hh hi => ?_, h2⟩
  have e := Nat.eq_of_beq_eq_true hh
  subst e
  exact h1 N ls st w' σ' hi
def Bk (w : HW) (σ : HS) (n : Nat) : Prop := n ≤ 100 ∧ σ 0 0 1 = nI n ∧ ∀ j, j < n → w.2 18 j = some j
theorem lp_end {a n : Nat} {z : Int32} (hz : z = nI n) (ha : a ≤ n) (h : z ≤ nI a) (hn : n < 2 ^ 31 := by omega) : a = n := by
  subst hz
  have := (nI_leI hn (by omega)).mp h
  omega
theorem lp_go {a n : Nat} {z : Int32} (hz : z = nI n) (ha : a ≤ n) (h : ¬ z ≤ nI a) (hn : n < 2 ^ 31 := by omega) : a < n := by
  subst hz
  rcases Nat.lt_or_ge a n with q | q
  · exact q
  · exact absurd (nI_le q (by omega)) h
theorem ra_at {w : HW} {k i j : Nat} {o : Option Nat} (h : w.2 k (nI i).toNatClampNeg = o) (hr : w.2 k i = some j) (hi : i < 2 ^ 31 := by omega) : o = some j := by
  rw [← h, nI_clamp hi, hr]
def sp_X0_inState : HSp := fun as w σ K => match as with
  | [.inr (.inl (0, some 0)), .inl x] => ∃ n, Bk w σ n ∧ K (some (HI (nI (cnt (fun i => decide (σ 9 i 6 = x)) n)))) w σ
  | _ => False
theorem dX0_inState_0 : decode cX0_inState 0 = .ok (.iconst 0, 1) := by decide +kernel
theorem dX0_inState_1 : decode cX0_inState 1 = .ok (.istore_n 2, 1) := by decide +kernel
theorem dX0_inState_2 : decode cX0_inState 2 = .ok (.iconst 0, 1) := by decide +kernel
theorem dX0_inState_3 : decode cX0_inState 3 = .ok (.istore_n 3, 1) := by decide +kernel
theorem dX0_inState_4 : decode cX0_inState 4 = .ok (.iload_n 3, 1) := by decide +kernel
theorem dX0_inState_5 : decode cX0_inState 5 = .ok (.aload_n 0, 1) := by decide +kernel
theorem dX0_inState_6 : decode cX0_inState 6 = .ok (.getfield 17, 3) := by decide +kernel
theorem dX0_inState_9 : decode cX0_inState 9 = .ok (.if_icmp .ge 30, 3) := by decide +kernel
theorem dX0_inState_12 : decode cX0_inState 12 = .ok (.iload_n 2, 1) := by decide +kernel
theorem dX0_inState_13 : decode cX0_inState 13 = .ok (.aload_n 0, 1) := by decide +kernel
theorem dX0_inState_14 : decode cX0_inState 14 = .ok (.getfield 13, 3) := by decide +kernel
theorem dX0_inState_17 : decode cX0_inState 17 = .ok (.iload_n 3, 1) := by decide +kernel
theorem dX0_inState_18 : decode cX0_inState 18 = .ok (.aaload, 1) := by decide +kernel
theorem dX0_inState_19 : decode cX0_inState 19 = .ok (.getfield 30, 3) := by decide +kernel
theorem dX0_inState_22 : decode cX0_inState 22 = .ok (.iload_n 1, 1) := by decide +kernel
theorem dX0_inState_23 : decode cX0_inState 23 = .ok (.if_icmp .ne 7, 3) := by decide +kernel
theorem dX0_inState_26 : decode cX0_inState 26 = .ok (.iconst 1, 1) := by decide +kernel
theorem dX0_inState_27 : decode cX0_inState 27 = .ok (.goto 4, 3) := by decide +kernel
theorem dX0_inState_30 : decode cX0_inState 30 = .ok (.iconst 0, 1) := by decide +kernel
theorem dX0_inState_31 : decode cX0_inState 31 = .ok (.iadd, 1) := by decide +kernel
theorem dX0_inState_32 : decode cX0_inState 32 = .ok (.istore_n 2, 1) := by decide +kernel
theorem dX0_inState_33 : decode cX0_inState 33 = .ok (.iinc 3 1, 3) := by decide +kernel
theorem dX0_inState_36 : decode cX0_inState 36 = .ok (.goto (-32), 3) := by decide +kernel
theorem dX0_inState_39 : decode cX0_inState 39 = .ok (.iload_n 2, 1) := by decide +kernel
theorem dX0_inState_40 : decode cX0_inState 40 = .ok (.ireturn, 1) := by decide +kernel
def ins_X0_inState (pc : Nat) : HOp := cond (Nat.blt pc 18) (cond (Nat.blt pc 6) (cond (Nat.blt pc 3) (cond (Nat.blt pc 1) (cond (Nat.beq pc 0) (o_const (0) 1) o_bad) (cond (Nat.blt pc 2) (cond (Nat.beq pc 1) (o_istore 2 2) o_bad) (cond (Nat.beq pc 2) (o_const (0) 3) o_bad))) (cond (Nat.blt pc 4) (cond (Nat.beq pc 3) (o_istore 3 4) o_bad) (cond (Nat.blt pc 5) (cond (Nat.beq pc 4) (o_iload 3 5) o_bad) (cond (Nat.beq pc 5) (o_aload 0 6) o_bad)))) (cond (Nat.blt pc 13) (cond (Nat.blt pc 9) (cond (Nat.beq pc 6) (o_getf 0 1 9) o_bad) (cond (Nat.blt pc 12) (cond (Nat.beq pc 9) (o_icmp (fun x y => y ≤ x) 39 12) o_bad) (cond (Nat.beq pc 12) (o_iload 2 13) o_bad))) (cond (Nat.blt pc 14) (cond (Nat.beq pc 13) (o_aload 0 14) o_bad) (cond (Nat.blt pc 17) (cond (Nat.beq pc 14) (o_getf 0 0 17) o_bad) (cond (Nat.beq pc 17) (o_iload 3 18) o_bad))))) (cond (Nat.blt pc 30) (cond (Nat.blt pc 23) (cond (Nat.blt pc 19) (cond (Nat.beq pc 18) (o_aald 19) o_bad) (cond (Nat.blt pc 22) (cond (Nat.beq pc 19) (o_getf 9 6 22) o_bad) (cond (Nat.beq pc 22) (o_iload 1 23) o_bad))) (cond (Nat.blt pc 26) (cond (Nat.beq pc 23) (o_icmp (fun x y => x = y) 26 30) o_bad) (cond (Nat.blt pc 27) (cond (Nat.beq pc 26) (o_const (1) 27) o_bad) (cond (Nat.beq pc 27) (o_goto 31) o_bad)))) (cond (Nat.blt pc 33) (cond (Nat.blt pc 31) (cond (Nat.beq pc 30) (o_const (0) 31) o_bad) (cond (Nat.blt pc 32) (cond (Nat.beq pc 31) (o_bin (fun x y => x + y) 32) o_bad) (cond (Nat.beq pc 32) (o_istore 2 33) o_bad))) (cond (Nat.blt pc 39) (cond (Nat.blt pc 36) (cond (Nat.beq pc 33) (o_iinc 3 (1) 36) o_bad) (cond (Nat.beq pc 36) (o_goto 4) o_bad)) (cond (Nat.blt pc 40) (cond (Nat.beq pc 39) (o_iload 2 40) o_bad) (cond (Nat.beq pc 40) (o_iret) o_bad)))))
set_option maxRecDepth 20000 in
theorem ok_X0_inState : HOKs cX0_inState RX0 4 (some .int) 1 ins_X0_inState := fun _ => hnd (hnd (hnd (hnd (hlf (ok_iconst dX0_inState_0 (by decide) rfl)) (hnd (hlf (ok_istore_n dX0_inState_1 rfl (by decide) rfl)) (hlf (ok_iconst dX0_inState_2 (by decide) rfl)))) (hnd (hlf (ok_istore_n dX0_inState_3 rfl (by decide) rfl)) (hnd (hlf (ok_iload_n dX0_inState_4 rfl rfl)) (hlf (ok_aload_n dX0_inState_5 rfl rfl))))) (hnd (hnd (hlf (ok_getf (C := RX0) (T := TX0) dX0_inState_6 rfl rfl (by decide) rfl inX0 wd_149 rfl)) (hnd (hlf (ok_icmp_ge dX0_inState_9 (by decide) rfl)) (hlf (ok_iload_n dX0_inState_12 rfl rfl)))) (hnd (hlf (ok_aload_n dX0_inState_13 rfl rfl)) (hnd (hlf (ok_getf (C := RX0) (T := TX0) dX0_inState_14 rfl rfl (by decide) rfl inX0 wd_146 rfl)) (hlf (ok_iload_n dX0_inState_17 rfl rfl)))))) (hnd (hnd (hnd (hlf (ok_aald dX0_inState_18 rfl)) (hnd (hlf (ok_getfN (C := RX9) (T := TX9) dX0_inState_19 rfl rfl (by decide) rfl inX9 wd_264 rfl)) (hlf (ok_iload_n dX0_inState_22 rfl rfl)))) (hnd (hlf (ok_icmp_ne dX0_inState_23 (by decide) rfl)) (hnd (hlf (ok_iconst dX0_inState_26 (by decide) rfl)) (hlf (ok_goto dX0_inState_27 (by decide)))))) (hnd (hnd (hlf (ok_iconst dX0_inState_30 (by decide) rfl)) (hnd (hlf (ok_iadd dX0_inState_31 rfl)) (hlf (ok_istore_n dX0_inState_32 rfl (by decide) rfl)))) (hnd (hnd (hlf (ok_iinc dX0_inState_33 (by decide) (by decide) rfl)) (hlf (ok_goto dX0_inState_36 (by decide)))) (hnd (hlf (ok_iload_n dX0_inState_39 rfl rfl)) (hlf (ok_iret dX0_inState_40))))))

theorem vc_X0_inState : MVC ins_X0_inState 4 2 sp_X0_inState := by
  refine mvc1 4 60 fun as w σ q hl hs => ?_
  unfold sp_X0_inState at hs
  split at hs
  · rename_i x
    obtain ⟨n, ⟨hn, hsz, hra⟩, hq⟩ := hs
    refine ⟨fun N ls st w' σ' => ∃ (i : Nat) (u v : Int32), i ≤ n ∧ N = n - i ∧ u = nI (cnt (fun i => decide (σ 9 i 6 = x)) i) ∧ v = nI i ∧ ls = [some (HR 0 0), some (HI x), some (HI u), some (HI v)] ∧ st = [] ∧ w = w' ∧ σ = σ', ?_, ?_⟩
    · rintro N ls st w' σ' ⟨i, u, v, hi, rfl, rfl, rfl, rfl, rfl, rfl, rfl⟩
      refine And.intro (fun h1 => ?_) (fun h1 => ?_)
      · obtain rfl := lp_end hsz hi h1
        exact hq
      · have hlt := lp_go hsz hi h1
        refine And.intro (vp_in_nI (N := 100) (by omega) (by decide)) (fun o ho => ?_)
        obtain rfl := ra_at ho (hra i hlt)
        refine And.intro (fun h2 => ?_) (fun h2 => ?_)
        · exact ⟨n - (i + 1), by omega, i + 1, _, _, hlt, rfl, by rw [cnt_y (decide_eq_true h2)]; exact nI_1 _, nI_1 i, rfl, rfl, rfl, rfl⟩
        · exact ⟨n - (i + 1), by omega, i + 1, _, _, hlt, rfl, by rw [cnt_n (decide_eq_false h2)]; exact Int32.add_zero _, nI_1 i, rfl, rfl, rfl, rfl⟩
    · exact ⟨n, 0, 0, 0, Nat.zero_le _, rfl, rfl, rfl, rfl, rfl, rfl, rfl⟩
  · exact hs.elim
theorem ct_X0_inState : Ctr yX0_inState cX0_inState 4 (some .int) 1 0 0 2 sp_X0_inState := ctr_of (by decide +kernel) rfl (by decide) ok_X0_inState vc_X0_inState
end
section
/-! VisitHall.Visit -/
abbrev atL (σ : HS) (i : Nat) (day half : Int32) : Prop := σ 9 i 6 = 0 ∧ σ 9 i 7 = 0 ∧ σ 9 i 2 = day ∧ ¬ half < σ 9 i 3 ∧ ¬ σ 9 i 3 + σ 9 i 4 ≤ half
abbrev shH (σ : HS) (i j : Nat) : Prop := σ 9 i 2 = σ 9 j 2 ∧ ¬ σ 9 j 3 + σ 9 j 4 ≤ σ 9 i 3 ∧ ¬ σ 9 i 3 + σ 9 i 4 ≤ σ 9 j 3
abbrev shP (σ : HS) (i j : Nat) : Prop := σ 9 i 0 = σ 9 j 0 ∨ ¬ σ 9 i 1 &&& σ 9 j 1 = 0
def sp_X9_isLetAt : HSp := fun as w σ K => match as with
  | [.inr (.inl (9, some i)), .inl day, .inl half] => spZ (atL σ i day half) w σ K
  | _ => False
theorem dX9_isLetAt_0 : decode cX9_isLetAt 0 = .ok (.aload_n 0, 1) := by decide +kernel
theorem dX9_isLetAt_1 : decode cX9_isLetAt 1 = .ok (.getfield 9, 3) := by decide +kernel
theorem dX9_isLetAt_4 : decode cX9_isLetAt 4 = .ok (.ifCond .ne 43, 3) := by decide +kernel
theorem dX9_isLetAt_7 : decode cX9_isLetAt 7 = .ok (.aload_n 0, 1) := by decide +kernel
theorem dX9_isLetAt_8 : decode cX9_isLetAt 8 = .ok (.getfield 34, 3) := by decide +kernel
theorem dX9_isLetAt_11 : decode cX9_isLetAt 11 = .ok (.ifCond .ne 36, 3) := by decide +kernel
theorem dX9_isLetAt_14 : decode cX9_isLetAt 14 = .ok (.aload_n 0, 1) := by decide +kernel
theorem dX9_isLetAt_15 : decode cX9_isLetAt 15 = .ok (.getfield 21, 3) := by decide +kernel
theorem dX9_isLetAt_18 : decode cX9_isLetAt 18 = .ok (.iload_n 1, 1) := by decide +kernel
theorem dX9_isLetAt_19 : decode cX9_isLetAt 19 = .ok (.if_icmp .ne 28, 3) := by decide +kernel
theorem dX9_isLetAt_22 : decode cX9_isLetAt 22 = .ok (.iload_n 2, 1) := by decide +kernel
theorem dX9_isLetAt_23 : decode cX9_isLetAt 23 = .ok (.aload_n 0, 1) := by decide +kernel
theorem dX9_isLetAt_24 : decode cX9_isLetAt 24 = .ok (.getfield 24, 3) := by decide +kernel
theorem dX9_isLetAt_27 : decode cX9_isLetAt 27 = .ok (.if_icmp .lt 20, 3) := by decide +kernel
theorem dX9_isLetAt_30 : decode cX9_isLetAt 30 = .ok (.iload_n 2, 1) := by decide +kernel
theorem dX9_isLetAt_31 : decode cX9_isLetAt 31 = .ok (.aload_n 0, 1) := by decide +kernel
theorem dX9_isLetAt_32 : decode cX9_isLetAt 32 = .ok (.getfield 24, 3) := by decide +kernel
theorem dX9_isLetAt_35 : decode cX9_isLetAt 35 = .ok (.aload_n 0, 1) := by decide +kernel
theorem dX9_isLetAt_36 : decode cX9_isLetAt 36 = .ok (.getfield 27, 3) := by decide +kernel
theorem dX9_isLetAt_39 : decode cX9_isLetAt 39 = .ok (.iadd, 1) := by decide +kernel
theorem dX9_isLetAt_40 : decode cX9_isLetAt 40 = .ok (.if_icmp .ge 7, 3) := by decide +kernel
theorem dX9_isLetAt_43 : decode cX9_isLetAt 43 = .ok (.iconst 1, 1) := by decide +kernel
theorem dX9_isLetAt_44 : decode cX9_isLetAt 44 = .ok (.goto 4, 3) := by decide +kernel
theorem dX9_isLetAt_47 : decode cX9_isLetAt 47 = .ok (.iconst 0, 1) := by decide +kernel
theorem dX9_isLetAt_48 : decode cX9_isLetAt 48 = .ok (.ireturn, 1) := by decide +kernel
def ins_X9_isLetAt (pc : Nat) : HOp := cond (Nat.blt pc 24) (cond (Nat.blt pc 14) (cond (Nat.blt pc 7) (cond (Nat.blt pc 1) (cond (Nat.beq pc 0) (o_aload 0 1) o_bad) (cond (Nat.blt pc 4) (cond (Nat.beq pc 1) (o_getf 9 6 4) o_bad) (cond (Nat.beq pc 4) (o_if (fun x => x = 0) 7 47) o_bad))) (cond (Nat.blt pc 8) (cond (Nat.beq pc 7) (o_aload 0 8) o_bad) (cond (Nat.blt pc 11) (cond (Nat.beq pc 8) (o_getf 9 7 11) o_bad) (cond (Nat.beq pc 11) (o_if (fun x => x = 0) 14 47) o_bad)))) (cond (Nat.blt pc 19) (cond (Nat.blt pc 15) (cond (Nat.beq pc 14) (o_aload 0 15) o_bad) (cond (Nat.blt pc 18) (cond (Nat.beq pc 15) (o_getf 9 2 18) o_bad) (cond (Nat.beq pc 18) (o_iload 1 19) o_bad))) (cond (Nat.blt pc 22) (cond (Nat.beq pc 19) (o_icmp (fun x y => x = y) 22 47) o_bad) (cond (Nat.blt pc 23) (cond (Nat.beq pc 22) (o_iload 2 23) o_bad) (cond (Nat.beq pc 23) (o_aload 0 24) o_bad))))) (cond (Nat.blt pc 36) (cond (Nat.blt pc 31) (cond (Nat.blt pc 27) (cond (Nat.beq pc 24) (o_getf 9 3 27) o_bad) (cond (Nat.blt pc 30) (cond (Nat.beq pc 27) (o_icmp (fun x y => x < y) 47 30) o_bad) (cond (Nat.beq pc 30) (o_iload 2 31) o_bad))) (cond (Nat.blt pc 32) (cond (Nat.beq pc 31) (o_aload 0 32) o_bad) (cond (Nat.blt pc 35) (cond (Nat.beq pc 32) (o_getf 9 3 35) o_bad) (cond (Nat.beq pc 35) (o_aload 0 36) o_bad)))) (cond (Nat.blt pc 43) (cond (Nat.blt pc 39) (cond (Nat.beq pc 36) (o_getf 9 4 39) o_bad) (cond (Nat.blt pc 40) (cond (Nat.beq pc 39) (o_bin (fun x y => x + y) 40) o_bad) (cond (Nat.beq pc 40) (o_icmp (fun x y => y ≤ x) 47 43) o_bad))) (cond (Nat.blt pc 47) (cond (Nat.blt pc 44) (cond (Nat.beq pc 43) (o_const (1) 44) o_bad) (cond (Nat.beq pc 44) (o_goto 48) o_bad)) (cond (Nat.blt pc 48) (cond (Nat.beq pc 47) (o_const (0) 48) o_bad) (cond (Nat.beq pc 48) (o_zret) o_bad)))))
set_option maxRecDepth 20000 in
theorem ok_X9_isLetAt : HOKs cX9_isLetAt RX9 3 (some .boolean) 1 ins_X9_isLetAt := fun _ => hnd (hnd (hnd (hnd (hlf (ok_aload_n dX9_isLetAt_0 rfl rfl)) (hnd (hlf (ok_getf (C := RX9) (T := TX9) dX9_isLetAt_1 rfl rfl (by decide) rfl inX9 wd_261 rfl)) (hlf (ok_if_ne dX9_isLetAt_4 (by decide) rfl)))) (hnd (hlf (ok_aload_n dX9_isLetAt_7 rfl rfl)) (hnd (hlf (ok_getf (C := RX9) (T := TX9) dX9_isLetAt_8 rfl rfl (by decide) rfl inX9 wd_266 rfl)) (hlf (ok_if_ne dX9_isLetAt_11 (by decide) rfl))))) (hnd (hnd (hlf (ok_aload_n dX9_isLetAt_14 rfl rfl)) (hnd (hlf (ok_getf (C := RX9) (T := TX9) dX9_isLetAt_15 rfl rfl (by decide) rfl inX9 wd_245 rfl)) (hlf (ok_iload_n dX9_isLetAt_18 rfl rfl)))) (hnd (hlf (ok_icmp_ne dX9_isLetAt_19 (by decide) rfl)) (hnd (hlf (ok_iload_n dX9_isLetAt_22 rfl rfl)) (hlf (ok_aload_n dX9_isLetAt_23 rfl rfl)))))) (hnd (hnd (hnd (hlf (ok_getf (C := RX9) (T := TX9) dX9_isLetAt_24 rfl rfl (by decide) rfl inX9 wd_250 rfl)) (hnd (hlf (ok_icmp_lt dX9_isLetAt_27 (by decide) rfl)) (hlf (ok_iload_n dX9_isLetAt_30 rfl rfl)))) (hnd (hlf (ok_aload_n dX9_isLetAt_31 rfl rfl)) (hnd (hlf (ok_getf (C := RX9) (T := TX9) dX9_isLetAt_32 rfl rfl (by decide) rfl inX9 wd_250 rfl)) (hlf (ok_aload_n dX9_isLetAt_35 rfl rfl))))) (hnd (hnd (hlf (ok_getf (C := RX9) (T := TX9) dX9_isLetAt_36 rfl rfl (by decide) rfl inX9 wd_254 rfl)) (hnd (hlf (ok_iadd dX9_isLetAt_39 rfl)) (hlf (ok_icmp_ge dX9_isLetAt_40 (by decide) rfl)))) (hnd (hnd (hlf (ok_iconst dX9_isLetAt_43 (by decide) rfl)) (hlf (ok_goto dX9_isLetAt_44 (by decide)))) (hnd (hlf (ok_iconst dX9_isLetAt_47 (by decide) rfl)) (hlf (ok_zret dX9_isLetAt_48))))))

theorem vc_X9_isLetAt : MVC ins_X9_isLetAt 3 3 sp_X9_isLetAt := by
  refine mvc0 60 fun as w σ q hl hs => ?_
  unfold sp_X9_isLetAt at hs
  split at hs
  rotate_left
  · exact hs.elim
  rename_i i day half
  clear hl
  repeat' (first | apply br2 | intro _)
  all_goals first | exact ⟨Or.inl rfl, hs.2 (by grind)⟩ | exact ⟨Or.inr rfl, hs.1 (by grind)⟩
theorem ct_X9_isLetAt : Ctr yX9_isLetAt cX9_isLetAt 3 (some .boolean) 1 0 0 3 sp_X9_isLetAt := ctr_of (by decide +kernel) rfl (by decide) ok_X9_isLetAt vc_X9_isLetAt

def sp_X9_sharesHalfWith : HSp := fun as w σ K => match as with
  | [.inr (.inl (9, some i)), .inr (.inl (9, some j))] => spZ (shH σ i j) w σ K
  | _ => False
theorem dX9_sharesHalfWith_0 : decode cX9_sharesHalfWith 0 = .ok (.aload_n 0, 1) := by decide +kernel
theorem dX9_sharesHalfWith_1 : decode cX9_sharesHalfWith 1 = .ok (.getfield 21, 3) := by decide +kernel
theorem dX9_sharesHalfWith_4 : decode cX9_sharesHalfWith 4 = .ok (.aload_n 1, 1) := by decide +kernel
theorem dX9_sharesHalfWith_5 : decode cX9_sharesHalfWith 5 = .ok (.getfield 21, 3) := by decide +kernel
theorem dX9_sharesHalfWith_8 : decode cX9_sharesHalfWith 8 = .ok (.if_icmp .ne 39, 3) := by decide +kernel
theorem dX9_sharesHalfWith_11 : decode cX9_sharesHalfWith 11 = .ok (.aload_n 0, 1) := by decide +kernel
theorem dX9_sharesHalfWith_12 : decode cX9_sharesHalfWith 12 = .ok (.getfield 24, 3) := by decide +kernel
theorem dX9_sharesHalfWith_15 : decode cX9_sharesHalfWith 15 = .ok (.aload_n 1, 1) := by decide +kernel
theorem dX9_sharesHalfWith_16 : decode cX9_sharesHalfWith 16 = .ok (.getfield 24, 3) := by decide +kernel
theorem dX9_sharesHalfWith_19 : decode cX9_sharesHalfWith 19 = .ok (.aload_n 1, 1) := by decide +kernel
theorem dX9_sharesHalfWith_20 : decode cX9_sharesHalfWith 20 = .ok (.getfield 27, 3) := by decide +kernel
theorem dX9_sharesHalfWith_23 : decode cX9_sharesHalfWith 23 = .ok (.iadd, 1) := by decide +kernel
theorem dX9_sharesHalfWith_24 : decode cX9_sharesHalfWith 24 = .ok (.if_icmp .ge 23, 3) := by decide +kernel
theorem dX9_sharesHalfWith_27 : decode cX9_sharesHalfWith 27 = .ok (.aload_n 1, 1) := by decide +kernel
theorem dX9_sharesHalfWith_28 : decode cX9_sharesHalfWith 28 = .ok (.getfield 24, 3) := by decide +kernel
theorem dX9_sharesHalfWith_31 : decode cX9_sharesHalfWith 31 = .ok (.aload_n 0, 1) := by decide +kernel
theorem dX9_sharesHalfWith_32 : decode cX9_sharesHalfWith 32 = .ok (.getfield 24, 3) := by decide +kernel
theorem dX9_sharesHalfWith_35 : decode cX9_sharesHalfWith 35 = .ok (.aload_n 0, 1) := by decide +kernel
theorem dX9_sharesHalfWith_36 : decode cX9_sharesHalfWith 36 = .ok (.getfield 27, 3) := by decide +kernel
theorem dX9_sharesHalfWith_39 : decode cX9_sharesHalfWith 39 = .ok (.iadd, 1) := by decide +kernel
theorem dX9_sharesHalfWith_40 : decode cX9_sharesHalfWith 40 = .ok (.if_icmp .ge 7, 3) := by decide +kernel
theorem dX9_sharesHalfWith_43 : decode cX9_sharesHalfWith 43 = .ok (.iconst 1, 1) := by decide +kernel
theorem dX9_sharesHalfWith_44 : decode cX9_sharesHalfWith 44 = .ok (.goto 4, 3) := by decide +kernel
theorem dX9_sharesHalfWith_47 : decode cX9_sharesHalfWith 47 = .ok (.iconst 0, 1) := by decide +kernel
theorem dX9_sharesHalfWith_48 : decode cX9_sharesHalfWith 48 = .ok (.ireturn, 1) := by decide +kernel
def ins_X9_sharesHalfWith (pc : Nat) : HOp := cond (Nat.blt pc 24) (cond (Nat.blt pc 12) (cond (Nat.blt pc 5) (cond (Nat.blt pc 1) (cond (Nat.beq pc 0) (o_aload 0 1) o_bad) (cond (Nat.blt pc 4) (cond (Nat.beq pc 1) (o_getf 9 2 4) o_bad) (cond (Nat.beq pc 4) (o_aload 1 5) o_bad))) (cond (Nat.blt pc 8) (cond (Nat.beq pc 5) (o_getf 9 2 8) o_bad) (cond (Nat.blt pc 11) (cond (Nat.beq pc 8) (o_icmp (fun x y => x = y) 11 47) o_bad) (cond (Nat.beq pc 11) (o_aload 0 12) o_bad)))) (cond (Nat.blt pc 19) (cond (Nat.blt pc 15) (cond (Nat.beq pc 12) (o_getf 9 3 15) o_bad) (cond (Nat.blt pc 16) (cond (Nat.beq pc 15) (o_aload 1 16) o_bad) (cond (Nat.beq pc 16) (o_getf 9 3 19) o_bad))) (cond (Nat.blt pc 20) (cond (Nat.beq pc 19) (o_aload 1 20) o_bad) (cond (Nat.blt pc 23) (cond (Nat.beq pc 20) (o_getf 9 4 23) o_bad) (cond (Nat.beq pc 23) (o_bin (fun x y => x + y) 24) o_bad))))) (cond (Nat.blt pc 36) (cond (Nat.blt pc 31) (cond (Nat.blt pc 27) (cond (Nat.beq pc 24) (o_icmp (fun x y => y ≤ x) 47 27) o_bad) (cond (Nat.blt pc 28) (cond (Nat.beq pc 27) (o_aload 1 28) o_bad) (cond (Nat.beq pc 28) (o_getf 9 3 31) o_bad))) (cond (Nat.blt pc 32) (cond (Nat.beq pc 31) (o_aload 0 32) o_bad) (cond (Nat.blt pc 35) (cond (Nat.beq pc 32) (o_getf 9 3 35) o_bad) (cond (Nat.beq pc 35) (o_aload 0 36) o_bad)))) (cond (Nat.blt pc 43) (cond (Nat.blt pc 39) (cond (Nat.beq pc 36) (o_getf 9 4 39) o_bad) (cond (Nat.blt pc 40) (cond (Nat.beq pc 39) (o_bin (fun x y => x + y) 40) o_bad) (cond (Nat.beq pc 40) (o_icmp (fun x y => y ≤ x) 47 43) o_bad))) (cond (Nat.blt pc 47) (cond (Nat.blt pc 44) (cond (Nat.beq pc 43) (o_const (1) 44) o_bad) (cond (Nat.beq pc 44) (o_goto 48) o_bad)) (cond (Nat.blt pc 48) (cond (Nat.beq pc 47) (o_const (0) 48) o_bad) (cond (Nat.beq pc 48) (o_zret) o_bad)))))
set_option maxRecDepth 20000 in
theorem ok_X9_sharesHalfWith : HOKs cX9_sharesHalfWith RX9 2 (some .boolean) 1 ins_X9_sharesHalfWith := fun _ => hnd (hnd (hnd (hnd (hlf (ok_aload_n dX9_sharesHalfWith_0 rfl rfl)) (hnd (hlf (ok_getf (C := RX9) (T := TX9) dX9_sharesHalfWith_1 rfl rfl (by decide) rfl inX9 wd_245 rfl)) (hlf (ok_aload_n dX9_sharesHalfWith_4 rfl rfl)))) (hnd (hlf (ok_getf (C := RX9) (T := TX9) dX9_sharesHalfWith_5 rfl rfl (by decide) rfl inX9 wd_245 rfl)) (hnd (hlf (ok_icmp_ne dX9_sharesHalfWith_8 (by decide) rfl)) (hlf (ok_aload_n dX9_sharesHalfWith_11 rfl rfl))))) (hnd (hnd (hlf (ok_getf (C := RX9) (T := TX9) dX9_sharesHalfWith_12 rfl rfl (by decide) rfl inX9 wd_250 rfl)) (hnd (hlf (ok_aload_n dX9_sharesHalfWith_15 rfl rfl)) (hlf (ok_getf (C := RX9) (T := TX9) dX9_sharesHalfWith_16 rfl rfl (by decide) rfl inX9 wd_250 rfl)))) (hnd (hlf (ok_aload_n dX9_sharesHalfWith_19 rfl rfl)) (hnd (hlf (ok_getf (C := RX9) (T := TX9) dX9_sharesHalfWith_20 rfl rfl (by decide) rfl inX9 wd_254 rfl)) (hlf (ok_iadd dX9_sharesHalfWith_23 rfl)))))) (hnd (hnd (hnd (hlf (ok_icmp_ge dX9_sharesHalfWith_24 (by decide) rfl)) (hnd (hlf (ok_aload_n dX9_sharesHalfWith_27 rfl rfl)) (hlf (ok_getf (C := RX9) (T := TX9) dX9_sharesHalfWith_28 rfl rfl (by decide) rfl inX9 wd_250 rfl)))) (hnd (hlf (ok_aload_n dX9_sharesHalfWith_31 rfl rfl)) (hnd (hlf (ok_getf (C := RX9) (T := TX9) dX9_sharesHalfWith_32 rfl rfl (by decide) rfl inX9 wd_250 rfl)) (hlf (ok_aload_n dX9_sharesHalfWith_35 rfl rfl))))) (hnd (hnd (hlf (ok_getf (C := RX9) (T := TX9) dX9_sharesHalfWith_36 rfl rfl (by decide) rfl inX9 wd_254 rfl)) (hnd (hlf (ok_iadd dX9_sharesHalfWith_39 rfl)) (hlf (ok_icmp_ge dX9_sharesHalfWith_40 (by decide) rfl)))) (hnd (hnd (hlf (ok_iconst dX9_sharesHalfWith_43 (by decide) rfl)) (hlf (ok_goto dX9_sharesHalfWith_44 (by decide)))) (hnd (hlf (ok_iconst dX9_sharesHalfWith_47 (by decide) rfl)) (hlf (ok_zret dX9_sharesHalfWith_48))))))

theorem vc_X9_sharesHalfWith : MVC ins_X9_sharesHalfWith 2 2 sp_X9_sharesHalfWith := by
  refine mvc0 60 fun as w σ q hl hs => ?_
  unfold sp_X9_sharesHalfWith at hs
  split at hs
  rotate_left
  · exact hs.elim
  rename_i i j
  clear hl
  repeat' (first | apply br2 | intro _)
  all_goals first | exact ⟨Or.inl rfl, hs.2 (by grind)⟩ | exact ⟨Or.inr rfl, hs.1 (by grind)⟩
theorem ct_X9_sharesHalfWith : Ctr yX9_sharesHalfWith cX9_sharesHalfWith 2 (some .boolean) 1 0 0 2 sp_X9_sharesHalfWith := ctr_of (by decide +kernel) rfl (by decide) ok_X9_sharesHalfWith vc_X9_sharesHalfWith

def sp_X9_sharesPeopleWith : HSp := fun as w σ K => match as with
  | [.inr (.inl (9, some i)), .inr (.inl (9, some j))] => spZ (shP σ i j) w σ K
  | _ => False
theorem dX9_sharesPeopleWith_0 : decode cX9_sharesPeopleWith 0 = .ok (.aload_n 0, 1) := by decide +kernel
theorem dX9_sharesPeopleWith_1 : decode cX9_sharesPeopleWith 1 = .ok (.getfield 15, 3) := by decide +kernel
theorem dX9_sharesPeopleWith_4 : decode cX9_sharesPeopleWith 4 = .ok (.aload_n 1, 1) := by decide +kernel
theorem dX9_sharesPeopleWith_5 : decode cX9_sharesPeopleWith 5 = .ok (.getfield 15, 3) := by decide +kernel
theorem dX9_sharesPeopleWith_8 : decode cX9_sharesPeopleWith 8 = .ok (.if_icmp .eq 15, 3) := by decide +kernel
theorem dX9_sharesPeopleWith_11 : decode cX9_sharesPeopleWith 11 = .ok (.aload_n 0, 1) := by decide +kernel
theorem dX9_sharesPeopleWith_12 : decode cX9_sharesPeopleWith 12 = .ok (.getfield 18, 3) := by decide +kernel
theorem dX9_sharesPeopleWith_15 : decode cX9_sharesPeopleWith 15 = .ok (.aload_n 1, 1) := by decide +kernel
theorem dX9_sharesPeopleWith_16 : decode cX9_sharesPeopleWith 16 = .ok (.getfield 18, 3) := by decide +kernel
theorem dX9_sharesPeopleWith_19 : decode cX9_sharesPeopleWith 19 = .ok (.iand, 1) := by decide +kernel
theorem dX9_sharesPeopleWith_20 : decode cX9_sharesPeopleWith 20 = .ok (.ifCond .eq 7, 3) := by decide +kernel
theorem dX9_sharesPeopleWith_23 : decode cX9_sharesPeopleWith 23 = .ok (.iconst 1, 1) := by decide +kernel
theorem dX9_sharesPeopleWith_24 : decode cX9_sharesPeopleWith 24 = .ok (.goto 4, 3) := by decide +kernel
theorem dX9_sharesPeopleWith_27 : decode cX9_sharesPeopleWith 27 = .ok (.iconst 0, 1) := by decide +kernel
theorem dX9_sharesPeopleWith_28 : decode cX9_sharesPeopleWith 28 = .ok (.ireturn, 1) := by decide +kernel
def ins_X9_sharesPeopleWith (pc : Nat) : HOp := cond (Nat.blt pc 15) (cond (Nat.blt pc 5) (cond (Nat.blt pc 1) (cond (Nat.beq pc 0) (o_aload 0 1) o_bad) (cond (Nat.blt pc 4) (cond (Nat.beq pc 1) (o_getf 9 0 4) o_bad) (cond (Nat.beq pc 4) (o_aload 1 5) o_bad))) (cond (Nat.blt pc 11) (cond (Nat.blt pc 8) (cond (Nat.beq pc 5) (o_getf 9 0 8) o_bad) (cond (Nat.beq pc 8) (o_icmp (fun x y => x = y) 23 11) o_bad)) (cond (Nat.blt pc 12) (cond (Nat.beq pc 11) (o_aload 0 12) o_bad) (cond (Nat.beq pc 12) (o_getf 9 1 15) o_bad)))) (cond (Nat.blt pc 23) (cond (Nat.blt pc 19) (cond (Nat.blt pc 16) (cond (Nat.beq pc 15) (o_aload 1 16) o_bad) (cond (Nat.beq pc 16) (o_getf 9 1 19) o_bad)) (cond (Nat.blt pc 20) (cond (Nat.beq pc 19) (o_bin (fun x y => x &&& y) 20) o_bad) (cond (Nat.beq pc 20) (o_if (fun x => x = 0) 27 23) o_bad))) (cond (Nat.blt pc 27) (cond (Nat.blt pc 24) (cond (Nat.beq pc 23) (o_const (1) 24) o_bad) (cond (Nat.beq pc 24) (o_goto 28) o_bad)) (cond (Nat.blt pc 28) (cond (Nat.beq pc 27) (o_const (0) 28) o_bad) (cond (Nat.beq pc 28) (o_zret) o_bad))))
set_option maxRecDepth 20000 in
theorem ok_X9_sharesPeopleWith : HOKs cX9_sharesPeopleWith RX9 2 (some .boolean) 1 ins_X9_sharesPeopleWith := fun _ => hnd (hnd (hnd (hlf (ok_aload_n dX9_sharesPeopleWith_0 rfl rfl)) (hnd (hlf (ok_getf (C := RX9) (T := TX9) dX9_sharesPeopleWith_1 rfl rfl (by decide) rfl inX9 wd_235 rfl)) (hlf (ok_aload_n dX9_sharesPeopleWith_4 rfl rfl)))) (hnd (hnd (hlf (ok_getf (C := RX9) (T := TX9) dX9_sharesPeopleWith_5 rfl rfl (by decide) rfl inX9 wd_235 rfl)) (hlf (ok_icmp_eq dX9_sharesPeopleWith_8 (by decide) rfl))) (hnd (hlf (ok_aload_n dX9_sharesPeopleWith_11 rfl rfl)) (hlf (ok_getf (C := RX9) (T := TX9) dX9_sharesPeopleWith_12 rfl rfl (by decide) rfl inX9 wd_239 rfl))))) (hnd (hnd (hnd (hlf (ok_aload_n dX9_sharesPeopleWith_15 rfl rfl)) (hlf (ok_getf (C := RX9) (T := TX9) dX9_sharesPeopleWith_16 rfl rfl (by decide) rfl inX9 wd_239 rfl))) (hnd (hlf (ok_iand dX9_sharesPeopleWith_19 rfl)) (hlf (ok_if_eq dX9_sharesPeopleWith_20 (by decide) rfl)))) (hnd (hnd (hlf (ok_iconst dX9_sharesPeopleWith_23 (by decide) rfl)) (hlf (ok_goto dX9_sharesPeopleWith_24 (by decide)))) (hnd (hlf (ok_iconst dX9_sharesPeopleWith_27 (by decide) rfl)) (hlf (ok_zret dX9_sharesPeopleWith_28)))))

theorem vc_X9_sharesPeopleWith : MVC ins_X9_sharesPeopleWith 2 2 sp_X9_sharesPeopleWith := by
  refine mvc0 60 fun as w σ q hl hs => ?_
  unfold sp_X9_sharesPeopleWith at hs
  split at hs
  rotate_left
  · exact hs.elim
  rename_i i j
  clear hl
  repeat' (first | apply br2 | intro _)
  all_goals first | exact ⟨Or.inl rfl, hs.2 (by grind)⟩ | exact ⟨Or.inr rfl, hs.1 (by grind)⟩
theorem ct_X9_sharesPeopleWith : Ctr yX9_sharesPeopleWith cX9_sharesPeopleWith 2 (some .boolean) 1 0 0 2 sp_X9_sharesPeopleWith := ctr_of (by decide +kernel) rfl (by decide) ok_X9_sharesPeopleWith vc_X9_sharesPeopleWith

def fillS (σ : HS) (i : Nat) (p s d h lw : Int32) : HS := up3 (up3 (up3 (up3 (up3 (up3 σ 9 i 0 p) 9 i 1 s) 9 i 2 d) 9 i 3 (h / 10)) 9 i 4 (h - h / 10 * 10)) 9 i 5 lw
def sp_X9_fill : HSp := fun as w σ K => match as with
  | [.inr (.inl (9, some i)), .inl p, .inl s, .inl d, .inl h, .inl lw] => (lw = 0 ∨ lw = 1) ∧ K none w (fillS σ i p s d h lw)
  | _ => False
theorem dX9_fill_0 : decode cX9_fill 0 = .ok (.aload_n 0, 1) := by decide +kernel
theorem dX9_fill_1 : decode cX9_fill 1 = .ok (.iload_n 1, 1) := by decide +kernel
theorem dX9_fill_2 : decode cX9_fill 2 = .ok (.putfield 15, 3) := by decide +kernel
theorem dX9_fill_5 : decode cX9_fill 5 = .ok (.aload_n 0, 1) := by decide +kernel
theorem dX9_fill_6 : decode cX9_fill 6 = .ok (.iload_n 2, 1) := by decide +kernel
theorem dX9_fill_7 : decode cX9_fill 7 = .ok (.putfield 18, 3) := by decide +kernel
theorem dX9_fill_10 : decode cX9_fill 10 = .ok (.aload_n 0, 1) := by decide +kernel
theorem dX9_fill_11 : decode cX9_fill 11 = .ok (.iload_n 3, 1) := by decide +kernel
theorem dX9_fill_12 : decode cX9_fill 12 = .ok (.putfield 21, 3) := by decide +kernel
theorem dX9_fill_15 : decode cX9_fill 15 = .ok (.aload_n 0, 1) := by decide +kernel
theorem dX9_fill_16 : decode cX9_fill 16 = .ok (.iload 4, 2) := by decide +kernel
theorem dX9_fill_18 : decode cX9_fill 18 = .ok (.bipush 10, 2) := by decide +kernel
theorem dX9_fill_20 : decode cX9_fill 20 = .ok (.idiv, 1) := by decide +kernel
theorem dX9_fill_21 : decode cX9_fill 21 = .ok (.putfield 24, 3) := by decide +kernel
theorem dX9_fill_24 : decode cX9_fill 24 = .ok (.aload_n 0, 1) := by decide +kernel
theorem dX9_fill_25 : decode cX9_fill 25 = .ok (.iload 4, 2) := by decide +kernel
theorem dX9_fill_27 : decode cX9_fill 27 = .ok (.bipush 10, 2) := by decide +kernel
theorem dX9_fill_29 : decode cX9_fill 29 = .ok (.irem, 1) := by decide +kernel
theorem dX9_fill_30 : decode cX9_fill 30 = .ok (.putfield 27, 3) := by decide +kernel
theorem dX9_fill_33 : decode cX9_fill 33 = .ok (.aload_n 0, 1) := by decide +kernel
theorem dX9_fill_34 : decode cX9_fill 34 = .ok (.iload 5, 2) := by decide +kernel
theorem dX9_fill_36 : decode cX9_fill 36 = .ok (.putfield 30, 3) := by decide +kernel
theorem dX9_fill_39 : decode cX9_fill 39 = .ok (.return_, 1) := by decide +kernel
def ins_X9_fill (pc : Nat) : HOp := cond (Nat.blt pc 18) (cond (Nat.blt pc 7) (cond (Nat.blt pc 2) (cond (Nat.blt pc 1) (cond (Nat.beq pc 0) (o_aload 0 1) o_bad) (cond (Nat.beq pc 1) (o_iload 1 2) o_bad)) (cond (Nat.blt pc 5) (cond (Nat.beq pc 2) (o_putf 9 0 5) o_bad) (cond (Nat.blt pc 6) (cond (Nat.beq pc 5) (o_aload 0 6) o_bad) (cond (Nat.beq pc 6) (o_iload 2 7) o_bad)))) (cond (Nat.blt pc 12) (cond (Nat.blt pc 10) (cond (Nat.beq pc 7) (o_putf 9 1 10) o_bad) (cond (Nat.blt pc 11) (cond (Nat.beq pc 10) (o_aload 0 11) o_bad) (cond (Nat.beq pc 11) (o_iload 3 12) o_bad))) (cond (Nat.blt pc 15) (cond (Nat.beq pc 12) (o_putf 9 2 15) o_bad) (cond (Nat.blt pc 16) (cond (Nat.beq pc 15) (o_aload 0 16) o_bad) (cond (Nat.beq pc 16) (o_iload 4 18) o_bad))))) (cond (Nat.blt pc 29) (cond (Nat.blt pc 24) (cond (Nat.blt pc 20) (cond (Nat.beq pc 18) (o_const (10) 20) o_bad) (cond (Nat.blt pc 21) (cond (Nat.beq pc 20) (o_dv (fun x y => x / y) 21) o_bad) (cond (Nat.beq pc 21) (o_putf 9 3 24) o_bad))) (cond (Nat.blt pc 25) (cond (Nat.beq pc 24) (o_aload 0 25) o_bad) (cond (Nat.blt pc 27) (cond (Nat.beq pc 25) (o_iload 4 27) o_bad) (cond (Nat.beq pc 27) (o_const (10) 29) o_bad)))) (cond (Nat.blt pc 34) (cond (Nat.blt pc 30) (cond (Nat.beq pc 29) (o_dv (fun x y => x - x / y * y) 30) o_bad) (cond (Nat.blt pc 33) (cond (Nat.beq pc 30) (o_putf 9 4 33) o_bad) (cond (Nat.beq pc 33) (o_aload 0 34) o_bad))) (cond (Nat.blt pc 36) (cond (Nat.beq pc 34) (o_iload 5 36) o_bad) (cond (Nat.blt pc 39) (cond (Nat.beq pc 36) (o_putz 9 5 39) o_bad) (cond (Nat.beq pc 39) (o_vret) o_bad)))))
set_option maxRecDepth 20000 in
theorem ok_X9_fill : HOKs cX9_fill RX9 6 none 1 ins_X9_fill := fun _ => hnd (hnd (hnd (hnd (hlf (ok_aload_n dX9_fill_0 rfl rfl)) (hlf (ok_iload_n dX9_fill_1 rfl rfl))) (hnd (hlf (ok_putf (C := RX9) (T := TX9) dX9_fill_2 rfl rfl (by decide) rfl inX9 tyX9_ok nmX9 rfl rfl (fun _ _ => rfl) wd_235 rfl)) (hnd (hlf (ok_aload_n dX9_fill_5 rfl rfl)) (hlf (ok_iload_n dX9_fill_6 rfl rfl))))) (hnd (hnd (hlf (ok_putf (C := RX9) (T := TX9) dX9_fill_7 rfl rfl (by decide) rfl inX9 tyX9_ok nmX9 rfl rfl (fun _ _ => rfl) wd_239 rfl)) (hnd (hlf (ok_aload_n dX9_fill_10 rfl rfl)) (hlf (ok_iload_n dX9_fill_11 rfl rfl)))) (hnd (hlf (ok_putf (C := RX9) (T := TX9) dX9_fill_12 rfl rfl (by decide) rfl inX9 tyX9_ok nmX9 rfl rfl (fun _ _ => rfl) wd_245 rfl)) (hnd (hlf (ok_aload_n dX9_fill_15 rfl rfl)) (hlf (ok_iload dX9_fill_16 rfl)))))) (hnd (hnd (hnd (hlf (ok_bipush dX9_fill_18 (by decide) rfl)) (hnd (hlf (ok_idiv dX9_fill_20 rfl)) (hlf (ok_putf (C := RX9) (T := TX9) dX9_fill_21 rfl rfl (by decide) rfl inX9 tyX9_ok nmX9 rfl rfl (fun _ _ => rfl) wd_250 rfl)))) (hnd (hlf (ok_aload_n dX9_fill_24 rfl rfl)) (hnd (hlf (ok_iload dX9_fill_25 rfl)) (hlf (ok_bipush dX9_fill_27 (by decide) rfl))))) (hnd (hnd (hlf (ok_irem dX9_fill_29 rfl)) (hnd (hlf (ok_putf (C := RX9) (T := TX9) dX9_fill_30 rfl rfl (by decide) rfl inX9 tyX9_ok nmX9 rfl rfl (fun _ _ => rfl) wd_254 rfl)) (hlf (ok_aload_n dX9_fill_33 rfl rfl)))) (hnd (hlf (ok_iload dX9_fill_34 rfl)) (hnd (hlf (ok_putz (C := RX9) (T := TX9) dX9_fill_36 rfl rfl (by decide) rfl inX9 tyX9_ok nmX9 rfl rfl (fun _ _ => rfl) wd_257 rfl)) (hlf (ok_vret dX9_fill_39))))))

theorem vc_X9_fill : MVC ins_X9_fill 6 6 sp_X9_fill := by
  refine mvc0 60 fun as w σ q hl hs => ?_
  unfold sp_X9_fill at hs
  split at hs
  rotate_left
  · exact hs.elim
  rename_i i p s d h lw
  refine And.intro (by decide) ?_
  refine And.intro (by decide) ?_
  exact And.intro hs.1 hs.2
theorem ct_X9_fill : Ctr yX9_fill cX9_fill 6 none 1 0 0 6 sp_X9_fill := ctr_of (by decide +kernel) rfl (by decide) ok_X9_fill vc_X9_fill

/-! VisitHall, shared -/
def wB (bits place on : Int32) : Int32 := if on = 1 then bits ||| (1 <<< (place &&& 31)) else bits &&& ((1 <<< (place &&& 31)) ^^^ (-1))
def sp_X10_withBit : HSp := fun as w σ K => match as with
  | [.inl b, .inl p, .inl o] => K (some (HI (wB b p o))) w σ
  | _ => False
theorem dX10_withBit_0 : decode cX10_withBit 0 = .ok (.iload_n 2, 1) := by decide +kernel
theorem dX10_withBit_1 : decode cX10_withBit 1 = .ok (.iconst 1, 1) := by decide +kernel
theorem dX10_withBit_2 : decode cX10_withBit 2 = .ok (.if_icmp .ne 11, 3) := by decide +kernel
theorem dX10_withBit_5 : decode cX10_withBit 5 = .ok (.iload_n 0, 1) := by decide +kernel
theorem dX10_withBit_6 : decode cX10_withBit 6 = .ok (.iconst 1, 1) := by decide +kernel
theorem dX10_withBit_7 : decode cX10_withBit 7 = .ok (.iload_n 1, 1) := by decide +kernel
theorem dX10_withBit_8 : decode cX10_withBit 8 = .ok (.ishl, 1) := by decide +kernel
theorem dX10_withBit_9 : decode cX10_withBit 9 = .ok (.ior, 1) := by decide +kernel
theorem dX10_withBit_10 : decode cX10_withBit 10 = .ok (.goto 10, 3) := by decide +kernel
theorem dX10_withBit_13 : decode cX10_withBit 13 = .ok (.iload_n 0, 1) := by decide +kernel
theorem dX10_withBit_14 : decode cX10_withBit 14 = .ok (.iconst 1, 1) := by decide +kernel
theorem dX10_withBit_15 : decode cX10_withBit 15 = .ok (.iload_n 1, 1) := by decide +kernel
theorem dX10_withBit_16 : decode cX10_withBit 16 = .ok (.ishl, 1) := by decide +kernel
theorem dX10_withBit_17 : decode cX10_withBit 17 = .ok (.iconst (-1), 1) := by decide +kernel
theorem dX10_withBit_18 : decode cX10_withBit 18 = .ok (.ixor, 1) := by decide +kernel
theorem dX10_withBit_19 : decode cX10_withBit 19 = .ok (.iand, 1) := by decide +kernel
theorem dX10_withBit_20 : decode cX10_withBit 20 = .ok (.ireturn, 1) := by decide +kernel
def ins_X10_withBit (pc : Nat) : HOp := cond (Nat.blt pc 10) (cond (Nat.blt pc 6) (cond (Nat.blt pc 2) (cond (Nat.blt pc 1) (cond (Nat.beq pc 0) (o_iload 2 1) o_bad) (cond (Nat.beq pc 1) (o_const (1) 2) o_bad)) (cond (Nat.blt pc 5) (cond (Nat.beq pc 2) (o_icmp (fun x y => x = y) 5 13) o_bad) (cond (Nat.beq pc 5) (o_iload 0 6) o_bad))) (cond (Nat.blt pc 8) (cond (Nat.blt pc 7) (cond (Nat.beq pc 6) (o_const (1) 7) o_bad) (cond (Nat.beq pc 7) (o_iload 1 8) o_bad)) (cond (Nat.blt pc 9) (cond (Nat.beq pc 8) (o_bin (fun x y => x <<< (y &&& 31)) 9) o_bad) (cond (Nat.beq pc 9) (o_bin (fun x y => x ||| y) 10) o_bad)))) (cond (Nat.blt pc 16) (cond (Nat.blt pc 14) (cond (Nat.blt pc 13) (cond (Nat.beq pc 10) (o_goto 20) o_bad) (cond (Nat.beq pc 13) (o_iload 0 14) o_bad)) (cond (Nat.blt pc 15) (cond (Nat.beq pc 14) (o_const (1) 15) o_bad) (cond (Nat.beq pc 15) (o_iload 1 16) o_bad))) (cond (Nat.blt pc 18) (cond (Nat.blt pc 17) (cond (Nat.beq pc 16) (o_bin (fun x y => x <<< (y &&& 31)) 17) o_bad) (cond (Nat.beq pc 17) (o_const (-1) 18) o_bad)) (cond (Nat.blt pc 19) (cond (Nat.beq pc 18) (o_bin (fun x y => x ^^^ y) 19) o_bad) (cond (Nat.blt pc 20) (cond (Nat.beq pc 19) (o_bin (fun x y => x &&& y) 20) o_bad) (cond (Nat.beq pc 20) (o_iret) o_bad)))))
set_option maxRecDepth 20000 in
theorem ok_X10_withBit : HOKs cX10_withBit RX10 3 (some .int) 1 ins_X10_withBit := fun _ => hnd (hnd (hnd (hnd (hlf (ok_iload_n dX10_withBit_0 rfl rfl)) (hlf (ok_iconst dX10_withBit_1 (by decide) rfl))) (hnd (hlf (ok_icmp_ne dX10_withBit_2 (by decide) rfl)) (hlf (ok_iload_n dX10_withBit_5 rfl rfl)))) (hnd (hnd (hlf (ok_iconst dX10_withBit_6 (by decide) rfl)) (hlf (ok_iload_n dX10_withBit_7 rfl rfl))) (hnd (hlf (ok_ishl dX10_withBit_8 rfl)) (hlf (ok_ior dX10_withBit_9 rfl))))) (hnd (hnd (hnd (hlf (ok_goto dX10_withBit_10 (by decide))) (hlf (ok_iload_n dX10_withBit_13 rfl rfl))) (hnd (hlf (ok_iconst dX10_withBit_14 (by decide) rfl)) (hlf (ok_iload_n dX10_withBit_15 rfl rfl)))) (hnd (hnd (hlf (ok_ishl dX10_withBit_16 rfl)) (hlf (ok_iconst dX10_withBit_17 (by decide) rfl))) (hnd (hlf (ok_ixor dX10_withBit_18 rfl)) (hnd (hlf (ok_iand dX10_withBit_19 rfl)) (hlf (ok_iret dX10_withBit_20))))))

theorem vc_X10_withBit : MVC ins_X10_withBit 3 3 sp_X10_withBit := by
  refine mvc0 60 fun as w σ q hl hs => ?_
  unfold sp_X10_withBit at hs
  split at hs
  rotate_left
  · exact hs.elim
  rename_i b p o
  unfold wB at hs
  apply br2
  · intro h
    rw [if_pos h] at hs
    exact hs
  · intro h
    rw [if_neg h] at hs
    exact hs
theorem ct_X10_withBit : Ctr yX10_withBit cX10_withBit 3 (some .int) 1 0 0 3 sp_X10_withBit := ctr_of (by decide +kernel) rfl (by decide) ok_X10_withBit vc_X10_withBit

abbrev hvs (h : Int32) : Prop := 0 ≤ h ∧ ¬ h - h / 10 * 10 < 1 ∧ ¬ 4 < h - h / 10 * 10 ∧ ¬ 12 ≤ h / 10 ∧ ¬ 12 < h / 10 + (h - h / 10 * 10)
def sp_X10_areHalves : HSp := fun as w σ K => match as with
  | [.inl h] => spZ (hvs h) w σ K
  | _ => False
theorem dX10_areHalves_0 : decode cX10_areHalves 0 = .ok (.iload_n 0, 1) := by decide +kernel
theorem dX10_areHalves_1 : decode cX10_areHalves 1 = .ok (.ifCond .ge 5, 3) := by decide +kernel
theorem dX10_areHalves_4 : decode cX10_areHalves 4 = .ok (.iconst 0, 1) := by decide +kernel
theorem dX10_areHalves_5 : decode cX10_areHalves 5 = .ok (.ireturn, 1) := by decide +kernel
theorem dX10_areHalves_6 : decode cX10_areHalves 6 = .ok (.iload_n 0, 1) := by decide +kernel
theorem dX10_areHalves_7 : decode cX10_areHalves 7 = .ok (.bipush 10, 2) := by decide +kernel
theorem dX10_areHalves_9 : decode cX10_areHalves 9 = .ok (.idiv, 1) := by decide +kernel
theorem dX10_areHalves_10 : decode cX10_areHalves 10 = .ok (.istore_n 1, 1) := by decide +kernel
theorem dX10_areHalves_11 : decode cX10_areHalves 11 = .ok (.iload_n 0, 1) := by decide +kernel
theorem dX10_areHalves_12 : decode cX10_areHalves 12 = .ok (.bipush 10, 2) := by decide +kernel
theorem dX10_areHalves_14 : decode cX10_areHalves 14 = .ok (.irem, 1) := by decide +kernel
theorem dX10_areHalves_15 : decode cX10_areHalves 15 = .ok (.istore_n 2, 1) := by decide +kernel
theorem dX10_areHalves_16 : decode cX10_areHalves 16 = .ok (.iload_n 2, 1) := by decide +kernel
theorem dX10_areHalves_17 : decode cX10_areHalves 17 = .ok (.iconst 1, 1) := by decide +kernel
theorem dX10_areHalves_18 : decode cX10_areHalves 18 = .ok (.if_icmp .lt 26, 3) := by decide +kernel
theorem dX10_areHalves_21 : decode cX10_areHalves 21 = .ok (.iload_n 2, 1) := by decide +kernel
theorem dX10_areHalves_22 : decode cX10_areHalves 22 = .ok (.iconst 4, 1) := by decide +kernel
theorem dX10_areHalves_23 : decode cX10_areHalves 23 = .ok (.if_icmp .gt 21, 3) := by decide +kernel
theorem dX10_areHalves_26 : decode cX10_areHalves 26 = .ok (.iload_n 1, 1) := by decide +kernel
theorem dX10_areHalves_27 : decode cX10_areHalves 27 = .ok (.bipush 12, 2) := by decide +kernel
theorem dX10_areHalves_29 : decode cX10_areHalves 29 = .ok (.if_icmp .ge 15, 3) := by decide +kernel
theorem dX10_areHalves_32 : decode cX10_areHalves 32 = .ok (.iload_n 1, 1) := by decide +kernel
theorem dX10_areHalves_33 : decode cX10_areHalves 33 = .ok (.iload_n 2, 1) := by decide +kernel
theorem dX10_areHalves_34 : decode cX10_areHalves 34 = .ok (.iadd, 1) := by decide +kernel
theorem dX10_areHalves_35 : decode cX10_areHalves 35 = .ok (.bipush 12, 2) := by decide +kernel
theorem dX10_areHalves_37 : decode cX10_areHalves 37 = .ok (.if_icmp .gt 7, 3) := by decide +kernel
theorem dX10_areHalves_40 : decode cX10_areHalves 40 = .ok (.iconst 1, 1) := by decide +kernel
theorem dX10_areHalves_41 : decode cX10_areHalves 41 = .ok (.goto 4, 3) := by decide +kernel
theorem dX10_areHalves_44 : decode cX10_areHalves 44 = .ok (.iconst 0, 1) := by decide +kernel
theorem dX10_areHalves_45 : decode cX10_areHalves 45 = .ok (.ireturn, 1) := by decide +kernel
def ins_X10_areHalves (pc : Nat) : HOp := cond (Nat.blt pc 21) (cond (Nat.blt pc 10) (cond (Nat.blt pc 5) (cond (Nat.blt pc 1) (cond (Nat.beq pc 0) (o_iload 0 1) o_bad) (cond (Nat.blt pc 4) (cond (Nat.beq pc 1) (o_if (fun x => 0 ≤ x) 6 4) o_bad) (cond (Nat.beq pc 4) (o_const (0) 5) o_bad))) (cond (Nat.blt pc 7) (cond (Nat.blt pc 6) (cond (Nat.beq pc 5) (o_zret) o_bad) (cond (Nat.beq pc 6) (o_iload 0 7) o_bad)) (cond (Nat.blt pc 9) (cond (Nat.beq pc 7) (o_const (10) 9) o_bad) (cond (Nat.beq pc 9) (o_dv (fun x y => x / y) 10) o_bad)))) (cond (Nat.blt pc 15) (cond (Nat.blt pc 12) (cond (Nat.blt pc 11) (cond (Nat.beq pc 10) (o_istore 1 11) o_bad) (cond (Nat.beq pc 11) (o_iload 0 12) o_bad)) (cond (Nat.blt pc 14) (cond (Nat.beq pc 12) (o_const (10) 14) o_bad) (cond (Nat.beq pc 14) (o_dv (fun x y => x - x / y * y) 15) o_bad))) (cond (Nat.blt pc 17) (cond (Nat.blt pc 16) (cond (Nat.beq pc 15) (o_istore 2 16) o_bad) (cond (Nat.beq pc 16) (o_iload 2 17) o_bad)) (cond (Nat.blt pc 18) (cond (Nat.beq pc 17) (o_const (1) 18) o_bad) (cond (Nat.beq pc 18) (o_icmp (fun x y => x < y) 44 21) o_bad))))) (cond (Nat.blt pc 33) (cond (Nat.blt pc 26) (cond (Nat.blt pc 22) (cond (Nat.beq pc 21) (o_iload 2 22) o_bad) (cond (Nat.blt pc 23) (cond (Nat.beq pc 22) (o_const (4) 23) o_bad) (cond (Nat.beq pc 23) (o_icmp (fun x y => y < x) 44 26) o_bad))) (cond (Nat.blt pc 29) (cond (Nat.blt pc 27) (cond (Nat.beq pc 26) (o_iload 1 27) o_bad) (cond (Nat.beq pc 27) (o_const (12) 29) o_bad)) (cond (Nat.blt pc 32) (cond (Nat.beq pc 29) (o_icmp (fun x y => y ≤ x) 44 32) o_bad) (cond (Nat.beq pc 32) (o_iload 1 33) o_bad)))) (cond (Nat.blt pc 40) (cond (Nat.blt pc 35) (cond (Nat.blt pc 34) (cond (Nat.beq pc 33) (o_iload 2 34) o_bad) (cond (Nat.beq pc 34) (o_bin (fun x y => x + y) 35) o_bad)) (cond (Nat.blt pc 37) (cond (Nat.beq pc 35) (o_const (12) 37) o_bad) (cond (Nat.beq pc 37) (o_icmp (fun x y => y < x) 44 40) o_bad))) (cond (Nat.blt pc 44) (cond (Nat.blt pc 41) (cond (Nat.beq pc 40) (o_const (1) 41) o_bad) (cond (Nat.beq pc 41) (o_goto 45) o_bad)) (cond (Nat.blt pc 45) (cond (Nat.beq pc 44) (o_const (0) 45) o_bad) (cond (Nat.beq pc 45) (o_zret) o_bad)))))
set_option maxRecDepth 20000 in
theorem ok_X10_areHalves : HOKs cX10_areHalves RX10 3 (some .boolean) 1 ins_X10_areHalves := fun _ => hnd (hnd (hnd (hnd (hlf (ok_iload_n dX10_areHalves_0 rfl rfl)) (hnd (hlf (ok_if_ge dX10_areHalves_1 (by decide) rfl)) (hlf (ok_iconst dX10_areHalves_4 (by decide) rfl)))) (hnd (hnd (hlf (ok_zret dX10_areHalves_5)) (hlf (ok_iload_n dX10_areHalves_6 rfl rfl))) (hnd (hlf (ok_bipush dX10_areHalves_7 (by decide) rfl)) (hlf (ok_idiv dX10_areHalves_9 rfl))))) (hnd (hnd (hnd (hlf (ok_istore_n dX10_areHalves_10 rfl (by decide) rfl)) (hlf (ok_iload_n dX10_areHalves_11 rfl rfl))) (hnd (hlf (ok_bipush dX10_areHalves_12 (by decide) rfl)) (hlf (ok_irem dX10_areHalves_14 rfl)))) (hnd (hnd (hlf (ok_istore_n dX10_areHalves_15 rfl (by decide) rfl)) (hlf (ok_iload_n dX10_areHalves_16 rfl rfl))) (hnd (hlf (ok_iconst dX10_areHalves_17 (by decide) rfl)) (hlf (ok_icmp_lt dX10_areHalves_18 (by decide) rfl)))))) (hnd (hnd (hnd (hlf (ok_iload_n dX10_areHalves_21 rfl rfl)) (hnd (hlf (ok_iconst dX10_areHalves_22 (by decide) rfl)) (hlf (ok_icmp_gt dX10_areHalves_23 (by decide) rfl)))) (hnd (hnd (hlf (ok_iload_n dX10_areHalves_26 rfl rfl)) (hlf (ok_bipush dX10_areHalves_27 (by decide) rfl))) (hnd (hlf (ok_icmp_ge dX10_areHalves_29 (by decide) rfl)) (hlf (ok_iload_n dX10_areHalves_32 rfl rfl))))) (hnd (hnd (hnd (hlf (ok_iload_n dX10_areHalves_33 rfl rfl)) (hlf (ok_iadd dX10_areHalves_34 rfl))) (hnd (hlf (ok_bipush dX10_areHalves_35 (by decide) rfl)) (hlf (ok_icmp_gt dX10_areHalves_37 (by decide) rfl)))) (hnd (hnd (hlf (ok_iconst dX10_areHalves_40 (by decide) rfl)) (hlf (ok_goto dX10_areHalves_41 (by decide)))) (hnd (hlf (ok_iconst dX10_areHalves_44 (by decide) rfl)) (hlf (ok_zret dX10_areHalves_45))))))

theorem vc_X10_areHalves : MVC ins_X10_areHalves 3 1 sp_X10_areHalves := by
  refine mvc0 80 fun as w σ q hl hs => ?_
  unfold sp_X10_areHalves at hs
  split at hs
  rotate_left
  · exact hs.elim
  rename_i h
  clear hl
  apply br2
  · intro h1
    refine And.intro (by decide) ?_
    refine And.intro (by decide) ?_
    repeat' (first | apply br2 | intro _)
    all_goals first | exact ⟨Or.inl rfl, hs.2 (by grind )⟩ | exact ⟨Or.inr rfl, hs.1 (by grind )⟩
  · intro h1
    exact ⟨Or.inl rfl, hs.2 (fun h => h1 h.1)⟩
theorem ct_X10_areHalves : Ctr yX10_areHalves cX10_areHalves 3 (some .boolean) 1 0 0 1 sp_X10_areHalves := ctr_of (by decide +kernel) rfl (by decide) ok_X10_areHalves vc_X10_areHalves

abbrev mayR (a v : Int32) : Prop := (a = 0 ∧ ¬ v < 1 ∧ ¬ 6 < v) ∨ (a = 1 ∧ ¬ v < 1 ∧ ¬ 100 < v) ∨ a = 2
def sp_X10_mayRule : HSp := fun as w σ K => match as with
  | [.inl a, .inl v] => spZ (mayR a v) w σ K
  | _ => False
theorem dX10_mayRule_0 : decode cX10_mayRule 0 = .ok (.iload_n 0, 1) := by decide +kernel
theorem dX10_mayRule_1 : decode cX10_mayRule 1 = .ok (.lookupswitch 61 #[(0, 27), (1, 44)], 27) := by decide +kernel
theorem dX10_mayRule_28 : decode cX10_mayRule 28 = .ok (.iload_n 1, 1) := by decide +kernel
theorem dX10_mayRule_29 : decode cX10_mayRule 29 = .ok (.iconst 1, 1) := by decide +kernel
theorem dX10_mayRule_30 : decode cX10_mayRule 30 = .ok (.if_icmp .lt 13, 3) := by decide +kernel
theorem dX10_mayRule_33 : decode cX10_mayRule 33 = .ok (.iload_n 1, 1) := by decide +kernel
theorem dX10_mayRule_34 : decode cX10_mayRule 34 = .ok (.bipush 6, 2) := by decide +kernel
theorem dX10_mayRule_36 : decode cX10_mayRule 36 = .ok (.if_icmp .gt 7, 3) := by decide +kernel
theorem dX10_mayRule_39 : decode cX10_mayRule 39 = .ok (.iconst 1, 1) := by decide +kernel
theorem dX10_mayRule_40 : decode cX10_mayRule 40 = .ok (.goto 4, 3) := by decide +kernel
theorem dX10_mayRule_43 : decode cX10_mayRule 43 = .ok (.iconst 0, 1) := by decide +kernel
theorem dX10_mayRule_44 : decode cX10_mayRule 44 = .ok (.ireturn, 1) := by decide +kernel
theorem dX10_mayRule_45 : decode cX10_mayRule 45 = .ok (.iload_n 1, 1) := by decide +kernel
theorem dX10_mayRule_46 : decode cX10_mayRule 46 = .ok (.iconst 1, 1) := by decide +kernel
theorem dX10_mayRule_47 : decode cX10_mayRule 47 = .ok (.if_icmp .lt 13, 3) := by decide +kernel
theorem dX10_mayRule_50 : decode cX10_mayRule 50 = .ok (.iload_n 1, 1) := by decide +kernel
theorem dX10_mayRule_51 : decode cX10_mayRule 51 = .ok (.bipush 100, 2) := by decide +kernel
theorem dX10_mayRule_53 : decode cX10_mayRule 53 = .ok (.if_icmp .gt 7, 3) := by decide +kernel
theorem dX10_mayRule_56 : decode cX10_mayRule 56 = .ok (.iconst 1, 1) := by decide +kernel
theorem dX10_mayRule_57 : decode cX10_mayRule 57 = .ok (.goto 4, 3) := by decide +kernel
theorem dX10_mayRule_60 : decode cX10_mayRule 60 = .ok (.iconst 0, 1) := by decide +kernel
theorem dX10_mayRule_61 : decode cX10_mayRule 61 = .ok (.ireturn, 1) := by decide +kernel
theorem dX10_mayRule_62 : decode cX10_mayRule 62 = .ok (.iload_n 0, 1) := by decide +kernel
theorem dX10_mayRule_63 : decode cX10_mayRule 63 = .ok (.iconst 2, 1) := by decide +kernel
theorem dX10_mayRule_64 : decode cX10_mayRule 64 = .ok (.if_icmp .ne 7, 3) := by decide +kernel
theorem dX10_mayRule_67 : decode cX10_mayRule 67 = .ok (.iconst 1, 1) := by decide +kernel
theorem dX10_mayRule_68 : decode cX10_mayRule 68 = .ok (.goto 4, 3) := by decide +kernel
theorem dX10_mayRule_71 : decode cX10_mayRule 71 = .ok (.iconst 0, 1) := by decide +kernel
theorem dX10_mayRule_72 : decode cX10_mayRule 72 = .ok (.ireturn, 1) := by decide +kernel
def ins_X10_mayRule (pc : Nat) : HOp := cond (Nat.blt pc 47) (cond (Nat.blt pc 36) (cond (Nat.blt pc 29) (cond (Nat.blt pc 1) (cond (Nat.beq pc 0) (o_iload 0 1) o_bad) (cond (Nat.blt pc 28) (cond (Nat.beq pc 1) (o_sw [(0, 28), (1, 45)] 62) o_bad) (cond (Nat.beq pc 28) (o_iload 1 29) o_bad))) (cond (Nat.blt pc 33) (cond (Nat.blt pc 30) (cond (Nat.beq pc 29) (o_const (1) 30) o_bad) (cond (Nat.beq pc 30) (o_icmp (fun x y => x < y) 43 33) o_bad)) (cond (Nat.blt pc 34) (cond (Nat.beq pc 33) (o_iload 1 34) o_bad) (cond (Nat.beq pc 34) (o_const (6) 36) o_bad)))) (cond (Nat.blt pc 43) (cond (Nat.blt pc 39) (cond (Nat.beq pc 36) (o_icmp (fun x y => y < x) 43 39) o_bad) (cond (Nat.blt pc 40) (cond (Nat.beq pc 39) (o_const (1) 40) o_bad) (cond (Nat.beq pc 40) (o_goto 44) o_bad))) (cond (Nat.blt pc 45) (cond (Nat.blt pc 44) (cond (Nat.beq pc 43) (o_const (0) 44) o_bad) (cond (Nat.beq pc 44) (o_zret) o_bad)) (cond (Nat.blt pc 46) (cond (Nat.beq pc 45) (o_iload 1 46) o_bad) (cond (Nat.beq pc 46) (o_const (1) 47) o_bad))))) (cond (Nat.blt pc 61) (cond (Nat.blt pc 53) (cond (Nat.blt pc 50) (cond (Nat.beq pc 47) (o_icmp (fun x y => x < y) 60 50) o_bad) (cond (Nat.blt pc 51) (cond (Nat.beq pc 50) (o_iload 1 51) o_bad) (cond (Nat.beq pc 51) (o_const (100) 53) o_bad))) (cond (Nat.blt pc 57) (cond (Nat.blt pc 56) (cond (Nat.beq pc 53) (o_icmp (fun x y => y < x) 60 56) o_bad) (cond (Nat.beq pc 56) (o_const (1) 57) o_bad)) (cond (Nat.blt pc 60) (cond (Nat.beq pc 57) (o_goto 61) o_bad) (cond (Nat.beq pc 60) (o_const (0) 61) o_bad)))) (cond (Nat.blt pc 67) (cond (Nat.blt pc 63) (cond (Nat.blt pc 62) (cond (Nat.beq pc 61) (o_zret) o_bad) (cond (Nat.beq pc 62) (o_iload 0 63) o_bad)) (cond (Nat.blt pc 64) (cond (Nat.beq pc 63) (o_const (2) 64) o_bad) (cond (Nat.beq pc 64) (o_icmp (fun x y => x = y) 67 71) o_bad))) (cond (Nat.blt pc 71) (cond (Nat.blt pc 68) (cond (Nat.beq pc 67) (o_const (1) 68) o_bad) (cond (Nat.beq pc 68) (o_goto 72) o_bad)) (cond (Nat.blt pc 72) (cond (Nat.beq pc 71) (o_const (0) 72) o_bad) (cond (Nat.beq pc 72) (o_zret) o_bad)))))
set_option maxRecDepth 20000 in
theorem ok_X10_mayRule : HOKs cX10_mayRule RX10 2 (some .boolean) 1 ins_X10_mayRule := fun _ => hnd (hnd (hnd (hnd (hlf (ok_iload_n dX10_mayRule_0 rfl rfl)) (hnd (hlf (ok_lsw dX10_mayRule_1 (by decide) (by decide) (by decide))) (hlf (ok_iload_n dX10_mayRule_28 rfl rfl)))) (hnd (hnd (hlf (ok_iconst dX10_mayRule_29 (by decide) rfl)) (hlf (ok_icmp_lt dX10_mayRule_30 (by decide) rfl))) (hnd (hlf (ok_iload_n dX10_mayRule_33 rfl rfl)) (hlf (ok_bipush dX10_mayRule_34 (by decide) rfl))))) (hnd (hnd (hlf (ok_icmp_gt dX10_mayRule_36 (by decide) rfl)) (hnd (hlf (ok_iconst dX10_mayRule_39 (by decide) rfl)) (hlf (ok_goto dX10_mayRule_40 (by decide))))) (hnd (hnd (hlf (ok_iconst dX10_mayRule_43 (by decide) rfl)) (hlf (ok_zret dX10_mayRule_44))) (hnd (hlf (ok_iload_n dX10_mayRule_45 rfl rfl)) (hlf (ok_iconst dX10_mayRule_46 (by decide) rfl)))))) (hnd (hnd (hnd (hlf (ok_icmp_lt dX10_mayRule_47 (by decide) rfl)) (hnd (hlf (ok_iload_n dX10_mayRule_50 rfl rfl)) (hlf (ok_bipush dX10_mayRule_51 (by decide) rfl)))) (hnd (hnd (hlf (ok_icmp_gt dX10_mayRule_53 (by decide) rfl)) (hlf (ok_iconst dX10_mayRule_56 (by decide) rfl))) (hnd (hlf (ok_goto dX10_mayRule_57 (by decide))) (hlf (ok_iconst dX10_mayRule_60 (by decide) rfl))))) (hnd (hnd (hnd (hlf (ok_zret dX10_mayRule_61)) (hlf (ok_iload_n dX10_mayRule_62 rfl rfl))) (hnd (hlf (ok_iconst dX10_mayRule_63 (by decide) rfl)) (hlf (ok_icmp_ne dX10_mayRule_64 (by decide) rfl)))) (hnd (hnd (hlf (ok_iconst dX10_mayRule_67 (by decide) rfl)) (hlf (ok_goto dX10_mayRule_68 (by decide)))) (hnd (hlf (ok_iconst dX10_mayRule_71 (by decide) rfl)) (hlf (ok_zret dX10_mayRule_72))))))

theorem vc_X10_mayRule : MVC ins_X10_mayRule 2 2 sp_X10_mayRule := by
  refine mvc0 60 fun as w σ q hl hs => ?_
  unfold sp_X10_mayRule at hs
  split at hs
  rotate_left
  · exact hs.elim
  rename_i a v
  clear hl
  repeat' (first | apply br2 | intro _)
  all_goals first | exact ⟨Or.inl rfl, hs.2 (by grind)⟩ | exact ⟨Or.inr rfl, hs.1 (by grind)⟩
theorem ct_X10_mayRule : Ctr yX10_mayRule cX10_mayRule 2 (some .boolean) 1 0 0 2 sp_X10_mayRule := ctr_of (by decide +kernel) rfl (by decide) ok_X10_mayRule vc_X10_mayRule
end
section
/-! VisitHall.Book -/
def sp_X0_isFull : HSp := fun as w σ K => match as with
  | [.inr (.inl (0, some 0))] => spZ (¬ σ 0 0 1 < 100) w σ K
  | _ => False
theorem dX0_isFull_0 : decode cX0_isFull 0 = .ok (.aload_n 0, 1) := by decide +kernel
theorem dX0_isFull_1 : decode cX0_isFull 1 = .ok (.getfield 17, 3) := by decide +kernel
theorem dX0_isFull_4 : decode cX0_isFull 4 = .ok (.bipush 100, 2) := by decide +kernel
theorem dX0_isFull_6 : decode cX0_isFull 6 = .ok (.if_icmp .lt 7, 3) := by decide +kernel
theorem dX0_isFull_9 : decode cX0_isFull 9 = .ok (.iconst 1, 1) := by decide +kernel
theorem dX0_isFull_10 : decode cX0_isFull 10 = .ok (.goto 4, 3) := by decide +kernel
theorem dX0_isFull_13 : decode cX0_isFull 13 = .ok (.iconst 0, 1) := by decide +kernel
theorem dX0_isFull_14 : decode cX0_isFull 14 = .ok (.ireturn, 1) := by decide +kernel
def ins_X0_isFull (pc : Nat) : HOp := cond (Nat.blt pc 9) (cond (Nat.blt pc 4) (cond (Nat.blt pc 1) (cond (Nat.beq pc 0) (o_aload 0 1) o_bad) (cond (Nat.beq pc 1) (o_getf 0 1 4) o_bad)) (cond (Nat.blt pc 6) (cond (Nat.beq pc 4) (o_const (100) 6) o_bad) (cond (Nat.beq pc 6) (o_icmp (fun x y => x < y) 13 9) o_bad))) (cond (Nat.blt pc 13) (cond (Nat.blt pc 10) (cond (Nat.beq pc 9) (o_const (1) 10) o_bad) (cond (Nat.beq pc 10) (o_goto 14) o_bad)) (cond (Nat.blt pc 14) (cond (Nat.beq pc 13) (o_const (0) 14) o_bad) (cond (Nat.beq pc 14) (o_zret) o_bad)))
set_option maxRecDepth 20000 in
theorem ok_X0_isFull : HOKs cX0_isFull RX0 1 (some .boolean) 1 ins_X0_isFull := fun _ => hnd (hnd (hnd (hlf (ok_aload_n dX0_isFull_0 rfl rfl)) (hlf (ok_getf (C := RX0) (T := TX0) dX0_isFull_1 rfl rfl (by decide) rfl inX0 wd_149 rfl))) (hnd (hlf (ok_bipush dX0_isFull_4 (by decide) rfl)) (hlf (ok_icmp_lt dX0_isFull_6 (by decide) rfl)))) (hnd (hnd (hlf (ok_iconst dX0_isFull_9 (by decide) rfl)) (hlf (ok_goto dX0_isFull_10 (by decide)))) (hnd (hlf (ok_iconst dX0_isFull_13 (by decide) rfl)) (hlf (ok_zret dX0_isFull_14))))

theorem vc_X0_isFull : MVC ins_X0_isFull 1 1 sp_X0_isFull := by
  refine mvc0 40 fun as w σ q hl hs => ?_
  unfold sp_X0_isFull at hs
  split at hs
  rotate_left
  · exact hs.elim
  clear hl
  repeat' (first | apply br2 | intro _)
  all_goals first | exact ⟨Or.inl rfl, hs.2 (by grind)⟩ | exact ⟨Or.inr rfl, hs.1 (by grind)⟩
theorem ct_X0_isFull : Ctr yX0_isFull cX0_isFull 1 (some .boolean) 1 0 0 1 sp_X0_isFull := ctr_of (by decide +kernel) rfl (by decide) ok_X0_isFull vc_X0_isFull

theorem in_of {x : Int32} {n : Nat} (h : 0 ≤ x ∧ x < nI n) (hn : n < 2 ^ 31 := by omega) : ∃ i, i < n ∧ x = nI i := by
  obtain ⟨j, hj, rfl⟩ := nI_of (Int32.not_lt.mpr h.1)
  exact ⟨j, (nI_ltI hj hn).mp h.2, rfl⟩
def sp_X0_at : HSp := fun as w σ K => match as with
  | [.inr (.inl (0, some 0)), .inl x] => ∃ n, Bk w σ n ∧ (∀ i, i < n → x = nI i → K (some (HR 9 i)) w σ) ∧ (¬ (0 ≤ x ∧ x < nI n) → K (some (HO 99 none)) w σ)
  | _ => False
theorem dX0_at_0 : decode cX0_at 0 = .ok (.iload_n 1, 1) := by decide +kernel
theorem dX0_at_1 : decode cX0_at 1 = .ok (.aload_n 0, 1) := by decide +kernel
theorem dX0_at_2 : decode cX0_at 2 = .ok (.getfield 17, 3) := by decide +kernel
theorem dX0_at_5 : decode cX0_at 5 = .ok (.invokestatic 26, 3) := by decide +kernel
theorem dX0_at_8 : decode cX0_at 8 = .ok (.ifCond .eq 12, 3) := by decide +kernel
theorem dX0_at_11 : decode cX0_at 11 = .ok (.aload_n 0, 1) := by decide +kernel
theorem dX0_at_12 : decode cX0_at 12 = .ok (.getfield 13, 3) := by decide +kernel
theorem dX0_at_15 : decode cX0_at 15 = .ok (.iload_n 1, 1) := by decide +kernel
theorem dX0_at_16 : decode cX0_at 16 = .ok (.aaload, 1) := by decide +kernel
theorem dX0_at_17 : decode cX0_at 17 = .ok (.goto 4, 3) := by decide +kernel
theorem dX0_at_20 : decode cX0_at 20 = .ok (.aconst_null, 1) := by decide +kernel
theorem dX0_at_21 : decode cX0_at 21 = .ok (.areturn, 1) := by decide +kernel
def ins_X0_at (pc : Nat) : HOp := cond (Nat.blt pc 12) (cond (Nat.blt pc 5) (cond (Nat.blt pc 1) (cond (Nat.beq pc 0) (o_iload 1 1) o_bad) (cond (Nat.blt pc 2) (cond (Nat.beq pc 1) (o_aload 0 2) o_bad) (cond (Nat.beq pc 2) (o_getf 0 1 5) o_bad))) (cond (Nat.blt pc 8) (cond (Nat.beq pc 5) (o_callS 2 sp_X10_isBelow 8) o_bad) (cond (Nat.blt pc 11) (cond (Nat.beq pc 8) (o_if (fun x => x = 0) 20 11) o_bad) (cond (Nat.beq pc 11) (o_aload 0 12) o_bad)))) (cond (Nat.blt pc 17) (cond (Nat.blt pc 15) (cond (Nat.beq pc 12) (o_getf 0 0 15) o_bad) (cond (Nat.blt pc 16) (cond (Nat.beq pc 15) (o_iload 1 16) o_bad) (cond (Nat.beq pc 16) (o_aald 17) o_bad))) (cond (Nat.blt pc 20) (cond (Nat.beq pc 17) (o_goto 21) o_bad) (cond (Nat.blt pc 21) (cond (Nat.beq pc 20) (o_null 99 21) o_bad) (cond (Nat.beq pc 21) (o_aret) o_bad))))
set_option maxRecDepth 20000 in
theorem ok_X0_at : HOKs cX0_at RX0 2 (some (.object "VisitHall$Visit")) 2 ins_X0_at := fun _ => hnd (hnd (hnd (hlf (ok_iload_n dX0_at_0 rfl rfl)) (hnd (hlf (ok_aload_n dX0_at_1 rfl rfl)) (hlf (ok_getf (C := RX0) (T := TX0) dX0_at_2 rfl rfl (by decide) rfl inX0 wd_149 rfl)))) (hnd (hlf (ok_callSN (y := yX10_isBelow) dX0_at_5 ct_X10_isBelow (by decide) (by decide) wd_320 wd_776 wd_319 wd_42 (by decide +kernel) rfl)) (hnd (hlf (ok_if_eq dX0_at_8 (by decide) rfl)) (hlf (ok_aload_n dX0_at_11 rfl rfl))))) (hnd (hnd (hlf (ok_getf (C := RX0) (T := TX0) dX0_at_12 rfl rfl (by decide) rfl inX0 wd_146 rfl)) (hnd (hlf (ok_iload_n dX0_at_15 rfl rfl)) (hlf (ok_aald dX0_at_16 rfl)))) (hnd (hlf (ok_goto dX0_at_17 (by decide))) (hnd (hlf (ok_null dX0_at_20 rfl)) (hlf (ok_aret dX0_at_21)))))

theorem vc_X0_at : MVC ins_X0_at 2 2 sp_X0_at := by
  refine mvc0 60 fun as w σ q hl hs => ?_
  unfold sp_X0_at at hs
  split at hs
  rotate_left
  · exact hs.elim
  rename_i x
  obtain ⟨n, ⟨hn, hsz, hra⟩, h1, h2⟩ := hs
  apply br2
  · intro h
    have h : 0 ≤ x ∧ x < σ 0 0 1 := h
    rw [hsz] at h
    obtain ⟨i, hi, rfl⟩ := in_of h
    refine And.intro (fun h => absurd h (by decide)) (fun _ => ?_)
    refine And.intro (vp_in_nI (N := 100) (by omega) (by decide)) (fun o ho => ?_)
    obtain rfl := ra_at ho (hra i hi)
    exact h1 i hi rfl
  · intro h
    have h : ¬ (0 ≤ x ∧ x < σ 0 0 1) := h
    rw [hsz] at h
    exact And.intro (fun _ => h2 h) (fun h => absurd rfl h)
theorem ct_X0_at : Ctr yX0_at cX0_at 2 (some (.object "VisitHall$Visit")) 2 0 0 2 sp_X0_at := ctr_of (by decide +kernel) rfl (by decide) ok_X0_at vc_X0_at

def sp_X0_letAhead : HSp := fun as w σ K => match as with
  | [.inr (.inl (0, some 0)), .inl p] => ∃ n, Bk w σ n ∧ K (some (HI (nI (cnt (fun i => decide (σ 9 i 6 = 0 ∧ σ 9 i 0 = p ∧ ¬ σ 9 i 2 < σ 0 0 2)) n)))) w σ
  | _ => False
theorem dX0_letAhead_0 : decode cX0_letAhead 0 = .ok (.iconst 0, 1) := by decide +kernel
theorem dX0_letAhead_1 : decode cX0_letAhead 1 = .ok (.istore_n 2, 1) := by decide +kernel
theorem dX0_letAhead_2 : decode cX0_letAhead 2 = .ok (.iconst 0, 1) := by decide +kernel
theorem dX0_letAhead_3 : decode cX0_letAhead 3 = .ok (.istore_n 3, 1) := by decide +kernel
theorem dX0_letAhead_4 : decode cX0_letAhead 4 = .ok (.iload_n 3, 1) := by decide +kernel
theorem dX0_letAhead_5 : decode cX0_letAhead 5 = .ok (.aload_n 0, 1) := by decide +kernel
theorem dX0_letAhead_6 : decode cX0_letAhead 6 = .ok (.getfield 17, 3) := by decide +kernel
theorem dX0_letAhead_9 : decode cX0_letAhead 9 = .ok (.if_icmp .ge 54, 3) := by decide +kernel
theorem dX0_letAhead_12 : decode cX0_letAhead 12 = .ok (.aload_n 0, 1) := by decide +kernel
theorem dX0_letAhead_13 : decode cX0_letAhead 13 = .ok (.getfield 13, 3) := by decide +kernel
theorem dX0_letAhead_16 : decode cX0_letAhead 16 = .ok (.iload_n 3, 1) := by decide +kernel
theorem dX0_letAhead_17 : decode cX0_letAhead 17 = .ok (.aaload, 1) := by decide +kernel
theorem dX0_letAhead_18 : decode cX0_letAhead 18 = .ok (.astore 4, 2) := by decide +kernel
theorem dX0_letAhead_20 : decode cX0_letAhead 20 = .ok (.iload_n 2, 1) := by decide +kernel
theorem dX0_letAhead_21 : decode cX0_letAhead 21 = .ok (.aload 4, 2) := by decide +kernel
theorem dX0_letAhead_23 : decode cX0_letAhead 23 = .ok (.getfield 30, 3) := by decide +kernel
theorem dX0_letAhead_26 : decode cX0_letAhead 26 = .ok (.ifCond .ne 28, 3) := by decide +kernel
theorem dX0_letAhead_29 : decode cX0_letAhead 29 = .ok (.aload 4, 2) := by decide +kernel
theorem dX0_letAhead_31 : decode cX0_letAhead 31 = .ok (.getfield 33, 3) := by decide +kernel
theorem dX0_letAhead_34 : decode cX0_letAhead 34 = .ok (.iload_n 1, 1) := by decide +kernel
theorem dX0_letAhead_35 : decode cX0_letAhead 35 = .ok (.if_icmp .ne 19, 3) := by decide +kernel
theorem dX0_letAhead_38 : decode cX0_letAhead 38 = .ok (.aload 4, 2) := by decide +kernel
theorem dX0_letAhead_40 : decode cX0_letAhead 40 = .ok (.getfield 36, 3) := by decide +kernel
theorem dX0_letAhead_43 : decode cX0_letAhead 43 = .ok (.aload_n 0, 1) := by decide +kernel
theorem dX0_letAhead_44 : decode cX0_letAhead 44 = .ok (.getfield 39, 3) := by decide +kernel
theorem dX0_letAhead_47 : decode cX0_letAhead 47 = .ok (.if_icmp .lt 7, 3) := by decide +kernel
theorem dX0_letAhead_50 : decode cX0_letAhead 50 = .ok (.iconst 1, 1) := by decide +kernel
theorem dX0_letAhead_51 : decode cX0_letAhead 51 = .ok (.goto 4, 3) := by decide +kernel
theorem dX0_letAhead_54 : decode cX0_letAhead 54 = .ok (.iconst 0, 1) := by decide +kernel
theorem dX0_letAhead_55 : decode cX0_letAhead 55 = .ok (.iadd, 1) := by decide +kernel
theorem dX0_letAhead_56 : decode cX0_letAhead 56 = .ok (.istore_n 2, 1) := by decide +kernel
theorem dX0_letAhead_57 : decode cX0_letAhead 57 = .ok (.iinc 3 1, 3) := by decide +kernel
theorem dX0_letAhead_60 : decode cX0_letAhead 60 = .ok (.goto (-56), 3) := by decide +kernel
theorem dX0_letAhead_63 : decode cX0_letAhead 63 = .ok (.iload_n 2, 1) := by decide +kernel
theorem dX0_letAhead_64 : decode cX0_letAhead 64 = .ok (.ireturn, 1) := by decide +kernel
def ins_X0_letAhead (pc : Nat) : HOp := cond (Nat.blt pc 29) (cond (Nat.blt pc 12) (cond (Nat.blt pc 4) (cond (Nat.blt pc 2) (cond (Nat.blt pc 1) (cond (Nat.beq pc 0) (o_const (0) 1) o_bad) (cond (Nat.beq pc 1) (o_istore 2 2) o_bad)) (cond (Nat.blt pc 3) (cond (Nat.beq pc 2) (o_const (0) 3) o_bad) (cond (Nat.beq pc 3) (o_istore 3 4) o_bad))) (cond (Nat.blt pc 6) (cond (Nat.blt pc 5) (cond (Nat.beq pc 4) (o_iload 3 5) o_bad) (cond (Nat.beq pc 5) (o_aload 0 6) o_bad)) (cond (Nat.blt pc 9) (cond (Nat.beq pc 6) (o_getf 0 1 9) o_bad) (cond (Nat.beq pc 9) (o_icmp (fun x y => y ≤ x) 63 12) o_bad)))) (cond (Nat.blt pc 18) (cond (Nat.blt pc 16) (cond (Nat.blt pc 13) (cond (Nat.beq pc 12) (o_aload 0 13) o_bad) (cond (Nat.beq pc 13) (o_getf 0 0 16) o_bad)) (cond (Nat.blt pc 17) (cond (Nat.beq pc 16) (o_iload 3 17) o_bad) (cond (Nat.beq pc 17) (o_aald 18) o_bad))) (cond (Nat.blt pc 21) (cond (Nat.blt pc 20) (cond (Nat.beq pc 18) (o_astore 4 20) o_bad) (cond (Nat.beq pc 20) (o_iload 2 21) o_bad)) (cond (Nat.blt pc 23) (cond (Nat.beq pc 21) (o_aload 4 23) o_bad) (cond (Nat.blt pc 26) (cond (Nat.beq pc 23) (o_getf 9 6 26) o_bad) (cond (Nat.beq pc 26) (o_if (fun x => x = 0) 29 54) o_bad)))))) (cond (Nat.blt pc 50) (cond (Nat.blt pc 38) (cond (Nat.blt pc 34) (cond (Nat.blt pc 31) (cond (Nat.beq pc 29) (o_aload 4 31) o_bad) (cond (Nat.beq pc 31) (o_getf 9 0 34) o_bad)) (cond (Nat.blt pc 35) (cond (Nat.beq pc 34) (o_iload 1 35) o_bad) (cond (Nat.beq pc 35) (o_icmp (fun x y => x = y) 38 54) o_bad))) (cond (Nat.blt pc 43) (cond (Nat.blt pc 40) (cond (Nat.beq pc 38) (o_aload 4 40) o_bad) (cond (Nat.beq pc 40) (o_getf 9 2 43) o_bad)) (cond (Nat.blt pc 44) (cond (Nat.beq pc 43) (o_aload 0 44) o_bad) (cond (Nat.blt pc 47) (cond (Nat.beq pc 44) (o_getf 0 2 47) o_bad) (cond (Nat.beq pc 47) (o_icmp (fun x y => x < y) 54 50) o_bad))))) (cond (Nat.blt pc 56) (cond (Nat.blt pc 54) (cond (Nat.blt pc 51) (cond (Nat.beq pc 50) (o_const (1) 51) o_bad) (cond (Nat.beq pc 51) (o_goto 55) o_bad)) (cond (Nat.blt pc 55) (cond (Nat.beq pc 54) (o_const (0) 55) o_bad) (cond (Nat.beq pc 55) (o_bin (fun x y => x + y) 56) o_bad))) (cond (Nat.blt pc 60) (cond (Nat.blt pc 57) (cond (Nat.beq pc 56) (o_istore 2 57) o_bad) (cond (Nat.beq pc 57) (o_iinc 3 (1) 60) o_bad)) (cond (Nat.blt pc 63) (cond (Nat.beq pc 60) (o_goto 4) o_bad) (cond (Nat.blt pc 64) (cond (Nat.beq pc 63) (o_iload 2 64) o_bad) (cond (Nat.beq pc 64) (o_iret) o_bad))))))
set_option maxRecDepth 20000 in
theorem ok_X0_letAhead : HOKs cX0_letAhead RX0 5 (some .int) 1 ins_X0_letAhead := fun _ => hnd (hnd (hnd (hnd (hnd (hlf (ok_iconst dX0_letAhead_0 (by decide) rfl)) (hlf (ok_istore_n dX0_letAhead_1 rfl (by decide) rfl))) (hnd (hlf (ok_iconst dX0_letAhead_2 (by decide) rfl)) (hlf (ok_istore_n dX0_letAhead_3 rfl (by decide) rfl)))) (hnd (hnd (hlf (ok_iload_n dX0_letAhead_4 rfl rfl)) (hlf (ok_aload_n dX0_letAhead_5 rfl rfl))) (hnd (hlf (ok_getf (C := RX0) (T := TX0) dX0_letAhead_6 rfl rfl (by decide) rfl inX0 wd_149 rfl)) (hlf (ok_icmp_ge dX0_letAhead_9 (by decide) rfl))))) (hnd (hnd (hnd (hlf (ok_aload_n dX0_letAhead_12 rfl rfl)) (hlf (ok_getf (C := RX0) (T := TX0) dX0_letAhead_13 rfl rfl (by decide) rfl inX0 wd_146 rfl))) (hnd (hlf (ok_iload_n dX0_letAhead_16 rfl rfl)) (hlf (ok_aald dX0_letAhead_17 rfl)))) (hnd (hnd (hlf (ok_astore dX0_letAhead_18 (by decide) rfl)) (hlf (ok_iload_n dX0_letAhead_20 rfl rfl))) (hnd (hlf (ok_aload dX0_letAhead_21 rfl)) (hnd (hlf (ok_getfN (C := RX9) (T := TX9) dX0_letAhead_23 rfl rfl (by decide) rfl inX9 wd_264 rfl)) (hlf (ok_if_ne dX0_letAhead_26 (by decide) rfl))))))) (hnd (hnd (hnd (hnd (hlf (ok_aload dX0_letAhead_29 rfl)) (hlf (ok_getfN (C := RX9) (T := TX9) dX0_letAhead_31 rfl rfl (by decide) rfl inX9 wd_237 rfl))) (hnd (hlf (ok_iload_n dX0_letAhead_34 rfl rfl)) (hlf (ok_icmp_ne dX0_letAhead_35 (by decide) rfl)))) (hnd (hnd (hlf (ok_aload dX0_letAhead_38 rfl)) (hlf (ok_getfN (C := RX9) (T := TX9) dX0_letAhead_40 rfl rfl (by decide) rfl inX9 wd_248 rfl))) (hnd (hlf (ok_aload_n dX0_letAhead_43 rfl rfl)) (hnd (hlf (ok_getf (C := RX0) (T := TX0) dX0_letAhead_44 rfl rfl (by decide) rfl inX0 wd_154 rfl)) (hlf (ok_icmp_lt dX0_letAhead_47 (by decide) rfl)))))) (hnd (hnd (hnd (hlf (ok_iconst dX0_letAhead_50 (by decide) rfl)) (hlf (ok_goto dX0_letAhead_51 (by decide)))) (hnd (hlf (ok_iconst dX0_letAhead_54 (by decide) rfl)) (hlf (ok_iadd dX0_letAhead_55 rfl)))) (hnd (hnd (hlf (ok_istore_n dX0_letAhead_56 rfl (by decide) rfl)) (hlf (ok_iinc dX0_letAhead_57 (by decide) (by decide) rfl))) (hnd (hlf (ok_goto dX0_letAhead_60 (by decide))) (hnd (hlf (ok_iload_n dX0_letAhead_63 rfl rfl)) (hlf (ok_iret dX0_letAhead_64)))))))

theorem vc_X0_letAhead : MVC ins_X0_letAhead 5 2 sp_X0_letAhead := by
  refine mvc1 4 60 fun as w σ q hl hs => ?_
  unfold sp_X0_letAhead at hs
  split at hs
  rotate_left
  · exact hs.elim
  rename_i p
  obtain ⟨n, ⟨hn, hsz, hra⟩, hq⟩ := hs
  refine ⟨fun N ls st w' σ' => ∃ (i : Nat) (u v : Int32) (x : Option HV), i ≤ n ∧ N = n - i ∧ u = nI (cnt (fun i => decide (σ 9 i 6 = 0 ∧ σ 9 i 0 = p ∧ ¬ σ 9 i 2 < σ 0 0 2)) i) ∧ v = nI i ∧ ls = [some (HR 0 0), some (HI p), some (HI u), some (HI v), x] ∧ st = [] ∧ w = w' ∧ σ = σ', ?_, ?_⟩
  · rintro N ls st w' σ' ⟨i, u, v, x, hi, rfl, rfl, rfl, rfl, rfl, rfl, rfl⟩
    apply br2
    · intro h1
      obtain rfl := lp_end hsz hi h1
      exact hq
    · intro h1
      have hlt := lp_go hsz hi h1
      refine And.intro (vp_in_nI (N := 100) (by omega) (by decide)) (fun o ho => ?_)
      obtain rfl := ra_at ho (hra i hlt)
      repeat' (first | apply br2 | intro _)
      all_goals first
        | exact ⟨n - (i + 1), by omega, i + 1, _, _, _, hlt, rfl, by rw [cnt_n (by grind)]; exact Int32.add_zero _, nI_1 i, rfl, rfl, rfl, rfl⟩
        | exact ⟨n - (i + 1), by omega, i + 1, _, _, _, hlt, rfl, by rw [cnt_y (by grind)]; exact nI_1 _, nI_1 i, rfl, rfl, rfl, rfl⟩
  · exact ⟨n, 0, 0, 0, none, Nat.zero_le _, rfl, rfl, rfl, rfl, rfl, rfl, rfl⟩
theorem ct_X0_letAhead : Ctr yX0_letAhead cX0_letAhead 5 (some .int) 1 0 0 2 sp_X0_letAhead := ctr_of (by decide +kernel) rfl (by decide) ok_X0_letAhead vc_X0_letAhead

def sp_X0_letAt : HSp := fun as w σ K => match as with
  | [.inr (.inl (0, some 0)), .inl day, .inl half] => ∃ n, Bk w σ n ∧ K (some (HI (nI (cnt (fun i => decide (atL σ i day half)) n)))) w σ
  | _ => False
theorem dX0_letAt_0 : decode cX0_letAt 0 = .ok (.iconst 0, 1) := by decide +kernel
theorem dX0_letAt_1 : decode cX0_letAt 1 = .ok (.istore_n 3, 1) := by decide +kernel
theorem dX0_letAt_2 : decode cX0_letAt 2 = .ok (.iconst 0, 1) := by decide +kernel
theorem dX0_letAt_3 : decode cX0_letAt 3 = .ok (.istore 4, 2) := by decide +kernel
theorem dX0_letAt_5 : decode cX0_letAt 5 = .ok (.iload 4, 2) := by decide +kernel
theorem dX0_letAt_7 : decode cX0_letAt 7 = .ok (.aload_n 0, 1) := by decide +kernel
theorem dX0_letAt_8 : decode cX0_letAt 8 = .ok (.getfield 17, 3) := by decide +kernel
theorem dX0_letAt_11 : decode cX0_letAt 11 = .ok (.if_icmp .ge 32, 3) := by decide +kernel
theorem dX0_letAt_14 : decode cX0_letAt 14 = .ok (.iload_n 3, 1) := by decide +kernel
theorem dX0_letAt_15 : decode cX0_letAt 15 = .ok (.aload_n 0, 1) := by decide +kernel
theorem dX0_letAt_16 : decode cX0_letAt 16 = .ok (.getfield 13, 3) := by decide +kernel
theorem dX0_letAt_19 : decode cX0_letAt 19 = .ok (.iload 4, 2) := by decide +kernel
theorem dX0_letAt_21 : decode cX0_letAt 21 = .ok (.aaload, 1) := by decide +kernel
theorem dX0_letAt_22 : decode cX0_letAt 22 = .ok (.iload_n 1, 1) := by decide +kernel
theorem dX0_letAt_23 : decode cX0_letAt 23 = .ok (.iload_n 2, 1) := by decide +kernel
theorem dX0_letAt_24 : decode cX0_letAt 24 = .ok (.invokevirtual 42, 3) := by decide +kernel
theorem dX0_letAt_27 : decode cX0_letAt 27 = .ok (.ifCond .eq 7, 3) := by decide +kernel
theorem dX0_letAt_30 : decode cX0_letAt 30 = .ok (.iconst 1, 1) := by decide +kernel
theorem dX0_letAt_31 : decode cX0_letAt 31 = .ok (.goto 4, 3) := by decide +kernel
theorem dX0_letAt_34 : decode cX0_letAt 34 = .ok (.iconst 0, 1) := by decide +kernel
theorem dX0_letAt_35 : decode cX0_letAt 35 = .ok (.iadd, 1) := by decide +kernel
theorem dX0_letAt_36 : decode cX0_letAt 36 = .ok (.istore_n 3, 1) := by decide +kernel
theorem dX0_letAt_37 : decode cX0_letAt 37 = .ok (.iinc 4 1, 3) := by decide +kernel
theorem dX0_letAt_40 : decode cX0_letAt 40 = .ok (.goto (-35), 3) := by decide +kernel
theorem dX0_letAt_43 : decode cX0_letAt 43 = .ok (.iload_n 3, 1) := by decide +kernel
theorem dX0_letAt_44 : decode cX0_letAt 44 = .ok (.ireturn, 1) := by decide +kernel
def ins_X0_letAt (pc : Nat) : HOp := cond (Nat.blt pc 22) (cond (Nat.blt pc 8) (cond (Nat.blt pc 3) (cond (Nat.blt pc 1) (cond (Nat.beq pc 0) (o_const (0) 1) o_bad) (cond (Nat.blt pc 2) (cond (Nat.beq pc 1) (o_istore 3 2) o_bad) (cond (Nat.beq pc 2) (o_const (0) 3) o_bad))) (cond (Nat.blt pc 5) (cond (Nat.beq pc 3) (o_istore 4 5) o_bad) (cond (Nat.blt pc 7) (cond (Nat.beq pc 5) (o_iload 4 7) o_bad) (cond (Nat.beq pc 7) (o_aload 0 8) o_bad)))) (cond (Nat.blt pc 15) (cond (Nat.blt pc 11) (cond (Nat.beq pc 8) (o_getf 0 1 11) o_bad) (cond (Nat.blt pc 14) (cond (Nat.beq pc 11) (o_icmp (fun x y => y ≤ x) 43 14) o_bad) (cond (Nat.beq pc 14) (o_iload 3 15) o_bad))) (cond (Nat.blt pc 19) (cond (Nat.blt pc 16) (cond (Nat.beq pc 15) (o_aload 0 16) o_bad) (cond (Nat.beq pc 16) (o_getf 0 0 19) o_bad)) (cond (Nat.blt pc 21) (cond (Nat.beq pc 19) (o_iload 4 21) o_bad) (cond (Nat.beq pc 21) (o_aald 22) o_bad))))) (cond (Nat.blt pc 34) (cond (Nat.blt pc 27) (cond (Nat.blt pc 23) (cond (Nat.beq pc 22) (o_iload 1 23) o_bad) (cond (Nat.blt pc 24) (cond (Nat.beq pc 23) (o_iload 2 24) o_bad) (cond (Nat.beq pc 24) (o_callV 3 9 sp_X9_isLetAt 27) o_bad))) (cond (Nat.blt pc 30) (cond (Nat.beq pc 27) (o_if (fun x => x = 0) 34 30) o_bad) (cond (Nat.blt pc 31) (cond (Nat.beq pc 30) (o_const (1) 31) o_bad) (cond (Nat.beq pc 31) (o_goto 35) o_bad)))) (cond (Nat.blt pc 37) (cond (Nat.blt pc 35) (cond (Nat.beq pc 34) (o_const (0) 35) o_bad) (cond (Nat.blt pc 36) (cond (Nat.beq pc 35) (o_bin (fun x y => x + y) 36) o_bad) (cond (Nat.beq pc 36) (o_istore 3 37) o_bad))) (cond (Nat.blt pc 43) (cond (Nat.blt pc 40) (cond (Nat.beq pc 37) (o_iinc 4 (1) 40) o_bad) (cond (Nat.beq pc 40) (o_goto 5) o_bad)) (cond (Nat.blt pc 44) (cond (Nat.beq pc 43) (o_iload 3 44) o_bad) (cond (Nat.beq pc 44) (o_iret) o_bad)))))
set_option maxRecDepth 20000 in
theorem ok_X0_letAt : HOKs cX0_letAt RX0 5 (some .int) 2 ins_X0_letAt := fun _ => hnd (hnd (hnd (hnd (hlf (ok_iconst dX0_letAt_0 (by decide) rfl)) (hnd (hlf (ok_istore_n dX0_letAt_1 rfl (by decide) rfl)) (hlf (ok_iconst dX0_letAt_2 (by decide) rfl)))) (hnd (hlf (ok_istore dX0_letAt_3 (by decide) rfl)) (hnd (hlf (ok_iload dX0_letAt_5 rfl)) (hlf (ok_aload_n dX0_letAt_7 rfl rfl))))) (hnd (hnd (hlf (ok_getf (C := RX0) (T := TX0) dX0_letAt_8 rfl rfl (by decide) rfl inX0 wd_149 rfl)) (hnd (hlf (ok_icmp_ge dX0_letAt_11 (by decide) rfl)) (hlf (ok_iload_n dX0_letAt_14 rfl rfl)))) (hnd (hnd (hlf (ok_aload_n dX0_letAt_15 rfl rfl)) (hlf (ok_getf (C := RX0) (T := TX0) dX0_letAt_16 rfl rfl (by decide) rfl inX0 wd_146 rfl))) (hnd (hlf (ok_iload dX0_letAt_19 rfl)) (hlf (ok_aald dX0_letAt_21 rfl)))))) (hnd (hnd (hnd (hlf (ok_iload_n dX0_letAt_22 rfl rfl)) (hnd (hlf (ok_iload_n dX0_letAt_23 rfl rfl)) (hlf (ok_callV (y := yX9_isLetAt) (n' := 2) (C := RX9) (T := TX9) dX0_letAt_24 ct_X9_isLetAt (by decide) (by decide) wd_513 wd_510 wd_511 wd_512 wd_50 rfl (by decide +kernel) rfl rfl rfl)))) (hnd (hlf (ok_if_eq dX0_letAt_27 (by decide) rfl)) (hnd (hlf (ok_iconst dX0_letAt_30 (by decide) rfl)) (hlf (ok_goto dX0_letAt_31 (by decide)))))) (hnd (hnd (hlf (ok_iconst dX0_letAt_34 (by decide) rfl)) (hnd (hlf (ok_iadd dX0_letAt_35 rfl)) (hlf (ok_istore_n dX0_letAt_36 rfl (by decide) rfl)))) (hnd (hnd (hlf (ok_iinc dX0_letAt_37 (by decide) (by decide) rfl)) (hlf (ok_goto dX0_letAt_40 (by decide)))) (hnd (hlf (ok_iload_n dX0_letAt_43 rfl rfl)) (hlf (ok_iret dX0_letAt_44))))))

theorem vc_X0_letAt : MVC ins_X0_letAt 5 3 sp_X0_letAt := by
  refine mvc1 5 60 fun as w σ q hl hs => ?_
  unfold sp_X0_letAt at hs
  split at hs
  rotate_left
  · exact hs.elim
  rename_i day half
  obtain ⟨n, ⟨hn, hsz, hra⟩, hq⟩ := hs
  refine ⟨fun N ls st w' σ' => ∃ (i : Nat) (u v : Int32), i ≤ n ∧ N = n - i ∧ u = nI (cnt (fun i => decide (atL σ i day half)) i) ∧ v = nI i ∧ ls = [some (HR 0 0), some (HI day), some (HI half), some (HI u), some (HI v)] ∧ st = [] ∧ w = w' ∧ σ = σ', ?_, ?_⟩
  · rintro N ls st w' σ' ⟨i, u, v, hi, rfl, rfl, rfl, rfl, rfl, rfl, rfl⟩
    apply br2
    · intro h1
      obtain rfl := lp_end hsz hi h1
      exact hq
    · intro h1
      have hlt := lp_go hsz hi h1
      refine And.intro (vp_in_nI (N := 100) (by omega) (by decide)) (fun o ho => ?_)
      obtain rfl := ra_at ho (hra i hlt)
      apply br2
      · intro h2
        refine And.intro (fun h => absurd h (by decide)) (fun _ => ?_)
        exact ⟨n - (i + 1), by omega, i + 1, _, _, hlt, rfl, by rw [cnt_y (decide_eq_true h2)]; exact nI_1 _, nI_1 i, rfl, rfl, rfl, rfl⟩
      · intro h2
        refine And.intro (fun _ => ?_) (fun h => absurd rfl h)
        exact ⟨n - (i + 1), by omega, i + 1, _, _, hlt, rfl, by rw [cnt_n (decide_eq_false h2)]; exact Int32.add_zero _, nI_1 i, rfl, rfl, rfl, rfl⟩
  · exact ⟨n, 0, 0, 0, Nat.zero_le _, rfl, rfl, rfl, rfl, rfl, rfl, rfl⟩
theorem ct_X0_letAt : Ctr yX0_letAt cX0_letAt 5 (some .int) 2 0 0 3 sp_X0_letAt := ctr_of (by decide +kernel) rfl (by decide) ok_X0_letAt vc_X0_letAt
end
section
abbrev yld (σ : HS) (i : Nat) (day half : Int32) : Prop := atL σ i day half ∧ σ 9 i 5 = 0
def sp_X0_lastThatYields : HSp := fun as w σ K => match as with
  | [.inr (.inl (0, some 0)), .inl day, .inl half] => ∃ n, Bk w σ n ∧ (∀ i, i < n → yld σ i day half → (∀ j, i < j → j < n → ¬ yld σ j day half) → K (some (HR 9 i)) w σ) ∧ ((∀ j, j < n → ¬ yld σ j day half) → K (some (HO 99 none)) w σ)
  | _ => False
theorem nI_m1 {i : Nat} (h : 0 < i) : nI i + (-1) = nI (i - 1) := by
  obtain ⟨j, rfl⟩ : ∃ j, i = j + 1 := ⟨i - 1, by omega⟩
  exact pk_m1 j
theorem dX0_lastThatYields_0 : decode cX0_lastThatYields 0 = .ok (.aload_n 0, 1) := by decide +kernel
theorem dX0_lastThatYields_1 : decode cX0_lastThatYields 1 = .ok (.getfield 17, 3) := by decide +kernel
theorem dX0_lastThatYields_4 : decode cX0_lastThatYields 4 = .ok (.iconst 1, 1) := by decide +kernel
theorem dX0_lastThatYields_5 : decode cX0_lastThatYields 5 = .ok (.isub, 1) := by decide +kernel
theorem dX0_lastThatYields_6 : decode cX0_lastThatYields 6 = .ok (.istore_n 3, 1) := by decide +kernel
theorem dX0_lastThatYields_7 : decode cX0_lastThatYields 7 = .ok (.iload_n 3, 1) := by decide +kernel
theorem dX0_lastThatYields_8 : decode cX0_lastThatYields 8 = .ok (.ifCond .lt 42, 3) := by decide +kernel
theorem dX0_lastThatYields_11 : decode cX0_lastThatYields 11 = .ok (.aload_n 0, 1) := by decide +kernel
theorem dX0_lastThatYields_12 : decode cX0_lastThatYields 12 = .ok (.getfield 13, 3) := by decide +kernel
theorem dX0_lastThatYields_15 : decode cX0_lastThatYields 15 = .ok (.iload_n 3, 1) := by decide +kernel
theorem dX0_lastThatYields_16 : decode cX0_lastThatYields 16 = .ok (.aaload, 1) := by decide +kernel
theorem dX0_lastThatYields_17 : decode cX0_lastThatYields 17 = .ok (.iload_n 1, 1) := by decide +kernel
theorem dX0_lastThatYields_18 : decode cX0_lastThatYields 18 = .ok (.iload_n 2, 1) := by decide +kernel
theorem dX0_lastThatYields_19 : decode cX0_lastThatYields 19 = .ok (.invokevirtual 42, 3) := by decide +kernel
theorem dX0_lastThatYields_22 : decode cX0_lastThatYields 22 = .ok (.ifCond .eq 22, 3) := by decide +kernel
theorem dX0_lastThatYields_25 : decode cX0_lastThatYields 25 = .ok (.aload_n 0, 1) := by decide +kernel
theorem dX0_lastThatYields_26 : decode cX0_lastThatYields 26 = .ok (.getfield 13, 3) := by decide +kernel
theorem dX0_lastThatYields_29 : decode cX0_lastThatYields 29 = .ok (.iload_n 3, 1) := by decide +kernel
theorem dX0_lastThatYields_30 : decode cX0_lastThatYields 30 = .ok (.aaload, 1) := by decide +kernel
theorem dX0_lastThatYields_31 : decode cX0_lastThatYields 31 = .ok (.getfield 45, 3) := by decide +kernel
theorem dX0_lastThatYields_34 : decode cX0_lastThatYields 34 = .ok (.ifCond .ne 10, 3) := by decide +kernel
theorem dX0_lastThatYields_37 : decode cX0_lastThatYields 37 = .ok (.aload_n 0, 1) := by decide +kernel
theorem dX0_lastThatYields_38 : decode cX0_lastThatYields 38 = .ok (.getfield 13, 3) := by decide +kernel
theorem dX0_lastThatYields_41 : decode cX0_lastThatYields 41 = .ok (.iload_n 3, 1) := by decide +kernel
theorem dX0_lastThatYields_42 : decode cX0_lastThatYields 42 = .ok (.aaload, 1) := by decide +kernel
theorem dX0_lastThatYields_43 : decode cX0_lastThatYields 43 = .ok (.areturn, 1) := by decide +kernel
theorem dX0_lastThatYields_44 : decode cX0_lastThatYields 44 = .ok (.iinc 3 (-1), 3) := by decide +kernel
theorem dX0_lastThatYields_47 : decode cX0_lastThatYields 47 = .ok (.goto (-40), 3) := by decide +kernel
theorem dX0_lastThatYields_50 : decode cX0_lastThatYields 50 = .ok (.aconst_null, 1) := by decide +kernel
theorem dX0_lastThatYields_51 : decode cX0_lastThatYields 51 = .ok (.areturn, 1) := by decide +kernel
def ins_X0_lastThatYields (pc : Nat) : HOp := cond (Nat.blt pc 25) (cond (Nat.blt pc 11) (cond (Nat.blt pc 5) (cond (Nat.blt pc 1) (cond (Nat.beq pc 0) (o_aload 0 1) o_bad) (cond (Nat.blt pc 4) (cond (Nat.beq pc 1) (o_getf 0 1 4) o_bad) (cond (Nat.beq pc 4) (o_const (1) 5) o_bad))) (cond (Nat.blt pc 7) (cond (Nat.blt pc 6) (cond (Nat.beq pc 5) (o_bin (fun x y => x - y) 6) o_bad) (cond (Nat.beq pc 6) (o_istore 3 7) o_bad)) (cond (Nat.blt pc 8) (cond (Nat.beq pc 7) (o_iload 3 8) o_bad) (cond (Nat.beq pc 8) (o_if (fun x => x < 0) 50 11) o_bad)))) (cond (Nat.blt pc 17) (cond (Nat.blt pc 15) (cond (Nat.blt pc 12) (cond (Nat.beq pc 11) (o_aload 0 12) o_bad) (cond (Nat.beq pc 12) (o_getf 0 0 15) o_bad)) (cond (Nat.blt pc 16) (cond (Nat.beq pc 15) (o_iload 3 16) o_bad) (cond (Nat.beq pc 16) (o_aald 17) o_bad))) (cond (Nat.blt pc 19) (cond (Nat.blt pc 18) (cond (Nat.beq pc 17) (o_iload 1 18) o_bad) (cond (Nat.beq pc 18) (o_iload 2 19) o_bad)) (cond (Nat.blt pc 22) (cond (Nat.beq pc 19) (o_callV 3 9 sp_X9_isLetAt 22) o_bad) (cond (Nat.beq pc 22) (o_if (fun x => x = 0) 44 25) o_bad))))) (cond (Nat.blt pc 38) (cond (Nat.blt pc 30) (cond (Nat.blt pc 26) (cond (Nat.beq pc 25) (o_aload 0 26) o_bad) (cond (Nat.blt pc 29) (cond (Nat.beq pc 26) (o_getf 0 0 29) o_bad) (cond (Nat.beq pc 29) (o_iload 3 30) o_bad))) (cond (Nat.blt pc 34) (cond (Nat.blt pc 31) (cond (Nat.beq pc 30) (o_aald 31) o_bad) (cond (Nat.beq pc 31) (o_getf 9 5 34) o_bad)) (cond (Nat.blt pc 37) (cond (Nat.beq pc 34) (o_if (fun x => x = 0) 37 44) o_bad) (cond (Nat.beq pc 37) (o_aload 0 38) o_bad)))) (cond (Nat.blt pc 44) (cond (Nat.blt pc 42) (cond (Nat.blt pc 41) (cond (Nat.beq pc 38) (o_getf 0 0 41) o_bad) (cond (Nat.beq pc 41) (o_iload 3 42) o_bad)) (cond (Nat.blt pc 43) (cond (Nat.beq pc 42) (o_aald 43) o_bad) (cond (Nat.beq pc 43) (o_aret) o_bad))) (cond (Nat.blt pc 50) (cond (Nat.blt pc 47) (cond (Nat.beq pc 44) (o_iinc 3 (-1) 47) o_bad) (cond (Nat.beq pc 47) (o_goto 7) o_bad)) (cond (Nat.blt pc 51) (cond (Nat.beq pc 50) (o_null 99 51) o_bad) (cond (Nat.beq pc 51) (o_aret) o_bad)))))
set_option maxRecDepth 20000 in
theorem ok_X0_lastThatYields : HOKs cX0_lastThatYields RX0 4 (some (.object "VisitHall$Visit")) 2 ins_X0_lastThatYields := fun _ => hnd (hnd (hnd (hnd (hlf (ok_aload_n dX0_lastThatYields_0 rfl rfl)) (hnd (hlf (ok_getf (C := RX0) (T := TX0) dX0_lastThatYields_1 rfl rfl (by decide) rfl inX0 wd_149 rfl)) (hlf (ok_iconst dX0_lastThatYields_4 (by decide) rfl)))) (hnd (hnd (hlf (ok_isub dX0_lastThatYields_5 rfl)) (hlf (ok_istore_n dX0_lastThatYields_6 rfl (by decide) rfl))) (hnd (hlf (ok_iload_n dX0_lastThatYields_7 rfl rfl)) (hlf (ok_if_lt dX0_lastThatYields_8 (by decide) rfl))))) (hnd (hnd (hnd (hlf (ok_aload_n dX0_lastThatYields_11 rfl rfl)) (hlf (ok_getf (C := RX0) (T := TX0) dX0_lastThatYields_12 rfl rfl (by decide) rfl inX0 wd_146 rfl))) (hnd (hlf (ok_iload_n dX0_lastThatYields_15 rfl rfl)) (hlf (ok_aald dX0_lastThatYields_16 rfl)))) (hnd (hnd (hlf (ok_iload_n dX0_lastThatYields_17 rfl rfl)) (hlf (ok_iload_n dX0_lastThatYields_18 rfl rfl))) (hnd (hlf (ok_callV (y := yX9_isLetAt) (n' := 2) (C := RX9) (T := TX9) dX0_lastThatYields_19 ct_X9_isLetAt (by decide) (by decide) wd_513 wd_510 wd_511 wd_512 wd_50 rfl (by decide +kernel) rfl rfl rfl)) (hlf (ok_if_eq dX0_lastThatYields_22 (by decide) rfl)))))) (hnd (hnd (hnd (hlf (ok_aload_n dX0_lastThatYields_25 rfl rfl)) (hnd (hlf (ok_getf (C := RX0) (T := TX0) dX0_lastThatYields_26 rfl rfl (by decide) rfl inX0 wd_146 rfl)) (hlf (ok_iload_n dX0_lastThatYields_29 rfl rfl)))) (hnd (hnd (hlf (ok_aald dX0_lastThatYields_30 rfl)) (hlf (ok_getfN (C := RX9) (T := TX9) dX0_lastThatYields_31 rfl rfl (by decide) rfl inX9 wd_259 rfl))) (hnd (hlf (ok_if_ne dX0_lastThatYields_34 (by decide) rfl)) (hlf (ok_aload_n dX0_lastThatYields_37 rfl rfl))))) (hnd (hnd (hnd (hlf (ok_getf (C := RX0) (T := TX0) dX0_lastThatYields_38 rfl rfl (by decide) rfl inX0 wd_146 rfl)) (hlf (ok_iload_n dX0_lastThatYields_41 rfl rfl))) (hnd (hlf (ok_aald dX0_lastThatYields_42 rfl)) (hlf (ok_aret dX0_lastThatYields_43)))) (hnd (hnd (hlf (ok_iinc dX0_lastThatYields_44 (by decide) (by decide) rfl)) (hlf (ok_goto dX0_lastThatYields_47 (by decide)))) (hnd (hlf (ok_null dX0_lastThatYields_50 rfl)) (hlf (ok_aret dX0_lastThatYields_51))))))

theorem vc_X0_lastThatYields : MVC ins_X0_lastThatYields 4 3 sp_X0_lastThatYields := by
  refine mvc1 7 60 fun as w σ q hl hs => ?_
  unfold sp_X0_lastThatYields at hs
  split at hs
  rotate_left
  · exact hs.elim
  rename_i day half
  obtain ⟨n, ⟨hn, hsz, hra⟩, hq1, hq2⟩ := hs
  refine ⟨fun N ls st w' σ' => ∃ (v : Int32), N ≤ n ∧ v = nI N - 1 ∧ (∀ j, N ≤ j → j < n → ¬ yld σ j day half) ∧ ls = [some (HR 0 0), some (HI day), some (HI half), some (HI v)] ∧ st = [] ∧ w = w' ∧ σ = σ', ?_, ?_⟩
  · rintro N ls st w' σ' ⟨v, hi, rfl, hno, rfl, rfl, rfl, rfl⟩
    cases N with
    | zero =>
      refine And.intro (fun _ => hq2 fun j hj => hno j (Nat.zero_le _) hj) (fun h => absurd (by decide) h)
    | succ i =>
      have e : nI (i + 1) - 1 = nI i := nI_pred i
      rw [e]
      refine And.intro (fun h => absurd h (nI_pos (by omega))) (fun _ => ?_)
      have hin : vp_in (nI i) 100 := vp_in_nI (N := 100) (by omega) (by decide)
      refine And.intro hin (fun o ho => ?_)
      obtain rfl := ra_at ho (hra i (by omega))
      have hback : ¬ yld σ i day half → ∃ N', N' < i + 1 ∧ ∃ (v : Int32), N' ≤ n ∧ v = nI N' - 1 ∧ (∀ j, N' ≤ j → j < n → ¬ yld σ j day half) ∧ [some (HR 0 0), some (HI day), some (HI half), some (HI (nI i + (-1)))] = [some (HR 0 0), some (HI day), some (HI half), some (HI v)] ∧ ([] : List HV) = [] ∧ w = w ∧ σ = σ := fun h =>
        ⟨i, by omega, nI i - 1, by omega, rfl, fun j h1 h2 => (Nat.eq_or_lt_of_le h1).elim (fun e => e ▸ h) (fun h3 => hno j h3 h2), by rw [show nI i + (-1) = nI i - 1 from (Int32.sub_eq_add_neg ..).symm], rfl, rfl, rfl⟩
      apply br2
      · intro h2
        refine And.intro (fun h => absurd h (by decide)) (fun _ => ?_)
        refine And.intro hin (fun o ho => ?_)
        obtain rfl := ra_at ho (hra i (by omega))
        apply br2
        · intro h3
          refine And.intro hin (fun o ho => ?_)
          obtain rfl := ra_at ho (hra i (by omega))
          exact hq1 i (by omega) ⟨h2, h3⟩ (fun j h4 h5 => hno j h4 h5)
        · intro h3
          exact hback fun h => h3 h.2
      · intro h2
        refine And.intro (fun _ => ?_) (fun h => absurd rfl h)
        exact hback fun h => h2 h.1
  · exact ⟨n, σ 0 0 1 - 1, Nat.le_refl _, by rw [hsz], fun j h1 h2 => absurd h1 (by omega), rfl, rfl, rfl, rfl⟩
theorem ct_X0_lastThatYields : Ctr yX0_lastThatYields cX0_lastThatYields 4 (some (.object "VisitHall$Visit")) 2 0 0 3 sp_X0_lastThatYields := ctr_of (by decide +kernel) rfl (by decide) ok_X0_lastThatYields vc_X0_lastThatYields

abbrev gbP (σ : HS) (i : Nat) (p s d : Int32) : Prop := σ 9 i 6 = 0 ∧ σ 9 i 0 = p ∧ ¬ σ 9 i 1 &&& s = 0 ∧ ¬ σ 9 i 2 < d ∧ ¬ σ 9 i 2 < σ 0 0 2
def gbS (σ : HS) (p s d : Int32) (n : Nat) : HS := fun k i f => if k = 9 ∧ f = 6 ∧ i < n ∧ gbP σ i p s d then 2 else σ k i f
def sp_X0_giveBackAll : HSp := fun as w σ K => match as with
  | [.inr (.inl (0, some 0)), .inl p, .inl s, .inl d] => ∃ n, Bk w σ n ∧ K (some (HI (nI (cnt (fun i => decide (gbP σ i p s d)) n)))) w (gbS σ p s d n)
  | _ => False
theorem gbS_0 (σ : HS) (p s d : Int32) : gbS σ p s d 0 = σ := by
  funext k i f
  simp [gbS]
theorem gbS_y {σ : HS} {p s d : Int32} {i : Nat} (h : gbP σ i p s d) : up3 (gbS σ p s d i) 9 i 6 2 = gbS σ p s d (i + 1) := by
  funext k j f
  simp only [gbS, up3]
  grind
theorem gbS_n {σ : HS} {p s d : Int32} {i : Nat} (h : ¬ gbP σ i p s d) : gbS σ p s d i = gbS σ p s d (i + 1) := by
  funext k j f
  simp only [gbS]
  grind
theorem gbS_at {σ : HS} {p s d : Int32} {i f : Nat} : gbS σ p s d i 9 i f = σ 9 i f := by
  simp [gbS]
theorem gbS_o {σ : HS} {p s d : Int32} {i k j f : Nat} (h : k ≠ 9) : gbS σ p s d i k j f = σ k j f := by
  simp [gbS, h]
theorem dX0_giveBackAll_0 : decode cX0_giveBackAll 0 = .ok (.iconst 0, 1) := by decide +kernel
theorem dX0_giveBackAll_1 : decode cX0_giveBackAll 1 = .ok (.istore 4, 2) := by decide +kernel
theorem dX0_giveBackAll_3 : decode cX0_giveBackAll 3 = .ok (.iconst 0, 1) := by decide +kernel
theorem dX0_giveBackAll_4 : decode cX0_giveBackAll 4 = .ok (.istore 5, 2) := by decide +kernel
theorem dX0_giveBackAll_6 : decode cX0_giveBackAll 6 = .ok (.iload 5, 2) := by decide +kernel
theorem dX0_giveBackAll_8 : decode cX0_giveBackAll 8 = .ok (.aload_n 0, 1) := by decide +kernel
theorem dX0_giveBackAll_9 : decode cX0_giveBackAll 9 = .ok (.getfield 17, 3) := by decide +kernel
theorem dX0_giveBackAll_12 : decode cX0_giveBackAll 12 = .ok (.if_icmp .ge 75, 3) := by decide +kernel
theorem dX0_giveBackAll_15 : decode cX0_giveBackAll 15 = .ok (.aload_n 0, 1) := by decide +kernel
theorem dX0_giveBackAll_16 : decode cX0_giveBackAll 16 = .ok (.getfield 13, 3) := by decide +kernel
theorem dX0_giveBackAll_19 : decode cX0_giveBackAll 19 = .ok (.iload 5, 2) := by decide +kernel
theorem dX0_giveBackAll_21 : decode cX0_giveBackAll 21 = .ok (.aaload, 1) := by decide +kernel
theorem dX0_giveBackAll_22 : decode cX0_giveBackAll 22 = .ok (.astore 6, 2) := by decide +kernel
theorem dX0_giveBackAll_24 : decode cX0_giveBackAll 24 = .ok (.aload 6, 2) := by decide +kernel
theorem dX0_giveBackAll_26 : decode cX0_giveBackAll 26 = .ok (.getfield 30, 3) := by decide +kernel
theorem dX0_giveBackAll_29 : decode cX0_giveBackAll 29 = .ok (.ifCond .ne 52, 3) := by decide +kernel
theorem dX0_giveBackAll_32 : decode cX0_giveBackAll 32 = .ok (.aload 6, 2) := by decide +kernel
theorem dX0_giveBackAll_34 : decode cX0_giveBackAll 34 = .ok (.getfield 33, 3) := by decide +kernel
theorem dX0_giveBackAll_37 : decode cX0_giveBackAll 37 = .ok (.iload_n 1, 1) := by decide +kernel
theorem dX0_giveBackAll_38 : decode cX0_giveBackAll 38 = .ok (.if_icmp .ne 43, 3) := by decide +kernel
theorem dX0_giveBackAll_41 : decode cX0_giveBackAll 41 = .ok (.aload 6, 2) := by decide +kernel
theorem dX0_giveBackAll_43 : decode cX0_giveBackAll 43 = .ok (.getfield 49, 3) := by decide +kernel
theorem dX0_giveBackAll_46 : decode cX0_giveBackAll 46 = .ok (.iload_n 2, 1) := by decide +kernel
theorem dX0_giveBackAll_47 : decode cX0_giveBackAll 47 = .ok (.iand, 1) := by decide +kernel
theorem dX0_giveBackAll_48 : decode cX0_giveBackAll 48 = .ok (.ifCond .eq 33, 3) := by decide +kernel
theorem dX0_giveBackAll_51 : decode cX0_giveBackAll 51 = .ok (.aload 6, 2) := by decide +kernel
theorem dX0_giveBackAll_53 : decode cX0_giveBackAll 53 = .ok (.getfield 36, 3) := by decide +kernel
theorem dX0_giveBackAll_56 : decode cX0_giveBackAll 56 = .ok (.iload_n 3, 1) := by decide +kernel
theorem dX0_giveBackAll_57 : decode cX0_giveBackAll 57 = .ok (.if_icmp .lt 24, 3) := by decide +kernel
theorem dX0_giveBackAll_60 : decode cX0_giveBackAll 60 = .ok (.aload 6, 2) := by decide +kernel
theorem dX0_giveBackAll_62 : decode cX0_giveBackAll 62 = .ok (.getfield 36, 3) := by decide +kernel
theorem dX0_giveBackAll_65 : decode cX0_giveBackAll 65 = .ok (.aload_n 0, 1) := by decide +kernel
theorem dX0_giveBackAll_66 : decode cX0_giveBackAll 66 = .ok (.getfield 39, 3) := by decide +kernel
theorem dX0_giveBackAll_69 : decode cX0_giveBackAll 69 = .ok (.if_icmp .lt 12, 3) := by decide +kernel
theorem dX0_giveBackAll_72 : decode cX0_giveBackAll 72 = .ok (.aload 6, 2) := by decide +kernel
theorem dX0_giveBackAll_74 : decode cX0_giveBackAll 74 = .ok (.iconst 2, 1) := by decide +kernel
theorem dX0_giveBackAll_75 : decode cX0_giveBackAll 75 = .ok (.putfield 30, 3) := by decide +kernel
theorem dX0_giveBackAll_78 : decode cX0_giveBackAll 78 = .ok (.iinc 4 1, 3) := by decide +kernel
theorem dX0_giveBackAll_81 : decode cX0_giveBackAll 81 = .ok (.iinc 5 1, 3) := by decide +kernel
theorem dX0_giveBackAll_84 : decode cX0_giveBackAll 84 = .ok (.goto (-78), 3) := by decide +kernel
theorem dX0_giveBackAll_87 : decode cX0_giveBackAll 87 = .ok (.iload 4, 2) := by decide +kernel
theorem dX0_giveBackAll_89 : decode cX0_giveBackAll 89 = .ok (.ireturn, 1) := by decide +kernel
def ins_X0_giveBackAll (pc : Nat) : HOp := cond (Nat.blt pc 43) (cond (Nat.blt pc 19) (cond (Nat.blt pc 8) (cond (Nat.blt pc 3) (cond (Nat.blt pc 1) (cond (Nat.beq pc 0) (o_const (0) 1) o_bad) (cond (Nat.beq pc 1) (o_istore 4 3) o_bad)) (cond (Nat.blt pc 4) (cond (Nat.beq pc 3) (o_const (0) 4) o_bad) (cond (Nat.blt pc 6) (cond (Nat.beq pc 4) (o_istore 5 6) o_bad) (cond (Nat.beq pc 6) (o_iload 5 8) o_bad)))) (cond (Nat.blt pc 12) (cond (Nat.blt pc 9) (cond (Nat.beq pc 8) (o_aload 0 9) o_bad) (cond (Nat.beq pc 9) (o_getf 0 1 12) o_bad)) (cond (Nat.blt pc 15) (cond (Nat.beq pc 12) (o_icmp (fun x y => y ≤ x) 87 15) o_bad) (cond (Nat.blt pc 16) (cond (Nat.beq pc 15) (o_aload 0 16) o_bad) (cond (Nat.beq pc 16) (o_getf 0 0 19) o_bad))))) (cond (Nat.blt pc 29) (cond (Nat.blt pc 22) (cond (Nat.blt pc 21) (cond (Nat.beq pc 19) (o_iload 5 21) o_bad) (cond (Nat.beq pc 21) (o_aald 22) o_bad)) (cond (Nat.blt pc 24) (cond (Nat.beq pc 22) (o_astore 6 24) o_bad) (cond (Nat.blt pc 26) (cond (Nat.beq pc 24) (o_aload 6 26) o_bad) (cond (Nat.beq pc 26) (o_getf 9 6 29) o_bad)))) (cond (Nat.blt pc 37) (cond (Nat.blt pc 32) (cond (Nat.beq pc 29) (o_if (fun x => x = 0) 32 81) o_bad) (cond (Nat.blt pc 34) (cond (Nat.beq pc 32) (o_aload 6 34) o_bad) (cond (Nat.beq pc 34) (o_getf 9 0 37) o_bad))) (cond (Nat.blt pc 38) (cond (Nat.beq pc 37) (o_iload 1 38) o_bad) (cond (Nat.blt pc 41) (cond (Nat.beq pc 38) (o_icmp (fun x y => x = y) 41 81) o_bad) (cond (Nat.beq pc 41) (o_aload 6 43) o_bad)))))) (cond (Nat.blt pc 65) (cond (Nat.blt pc 53) (cond (Nat.blt pc 47) (cond (Nat.blt pc 46) (cond (Nat.beq pc 43) (o_getf 9 1 46) o_bad) (cond (Nat.beq pc 46) (o_iload 2 47) o_bad)) (cond (Nat.blt pc 48) (cond (Nat.beq pc 47) (o_bin (fun x y => x &&& y) 48) o_bad) (cond (Nat.blt pc 51) (cond (Nat.beq pc 48) (o_if (fun x => x = 0) 81 51) o_bad) (cond (Nat.beq pc 51) (o_aload 6 53) o_bad)))) (cond (Nat.blt pc 57) (cond (Nat.blt pc 56) (cond (Nat.beq pc 53) (o_getf 9 2 56) o_bad) (cond (Nat.beq pc 56) (o_iload 3 57) o_bad)) (cond (Nat.blt pc 60) (cond (Nat.beq pc 57) (o_icmp (fun x y => x < y) 81 60) o_bad) (cond (Nat.blt pc 62) (cond (Nat.beq pc 60) (o_aload 6 62) o_bad) (cond (Nat.beq pc 62) (o_getf 9 2 65) o_bad))))) (cond (Nat.blt pc 75) (cond (Nat.blt pc 69) (cond (Nat.blt pc 66) (cond (Nat.beq pc 65) (o_aload 0 66) o_bad) (cond (Nat.beq pc 66) (o_getf 0 2 69) o_bad)) (cond (Nat.blt pc 72) (cond (Nat.beq pc 69) (o_icmp (fun x y => x < y) 81 72) o_bad) (cond (Nat.blt pc 74) (cond (Nat.beq pc 72) (o_aload 6 74) o_bad) (cond (Nat.beq pc 74) (o_const (2) 75) o_bad)))) (cond (Nat.blt pc 84) (cond (Nat.blt pc 78) (cond (Nat.beq pc 75) (o_putf 9 6 78) o_bad) (cond (Nat.blt pc 81) (cond (Nat.beq pc 78) (o_iinc 4 (1) 81) o_bad) (cond (Nat.beq pc 81) (o_iinc 5 (1) 84) o_bad))) (cond (Nat.blt pc 87) (cond (Nat.beq pc 84) (o_goto 6) o_bad) (cond (Nat.blt pc 89) (cond (Nat.beq pc 87) (o_iload 4 89) o_bad) (cond (Nat.beq pc 89) (o_iret) o_bad))))))
set_option maxRecDepth 20000 in
theorem ok_X0_giveBackAll : HOKs cX0_giveBackAll RX0 7 (some .int) 1 ins_X0_giveBackAll := fun _ => hnd (hnd (hnd (hnd (hnd (hlf (ok_iconst dX0_giveBackAll_0 (by decide) rfl)) (hlf (ok_istore dX0_giveBackAll_1 (by decide) rfl))) (hnd (hlf (ok_iconst dX0_giveBackAll_3 (by decide) rfl)) (hnd (hlf (ok_istore dX0_giveBackAll_4 (by decide) rfl)) (hlf (ok_iload dX0_giveBackAll_6 rfl))))) (hnd (hnd (hlf (ok_aload_n dX0_giveBackAll_8 rfl rfl)) (hlf (ok_getf (C := RX0) (T := TX0) dX0_giveBackAll_9 rfl rfl (by decide) rfl inX0 wd_149 rfl))) (hnd (hlf (ok_icmp_ge dX0_giveBackAll_12 (by decide) rfl)) (hnd (hlf (ok_aload_n dX0_giveBackAll_15 rfl rfl)) (hlf (ok_getf (C := RX0) (T := TX0) dX0_giveBackAll_16 rfl rfl (by decide) rfl inX0 wd_146 rfl)))))) (hnd (hnd (hnd (hlf (ok_iload dX0_giveBackAll_19 rfl)) (hlf (ok_aald dX0_giveBackAll_21 rfl))) (hnd (hlf (ok_astore dX0_giveBackAll_22 (by decide) rfl)) (hnd (hlf (ok_aload dX0_giveBackAll_24 rfl)) (hlf (ok_getfN (C := RX9) (T := TX9) dX0_giveBackAll_26 rfl rfl (by decide) rfl inX9 wd_264 rfl))))) (hnd (hnd (hlf (ok_if_ne dX0_giveBackAll_29 (by decide) rfl)) (hnd (hlf (ok_aload dX0_giveBackAll_32 rfl)) (hlf (ok_getfN (C := RX9) (T := TX9) dX0_giveBackAll_34 rfl rfl (by decide) rfl inX9 wd_237 rfl)))) (hnd (hlf (ok_iload_n dX0_giveBackAll_37 rfl rfl)) (hnd (hlf (ok_icmp_ne dX0_giveBackAll_38 (by decide) rfl)) (hlf (ok_aload dX0_giveBackAll_41 rfl))))))) (hnd (hnd (hnd (hnd (hlf (ok_getfN (C := RX9) (T := TX9) dX0_giveBackAll_43 rfl rfl (by decide) rfl inX9 wd_242 rfl)) (hlf (ok_iload_n dX0_giveBackAll_46 rfl rfl))) (hnd (hlf (ok_iand dX0_giveBackAll_47 rfl)) (hnd (hlf (ok_if_eq dX0_giveBackAll_48 (by decide) rfl)) (hlf (ok_aload dX0_giveBackAll_51 rfl))))) (hnd (hnd (hlf (ok_getfN (C := RX9) (T := TX9) dX0_giveBackAll_53 rfl rfl (by decide) rfl inX9 wd_248 rfl)) (hlf (ok_iload_n dX0_giveBackAll_56 rfl rfl))) (hnd (hlf (ok_icmp_lt dX0_giveBackAll_57 (by decide) rfl)) (hnd (hlf (ok_aload dX0_giveBackAll_60 rfl)) (hlf (ok_getfN (C := RX9) (T := TX9) dX0_giveBackAll_62 rfl rfl (by decide) rfl inX9 wd_248 rfl)))))) (hnd (hnd (hnd (hlf (ok_aload_n dX0_giveBackAll_65 rfl rfl)) (hlf (ok_getf (C := RX0) (T := TX0) dX0_giveBackAll_66 rfl rfl (by decide) rfl inX0 wd_154 rfl))) (hnd (hlf (ok_icmp_lt dX0_giveBackAll_69 (by decide) rfl)) (hnd (hlf (ok_aload dX0_giveBackAll_72 rfl)) (hlf (ok_iconst dX0_giveBackAll_74 (by decide) rfl))))) (hnd (hnd (hlf (ok_putfN (C := RX9) (T := TX9) dX0_giveBackAll_75 rfl rfl (by decide) rfl inX9 tyX9_ok nmX9 rfl rfl (fun _ _ => rfl) wd_264 rfl)) (hnd (hlf (ok_iinc dX0_giveBackAll_78 (by decide) (by decide) rfl)) (hlf (ok_iinc dX0_giveBackAll_81 (by decide) (by decide) rfl)))) (hnd (hlf (ok_goto dX0_giveBackAll_84 (by decide))) (hnd (hlf (ok_iload dX0_giveBackAll_87 rfl)) (hlf (ok_iret dX0_giveBackAll_89)))))))

theorem vc_X0_giveBackAll : MVC ins_X0_giveBackAll 7 4 sp_X0_giveBackAll := by
  refine mvc1 6 70 fun as w σ q hl hs => ?_
  unfold sp_X0_giveBackAll at hs
  split at hs
  rotate_left
  · exact hs.elim
  rename_i p s d
  obtain ⟨n, ⟨hn, hsz, hra⟩, hq⟩ := hs
  refine ⟨fun N ls st w' σ' => ∃ (i : Nat) (u v : Int32) (x : Option HV), i ≤ n ∧ N = n - i ∧ u = nI (cnt (fun i => decide (gbP σ i p s d)) i) ∧ v = nI i ∧ ls = [some (HR 0 0), some (HI p), some (HI s), some (HI d), some (HI u), some (HI v), x] ∧ st = [] ∧ w = w' ∧ σ' = gbS σ p s d i, ?_, ?_⟩
  · rintro N ls st w' σ' ⟨i, u, v, x, hi, rfl, rfl, rfl, rfl, rfl, rfl, rfl⟩
    have e1 : gbS σ p s d i 0 0 1 = nI n := by rw [gbS_o (by decide)]; exact hsz
    have e2 : gbS σ p s d i 0 0 2 = σ 0 0 2 := gbS_o (by decide)
    apply br2
    · intro h1
      obtain rfl := lp_end e1 hi h1
      exact hq
    · intro h1
      have hlt := lp_go e1 hi h1
      refine And.intro (vp_in_nI (N := 100) (by omega) (by decide)) (fun o ho => ?_)
      obtain rfl := ra_at ho (hra i hlt)
      have no : ¬ gbP σ i p s d → ∃ N', N' < n - i ∧ ∃ (i' : Nat) (u v : Int32) (x : Option HV), i' ≤ n ∧ N' = n - i' ∧ u = nI (cnt (fun i => decide (gbP σ i p s d)) i') ∧ v = nI i' ∧ [some (HR 0 0), some (HI p), some (HI s), some (HI d), some (HI (nI (cnt (fun i => decide (gbP σ i p s d)) i))), some (HI (nI i + 1)), some (HR 9 i)] = [some (HR 0 0), some (HI p), some (HI s), some (HI d), some (HI u), some (HI v), x] ∧ ([] : List HV) = [] ∧ w = w ∧ gbS σ p s d i = gbS σ p s d i' := fun h =>
        ⟨n - (i + 1), by omega, i + 1, _, _, _, hlt, rfl, by rw [cnt_n (decide_eq_false h)], nI_1 i, rfl, rfl, rfl, gbS_n h⟩
      apply br2
      rotate_left
      · intro h2
        exact no fun h => h2 (by show gbS σ p s d i 9 i 6 = 0; rw [gbS_at]; exact h.1)
      intro h2
      apply br2
      rotate_left
      · intro h3
        exact no fun h => h3 (by show gbS σ p s d i 9 i 0 = p; rw [gbS_at]; exact h.2.1)
      intro h3
      apply br2
      · intro h4
        exact no fun h => h.2.2.1 (by have h4 : gbS σ p s d i 9 i 1 &&& s = 0 := h4; rwa [gbS_at] at h4)
      intro h4
      apply br2
      · intro h5
        exact no fun h => h.2.2.2.1 (by have h5 : gbS σ p s d i 9 i 2 < d := h5; rwa [gbS_at] at h5)
      intro h5
      apply br2
      · intro h6
        exact no fun h => h.2.2.2.2 (by have h6 : gbS σ p s d i 9 i 2 < gbS σ p s d i 0 0 2 := h6; rwa [gbS_at, e2] at h6)
      intro h6
      have hg : gbP σ i p s d := by
        have h2 : gbS σ p s d i 9 i 6 = 0 := h2
        have h3 : gbS σ p s d i 9 i 0 = p := h3
        have h4 : ¬ gbS σ p s d i 9 i 1 &&& s = 0 := h4
        have h5 : ¬ gbS σ p s d i 9 i 2 < d := h5
        have h6 : ¬ gbS σ p s d i 9 i 2 < gbS σ p s d i 0 0 2 := h6
        rw [gbS_at] at h2 h3 h4 h5 h6
        rw [e2] at h6
        exact ⟨h2, h3, h4, h5, h6⟩
      exact ⟨n - (i + 1), by omega, i + 1, _, _, _, hlt, rfl, by rw [cnt_y (decide_eq_true hg)]; exact nI_1 _, nI_1 i, rfl, rfl, rfl, gbS_y hg⟩
  · exact ⟨n, 0, 0, 0, none, Nat.zero_le _, rfl, rfl, rfl, rfl, rfl, rfl, (gbS_0 σ p s d).symm⟩
theorem ct_X0_giveBackAll : Ctr yX0_giveBackAll cX0_giveBackAll 7 (some .int) 1 0 0 4 sp_X0_giveBackAll := ctr_of (by decide +kernel) rfl (by decide) ok_X0_giveBackAll vc_X0_giveBackAll

def sp_X0_hasMeetingOfSamePeople : HSp := fun as w σ K => match as with
  | [.inr (.inl (0, some 0)), .inr (.inl (9, some v))] => ∃ n, Bk w σ n ∧ spZ (∃ i, i < n ∧ σ 9 i 6 = 0 ∧ shH σ i v ∧ shP σ i v) w σ K
  | _ => False
theorem dX0_hasMeetingOfSamePeople_0 : decode cX0_hasMeetingOfSamePeople 0 = .ok (.iconst 0, 1) := by decide +kernel
theorem dX0_hasMeetingOfSamePeople_1 : decode cX0_hasMeetingOfSamePeople 1 = .ok (.istore_n 2, 1) := by decide +kernel
theorem dX0_hasMeetingOfSamePeople_2 : decode cX0_hasMeetingOfSamePeople 2 = .ok (.iload_n 2, 1) := by decide +kernel
theorem dX0_hasMeetingOfSamePeople_3 : decode cX0_hasMeetingOfSamePeople 3 = .ok (.aload_n 0, 1) := by decide +kernel
theorem dX0_hasMeetingOfSamePeople_4 : decode cX0_hasMeetingOfSamePeople 4 = .ok (.getfield 17, 3) := by decide +kernel
theorem dX0_hasMeetingOfSamePeople_7 : decode cX0_hasMeetingOfSamePeople 7 = .ok (.if_icmp .ge 41, 3) := by decide +kernel
theorem dX0_hasMeetingOfSamePeople_10 : decode cX0_hasMeetingOfSamePeople 10 = .ok (.aload_n 0, 1) := by decide +kernel
theorem dX0_hasMeetingOfSamePeople_11 : decode cX0_hasMeetingOfSamePeople 11 = .ok (.getfield 13, 3) := by decide +kernel
theorem dX0_hasMeetingOfSamePeople_14 : decode cX0_hasMeetingOfSamePeople 14 = .ok (.iload_n 2, 1) := by decide +kernel
theorem dX0_hasMeetingOfSamePeople_15 : decode cX0_hasMeetingOfSamePeople 15 = .ok (.aaload, 1) := by decide +kernel
theorem dX0_hasMeetingOfSamePeople_16 : decode cX0_hasMeetingOfSamePeople 16 = .ok (.astore_n 3, 1) := by decide +kernel
theorem dX0_hasMeetingOfSamePeople_17 : decode cX0_hasMeetingOfSamePeople 17 = .ok (.aload_n 3, 1) := by decide +kernel
theorem dX0_hasMeetingOfSamePeople_18 : decode cX0_hasMeetingOfSamePeople 18 = .ok (.getfield 30, 3) := by decide +kernel
theorem dX0_hasMeetingOfSamePeople_21 : decode cX0_hasMeetingOfSamePeople 21 = .ok (.ifCond .ne 21, 3) := by decide +kernel
theorem dX0_hasMeetingOfSamePeople_24 : decode cX0_hasMeetingOfSamePeople 24 = .ok (.aload_n 3, 1) := by decide +kernel
theorem dX0_hasMeetingOfSamePeople_25 : decode cX0_hasMeetingOfSamePeople 25 = .ok (.aload_n 1, 1) := by decide +kernel
theorem dX0_hasMeetingOfSamePeople_26 : decode cX0_hasMeetingOfSamePeople 26 = .ok (.invokevirtual 52, 3) := by decide +kernel
theorem dX0_hasMeetingOfSamePeople_29 : decode cX0_hasMeetingOfSamePeople 29 = .ok (.ifCond .eq 13, 3) := by decide +kernel
theorem dX0_hasMeetingOfSamePeople_32 : decode cX0_hasMeetingOfSamePeople 32 = .ok (.aload_n 3, 1) := by decide +kernel
theorem dX0_hasMeetingOfSamePeople_33 : decode cX0_hasMeetingOfSamePeople 33 = .ok (.aload_n 1, 1) := by decide +kernel
theorem dX0_hasMeetingOfSamePeople_34 : decode cX0_hasMeetingOfSamePeople 34 = .ok (.invokevirtual 56, 3) := by decide +kernel
theorem dX0_hasMeetingOfSamePeople_37 : decode cX0_hasMeetingOfSamePeople 37 = .ok (.ifCond .eq 5, 3) := by decide +kernel
theorem dX0_hasMeetingOfSamePeople_40 : decode cX0_hasMeetingOfSamePeople 40 = .ok (.iconst 1, 1) := by decide +kernel
theorem dX0_hasMeetingOfSamePeople_41 : decode cX0_hasMeetingOfSamePeople 41 = .ok (.ireturn, 1) := by decide +kernel
theorem dX0_hasMeetingOfSamePeople_42 : decode cX0_hasMeetingOfSamePeople 42 = .ok (.iinc 2 1, 3) := by decide +kernel
theorem dX0_hasMeetingOfSamePeople_45 : decode cX0_hasMeetingOfSamePeople 45 = .ok (.goto (-43), 3) := by decide +kernel
theorem dX0_hasMeetingOfSamePeople_48 : decode cX0_hasMeetingOfSamePeople 48 = .ok (.iconst 0, 1) := by decide +kernel
theorem dX0_hasMeetingOfSamePeople_49 : decode cX0_hasMeetingOfSamePeople 49 = .ok (.ireturn, 1) := by decide +kernel
def ins_X0_hasMeetingOfSamePeople (pc : Nat) : HOp := cond (Nat.blt pc 24) (cond (Nat.blt pc 11) (cond (Nat.blt pc 3) (cond (Nat.blt pc 1) (cond (Nat.beq pc 0) (o_const (0) 1) o_bad) (cond (Nat.blt pc 2) (cond (Nat.beq pc 1) (o_istore 2 2) o_bad) (cond (Nat.beq pc 2) (o_iload 2 3) o_bad))) (cond (Nat.blt pc 7) (cond (Nat.blt pc 4) (cond (Nat.beq pc 3) (o_aload 0 4) o_bad) (cond (Nat.beq pc 4) (o_getf 0 1 7) o_bad)) (cond (Nat.blt pc 10) (cond (Nat.beq pc 7) (o_icmp (fun x y => y ≤ x) 48 10) o_bad) (cond (Nat.beq pc 10) (o_aload 0 11) o_bad)))) (cond (Nat.blt pc 16) (cond (Nat.blt pc 14) (cond (Nat.beq pc 11) (o_getf 0 0 14) o_bad) (cond (Nat.blt pc 15) (cond (Nat.beq pc 14) (o_iload 2 15) o_bad) (cond (Nat.beq pc 15) (o_aald 16) o_bad))) (cond (Nat.blt pc 18) (cond (Nat.blt pc 17) (cond (Nat.beq pc 16) (o_astore 3 17) o_bad) (cond (Nat.beq pc 17) (o_aload 3 18) o_bad)) (cond (Nat.blt pc 21) (cond (Nat.beq pc 18) (o_getf 9 6 21) o_bad) (cond (Nat.beq pc 21) (o_if (fun x => x = 0) 24 42) o_bad))))) (cond (Nat.blt pc 37) (cond (Nat.blt pc 29) (cond (Nat.blt pc 25) (cond (Nat.beq pc 24) (o_aload 3 25) o_bad) (cond (Nat.blt pc 26) (cond (Nat.beq pc 25) (o_aload 1 26) o_bad) (cond (Nat.beq pc 26) (o_callV 2 9 sp_X9_sharesHalfWith 29) o_bad))) (cond (Nat.blt pc 33) (cond (Nat.blt pc 32) (cond (Nat.beq pc 29) (o_if (fun x => x = 0) 42 32) o_bad) (cond (Nat.beq pc 32) (o_aload 3 33) o_bad)) (cond (Nat.blt pc 34) (cond (Nat.beq pc 33) (o_aload 1 34) o_bad) (cond (Nat.beq pc 34) (o_callV 2 9 sp_X9_sharesPeopleWith 37) o_bad)))) (cond (Nat.blt pc 42) (cond (Nat.blt pc 40) (cond (Nat.beq pc 37) (o_if (fun x => x = 0) 42 40) o_bad) (cond (Nat.blt pc 41) (cond (Nat.beq pc 40) (o_const (1) 41) o_bad) (cond (Nat.beq pc 41) (o_zret) o_bad))) (cond (Nat.blt pc 48) (cond (Nat.blt pc 45) (cond (Nat.beq pc 42) (o_iinc 2 (1) 45) o_bad) (cond (Nat.beq pc 45) (o_goto 2) o_bad)) (cond (Nat.blt pc 49) (cond (Nat.beq pc 48) (o_const (0) 49) o_bad) (cond (Nat.beq pc 49) (o_zret) o_bad)))))
set_option maxRecDepth 20000 in
theorem ok_X0_hasMeetingOfSamePeople : HOKs cX0_hasMeetingOfSamePeople RX0 4 (some .boolean) 2 ins_X0_hasMeetingOfSamePeople := fun _ => hnd (hnd (hnd (hnd (hlf (ok_iconst dX0_hasMeetingOfSamePeople_0 (by decide) rfl)) (hnd (hlf (ok_istore_n dX0_hasMeetingOfSamePeople_1 rfl (by decide) rfl)) (hlf (ok_iload_n dX0_hasMeetingOfSamePeople_2 rfl rfl)))) (hnd (hnd (hlf (ok_aload_n dX0_hasMeetingOfSamePeople_3 rfl rfl)) (hlf (ok_getf (C := RX0) (T := TX0) dX0_hasMeetingOfSamePeople_4 rfl rfl (by decide) rfl inX0 wd_149 rfl))) (hnd (hlf (ok_icmp_ge dX0_hasMeetingOfSamePeople_7 (by decide) rfl)) (hlf (ok_aload_n dX0_hasMeetingOfSamePeople_10 rfl rfl))))) (hnd (hnd (hlf (ok_getf (C := RX0) (T := TX0) dX0_hasMeetingOfSamePeople_11 rfl rfl (by decide) rfl inX0 wd_146 rfl)) (hnd (hlf (ok_iload_n dX0_hasMeetingOfSamePeople_14 rfl rfl)) (hlf (ok_aald dX0_hasMeetingOfSamePeople_15 rfl)))) (hnd (hnd (hlf (ok_astore_n dX0_hasMeetingOfSamePeople_16 rfl (by decide) rfl)) (hlf (ok_aload_n dX0_hasMeetingOfSamePeople_17 rfl rfl))) (hnd (hlf (ok_getfN (C := RX9) (T := TX9) dX0_hasMeetingOfSamePeople_18 rfl rfl (by decide) rfl inX9 wd_264 rfl)) (hlf (ok_if_ne dX0_hasMeetingOfSamePeople_21 (by decide) rfl)))))) (hnd (hnd (hnd (hlf (ok_aload_n dX0_hasMeetingOfSamePeople_24 rfl rfl)) (hnd (hlf (ok_aload_n dX0_hasMeetingOfSamePeople_25 rfl rfl)) (hlf (ok_callV (y := yX9_sharesHalfWith) (n' := 1) (C := RX9) (T := TX9) dX0_hasMeetingOfSamePeople_26 ct_X9_sharesHalfWith (by decide) (by decide) wd_479 wd_476 wd_477 wd_478 wd_50 rfl (by decide +kernel) rfl rfl rfl)))) (hnd (hnd (hlf (ok_if_eq dX0_hasMeetingOfSamePeople_29 (by decide) rfl)) (hlf (ok_aload_n dX0_hasMeetingOfSamePeople_32 rfl rfl))) (hnd (hlf (ok_aload_n dX0_hasMeetingOfSamePeople_33 rfl rfl)) (hlf (ok_callV (y := yX9_sharesPeopleWith) (n' := 1) (C := RX9) (T := TX9) dX0_hasMeetingOfSamePeople_34 ct_X9_sharesPeopleWith (by decide) (by decide) wd_483 wd_480 wd_481 wd_482 wd_50 rfl (by decide +kernel) rfl rfl rfl))))) (hnd (hnd (hlf (ok_if_eq dX0_hasMeetingOfSamePeople_37 (by decide) rfl)) (hnd (hlf (ok_iconst dX0_hasMeetingOfSamePeople_40 (by decide) rfl)) (hlf (ok_zret dX0_hasMeetingOfSamePeople_41)))) (hnd (hnd (hlf (ok_iinc dX0_hasMeetingOfSamePeople_42 (by decide) (by decide) rfl)) (hlf (ok_goto dX0_hasMeetingOfSamePeople_45 (by decide)))) (hnd (hlf (ok_iconst dX0_hasMeetingOfSamePeople_48 (by decide) rfl)) (hlf (ok_zret dX0_hasMeetingOfSamePeople_49))))))

theorem vc_X0_hasMeetingOfSamePeople : MVC ins_X0_hasMeetingOfSamePeople 4 2 sp_X0_hasMeetingOfSamePeople := by
  refine mvc1 2 60 fun as w σ q hl hs => ?_
  unfold sp_X0_hasMeetingOfSamePeople at hs
  split at hs
  rotate_left
  · exact hs.elim
  rename_i v
  obtain ⟨n, ⟨hn, hsz, hra⟩, hq⟩ := hs
  refine ⟨fun N ls st w' σ' => ∃ (i : Nat) (u : Int32) (x : Option HV), i ≤ n ∧ N = n - i ∧ u = nI i ∧ (∀ j, j < i → ¬ (σ 9 j 6 = 0 ∧ shH σ j v ∧ shP σ j v)) ∧ ls = [some (HR 0 0), some (HR 9 v), some (HI u), x] ∧ st = [] ∧ w = w' ∧ σ = σ', ?_, ?_⟩
  · rintro N ls st w' σ' ⟨i, u, x, hi, rfl, rfl, hno, rfl, rfl, rfl, rfl⟩
    apply br2
    · intro h1
      obtain rfl := lp_end hsz hi h1
      exact ⟨Or.inl rfl, hq.2 fun ⟨j, h1, h2⟩ => hno j h1 h2⟩
    · intro h1
      have hlt := lp_go hsz hi h1
      refine And.intro (vp_in_nI (N := 100) (by omega) (by decide)) (fun o ho => ?_)
      obtain rfl := ra_at ho (hra i hlt)
      have no : ¬ (σ 9 i 6 = 0 ∧ shH σ i v ∧ shP σ i v) → ∃ N', N' < n - i ∧ ∃ (i' : Nat) (u : Int32) (x : Option HV), i' ≤ n ∧ N' = n - i' ∧ u = nI i' ∧ (∀ j, j < i' → ¬ (σ 9 j 6 = 0 ∧ shH σ j v ∧ shP σ j v)) ∧ [some (HR 0 0), some (HR 9 v), some (HI (nI i + 1)), some (HR 9 i)] = [some (HR 0 0), some (HR 9 v), some (HI u), x] ∧ ([] : List HV) = [] ∧ w = w ∧ σ = σ := fun h =>
        ⟨n - (i + 1), by omega, i + 1, _, _, hlt, rfl, nI_1 i, fun j hj => (Nat.lt_succ_iff_lt_or_eq.mp hj).elim (hno j) (fun e => e ▸ h), rfl, rfl, rfl, rfl⟩
      apply br2
      rotate_left
      · intro h2
        exact no fun h => h2 h.1
      intro h2
      apply br2
      rotate_left
      · intro h3
        exact And.intro (fun _ => no fun h => h3 h.2.1) (fun h => absurd rfl h)
      intro h3
      refine And.intro (fun h => absurd h (by decide)) (fun _ => ?_)
      apply br2
      rotate_left
      · intro h4
        exact And.intro (fun _ => no fun h => h4 h.2.2) (fun h => absurd rfl h)
      intro h4
      refine And.intro (fun h => absurd h (by decide)) (fun _ => ?_)
      exact ⟨Or.inr rfl, hq.1 ⟨i, hlt, h2, h3, h4⟩⟩
  · exact ⟨n, 0, 0, none, Nat.zero_le _, rfl, rfl, fun j hj => absurd hj (by omega), rfl, rfl, rfl, rfl⟩
theorem ct_X0_hasMeetingOfSamePeople : Ctr yX0_hasMeetingOfSamePeople cX0_hasMeetingOfSamePeople 4 (some .boolean) 2 0 0 2 sp_X0_hasMeetingOfSamePeople := ctr_of (by decide +kernel) rfl (by decide) ok_X0_hasMeetingOfSamePeople vc_X0_hasMeetingOfSamePeople

def kpS (σ : HS) (n : Nat) : HS := fun k i f => if k = 9 ∧ f = 7 ∧ i < n then 0 else σ k i f
def sp_X0_keepAll : HSp := fun as w σ K => match as with
  | [.inr (.inl (0, some 0))] => ∃ n, Bk w σ n ∧ K none w (kpS σ n)
  | _ => False
theorem dX0_keepAll_0 : decode cX0_keepAll 0 = .ok (.iconst 0, 1) := by decide +kernel
theorem dX0_keepAll_1 : decode cX0_keepAll 1 = .ok (.istore_n 1, 1) := by decide +kernel
theorem dX0_keepAll_2 : decode cX0_keepAll 2 = .ok (.iload_n 1, 1) := by decide +kernel
theorem dX0_keepAll_3 : decode cX0_keepAll 3 = .ok (.aload_n 0, 1) := by decide +kernel
theorem dX0_keepAll_4 : decode cX0_keepAll 4 = .ok (.getfield 17, 3) := by decide +kernel
theorem dX0_keepAll_7 : decode cX0_keepAll 7 = .ok (.if_icmp .ge 19, 3) := by decide +kernel
theorem dX0_keepAll_10 : decode cX0_keepAll 10 = .ok (.aload_n 0, 1) := by decide +kernel
theorem dX0_keepAll_11 : decode cX0_keepAll 11 = .ok (.getfield 13, 3) := by decide +kernel
theorem dX0_keepAll_14 : decode cX0_keepAll 14 = .ok (.iload_n 1, 1) := by decide +kernel
theorem dX0_keepAll_15 : decode cX0_keepAll 15 = .ok (.aaload, 1) := by decide +kernel
theorem dX0_keepAll_16 : decode cX0_keepAll 16 = .ok (.iconst 0, 1) := by decide +kernel
theorem dX0_keepAll_17 : decode cX0_keepAll 17 = .ok (.putfield 59, 3) := by decide +kernel
theorem dX0_keepAll_20 : decode cX0_keepAll 20 = .ok (.iinc 1 1, 3) := by decide +kernel
theorem dX0_keepAll_23 : decode cX0_keepAll 23 = .ok (.goto (-21), 3) := by decide +kernel
theorem dX0_keepAll_26 : decode cX0_keepAll 26 = .ok (.return_, 1) := by decide +kernel
def ins_X0_keepAll (pc : Nat) : HOp := cond (Nat.blt pc 11) (cond (Nat.blt pc 3) (cond (Nat.blt pc 1) (cond (Nat.beq pc 0) (o_const (0) 1) o_bad) (cond (Nat.blt pc 2) (cond (Nat.beq pc 1) (o_istore 1 2) o_bad) (cond (Nat.beq pc 2) (o_iload 1 3) o_bad))) (cond (Nat.blt pc 7) (cond (Nat.blt pc 4) (cond (Nat.beq pc 3) (o_aload 0 4) o_bad) (cond (Nat.beq pc 4) (o_getf 0 1 7) o_bad)) (cond (Nat.blt pc 10) (cond (Nat.beq pc 7) (o_icmp (fun x y => y ≤ x) 26 10) o_bad) (cond (Nat.beq pc 10) (o_aload 0 11) o_bad)))) (cond (Nat.blt pc 17) (cond (Nat.blt pc 15) (cond (Nat.blt pc 14) (cond (Nat.beq pc 11) (o_getf 0 0 14) o_bad) (cond (Nat.beq pc 14) (o_iload 1 15) o_bad)) (cond (Nat.blt pc 16) (cond (Nat.beq pc 15) (o_aald 16) o_bad) (cond (Nat.beq pc 16) (o_const (0) 17) o_bad))) (cond (Nat.blt pc 23) (cond (Nat.blt pc 20) (cond (Nat.beq pc 17) (o_putz 9 7 20) o_bad) (cond (Nat.beq pc 20) (o_iinc 1 (1) 23) o_bad)) (cond (Nat.blt pc 26) (cond (Nat.beq pc 23) (o_goto 2) o_bad) (cond (Nat.beq pc 26) (o_vret) o_bad))))
set_option maxRecDepth 20000 in
theorem ok_X0_keepAll : HOKs cX0_keepAll RX0 2 none 1 ins_X0_keepAll := fun _ => hnd (hnd (hnd (hlf (ok_iconst dX0_keepAll_0 (by decide) rfl)) (hnd (hlf (ok_istore_n dX0_keepAll_1 rfl (by decide) rfl)) (hlf (ok_iload_n dX0_keepAll_2 rfl rfl)))) (hnd (hnd (hlf (ok_aload_n dX0_keepAll_3 rfl rfl)) (hlf (ok_getf (C := RX0) (T := TX0) dX0_keepAll_4 rfl rfl (by decide) rfl inX0 wd_149 rfl))) (hnd (hlf (ok_icmp_ge dX0_keepAll_7 (by decide) rfl)) (hlf (ok_aload_n dX0_keepAll_10 rfl rfl))))) (hnd (hnd (hnd (hlf (ok_getf (C := RX0) (T := TX0) dX0_keepAll_11 rfl rfl (by decide) rfl inX0 wd_146 rfl)) (hlf (ok_iload_n dX0_keepAll_14 rfl rfl))) (hnd (hlf (ok_aald dX0_keepAll_15 rfl)) (hlf (ok_iconst dX0_keepAll_16 (by decide) rfl)))) (hnd (hnd (hlf (ok_putzN (C := RX9) (T := TX9) dX0_keepAll_17 rfl rfl (by decide) rfl inX9 tyX9_ok nmX9 rfl rfl (fun _ _ => rfl) wd_267 rfl)) (hlf (ok_iinc dX0_keepAll_20 (by decide) (by decide) rfl))) (hnd (hlf (ok_goto dX0_keepAll_23 (by decide))) (hlf (ok_vret dX0_keepAll_26)))))

theorem vc_X0_keepAll : MVC ins_X0_keepAll 2 1 sp_X0_keepAll := by
  refine mvc1 2 60 fun as w σ q hl hs => ?_
  unfold sp_X0_keepAll at hs
  split at hs
  rotate_left
  · exact hs.elim
  obtain ⟨n, ⟨hn, hsz, hra⟩, hq⟩ := hs
  refine ⟨fun N ls st w' σ' => ∃ (i : Nat) (u : Int32), i ≤ n ∧ N = n - i ∧ u = nI i ∧ ls = [some (HR 0 0), some (HI u)] ∧ st = [] ∧ w = w' ∧ σ' = kpS σ i, ?_, ?_⟩
  · rintro N ls st w' σ' ⟨i, u, hi, rfl, rfl, rfl, rfl, rfl, rfl⟩
    have e1 : kpS σ i 0 0 1 = nI n := by rw [← hsz]; simp [kpS]
    apply br2
    · intro h1
      obtain rfl := lp_end e1 hi h1
      exact hq
    · intro h1
      have hlt := lp_go e1 hi h1
      refine And.intro (vp_in_nI (N := 100) (by omega) (by decide)) (fun o ho => ?_)
      obtain rfl := ra_at ho (hra i hlt)
      refine And.intro (Or.inl rfl) ?_
      refine ⟨n - (i + 1), by omega, i + 1, _, hlt, rfl, nI_1 i, rfl, rfl, rfl, ?_⟩
      funext k j f
      simp only [kpS, up3]
      grind
  · exact ⟨n, 0, 0, Nat.zero_le _, rfl, rfl, rfl, rfl, rfl, by funext k i f; simp [kpS]⟩
theorem ct_X0_keepAll : Ctr yX0_keepAll cX0_keepAll 2 none 1 0 0 1 sp_X0_keepAll := ctr_of (by decide +kernel) rfl (by decide) ok_X0_keepAll vc_X0_keepAll

def slS (σ : HS) (n : Nat) : HS := fun k i f => if k = 9 ∧ i < n ∧ ¬ σ 9 i 7 = 0 ∧ (f = 6 ∨ f = 7) then (if f = 7 then 0 else 1) else σ k i f
def sp_X0_sendLeaversToWait : HSp := fun as w σ K => match as with
  | [.inr (.inl (0, some 0))] => ∃ n, Bk w σ n ∧ K none w (slS σ n)
  | _ => False
theorem dX0_sendLeaversToWait_0 : decode cX0_sendLeaversToWait 0 = .ok (.iconst 0, 1) := by decide +kernel
theorem dX0_sendLeaversToWait_1 : decode cX0_sendLeaversToWait 1 = .ok (.istore_n 1, 1) := by decide +kernel
theorem dX0_sendLeaversToWait_2 : decode cX0_sendLeaversToWait 2 = .ok (.iload_n 1, 1) := by decide +kernel
theorem dX0_sendLeaversToWait_3 : decode cX0_sendLeaversToWait 3 = .ok (.aload_n 0, 1) := by decide +kernel
theorem dX0_sendLeaversToWait_4 : decode cX0_sendLeaversToWait 4 = .ok (.getfield 17, 3) := by decide +kernel
theorem dX0_sendLeaversToWait_7 : decode cX0_sendLeaversToWait 7 = .ok (.if_icmp .ge 41, 3) := by decide +kernel
theorem dX0_sendLeaversToWait_10 : decode cX0_sendLeaversToWait 10 = .ok (.aload_n 0, 1) := by decide +kernel
theorem dX0_sendLeaversToWait_11 : decode cX0_sendLeaversToWait 11 = .ok (.getfield 13, 3) := by decide +kernel
theorem dX0_sendLeaversToWait_14 : decode cX0_sendLeaversToWait 14 = .ok (.iload_n 1, 1) := by decide +kernel
theorem dX0_sendLeaversToWait_15 : decode cX0_sendLeaversToWait 15 = .ok (.aaload, 1) := by decide +kernel
theorem dX0_sendLeaversToWait_16 : decode cX0_sendLeaversToWait 16 = .ok (.getfield 59, 3) := by decide +kernel
theorem dX0_sendLeaversToWait_19 : decode cX0_sendLeaversToWait 19 = .ok (.ifCond .eq 23, 3) := by decide +kernel
theorem dX0_sendLeaversToWait_22 : decode cX0_sendLeaversToWait 22 = .ok (.aload_n 0, 1) := by decide +kernel
theorem dX0_sendLeaversToWait_23 : decode cX0_sendLeaversToWait 23 = .ok (.getfield 13, 3) := by decide +kernel
theorem dX0_sendLeaversToWait_26 : decode cX0_sendLeaversToWait 26 = .ok (.iload_n 1, 1) := by decide +kernel
theorem dX0_sendLeaversToWait_27 : decode cX0_sendLeaversToWait 27 = .ok (.aaload, 1) := by decide +kernel
theorem dX0_sendLeaversToWait_28 : decode cX0_sendLeaversToWait 28 = .ok (.iconst 0, 1) := by decide +kernel
theorem dX0_sendLeaversToWait_29 : decode cX0_sendLeaversToWait 29 = .ok (.putfield 59, 3) := by decide +kernel
theorem dX0_sendLeaversToWait_32 : decode cX0_sendLeaversToWait 32 = .ok (.aload_n 0, 1) := by decide +kernel
theorem dX0_sendLeaversToWait_33 : decode cX0_sendLeaversToWait 33 = .ok (.getfield 13, 3) := by decide +kernel
theorem dX0_sendLeaversToWait_36 : decode cX0_sendLeaversToWait 36 = .ok (.iload_n 1, 1) := by decide +kernel
theorem dX0_sendLeaversToWait_37 : decode cX0_sendLeaversToWait 37 = .ok (.aaload, 1) := by decide +kernel
theorem dX0_sendLeaversToWait_38 : decode cX0_sendLeaversToWait 38 = .ok (.iconst 1, 1) := by decide +kernel
theorem dX0_sendLeaversToWait_39 : decode cX0_sendLeaversToWait 39 = .ok (.putfield 30, 3) := by decide +kernel
theorem dX0_sendLeaversToWait_42 : decode cX0_sendLeaversToWait 42 = .ok (.iinc 1 1, 3) := by decide +kernel
theorem dX0_sendLeaversToWait_45 : decode cX0_sendLeaversToWait 45 = .ok (.goto (-43), 3) := by decide +kernel
theorem dX0_sendLeaversToWait_48 : decode cX0_sendLeaversToWait 48 = .ok (.return_, 1) := by decide +kernel
def ins_X0_sendLeaversToWait (pc : Nat) : HOp := cond (Nat.blt pc 23) (cond (Nat.blt pc 10) (cond (Nat.blt pc 3) (cond (Nat.blt pc 1) (cond (Nat.beq pc 0) (o_const (0) 1) o_bad) (cond (Nat.blt pc 2) (cond (Nat.beq pc 1) (o_istore 1 2) o_bad) (cond (Nat.beq pc 2) (o_iload 1 3) o_bad))) (cond (Nat.blt pc 4) (cond (Nat.beq pc 3) (o_aload 0 4) o_bad) (cond (Nat.blt pc 7) (cond (Nat.beq pc 4) (o_getf 0 1 7) o_bad) (cond (Nat.beq pc 7) (o_icmp (fun x y => y ≤ x) 48 10) o_bad)))) (cond (Nat.blt pc 15) (cond (Nat.blt pc 11) (cond (Nat.beq pc 10) (o_aload 0 11) o_bad) (cond (Nat.blt pc 14) (cond (Nat.beq pc 11) (o_getf 0 0 14) o_bad) (cond (Nat.beq pc 14) (o_iload 1 15) o_bad))) (cond (Nat.blt pc 19) (cond (Nat.blt pc 16) (cond (Nat.beq pc 15) (o_aald 16) o_bad) (cond (Nat.beq pc 16) (o_getf 9 7 19) o_bad)) (cond (Nat.blt pc 22) (cond (Nat.beq pc 19) (o_if (fun x => x = 0) 42 22) o_bad) (cond (Nat.beq pc 22) (o_aload 0 23) o_bad))))) (cond (Nat.blt pc 36) (cond (Nat.blt pc 28) (cond (Nat.blt pc 26) (cond (Nat.beq pc 23) (o_getf 0 0 26) o_bad) (cond (Nat.blt pc 27) (cond (Nat.beq pc 26) (o_iload 1 27) o_bad) (cond (Nat.beq pc 27) (o_aald 28) o_bad))) (cond (Nat.blt pc 32) (cond (Nat.blt pc 29) (cond (Nat.beq pc 28) (o_const (0) 29) o_bad) (cond (Nat.beq pc 29) (o_putz 9 7 32) o_bad)) (cond (Nat.blt pc 33) (cond (Nat.beq pc 32) (o_aload 0 33) o_bad) (cond (Nat.beq pc 33) (o_getf 0 0 36) o_bad)))) (cond (Nat.blt pc 39) (cond (Nat.blt pc 37) (cond (Nat.beq pc 36) (o_iload 1 37) o_bad) (cond (Nat.blt pc 38) (cond (Nat.beq pc 37) (o_aald 38) o_bad) (cond (Nat.beq pc 38) (o_const (1) 39) o_bad))) (cond (Nat.blt pc 45) (cond (Nat.blt pc 42) (cond (Nat.beq pc 39) (o_putf 9 6 42) o_bad) (cond (Nat.beq pc 42) (o_iinc 1 (1) 45) o_bad)) (cond (Nat.blt pc 48) (cond (Nat.beq pc 45) (o_goto 2) o_bad) (cond (Nat.beq pc 48) (o_vret) o_bad)))))
set_option maxRecDepth 20000 in
theorem ok_X0_sendLeaversToWait : HOKs cX0_sendLeaversToWait RX0 2 none 1 ins_X0_sendLeaversToWait := fun _ => hnd (hnd (hnd (hnd (hlf (ok_iconst dX0_sendLeaversToWait_0 (by decide) rfl)) (hnd (hlf (ok_istore_n dX0_sendLeaversToWait_1 rfl (by decide) rfl)) (hlf (ok_iload_n dX0_sendLeaversToWait_2 rfl rfl)))) (hnd (hlf (ok_aload_n dX0_sendLeaversToWait_3 rfl rfl)) (hnd (hlf (ok_getf (C := RX0) (T := TX0) dX0_sendLeaversToWait_4 rfl rfl (by decide) rfl inX0 wd_149 rfl)) (hlf (ok_icmp_ge dX0_sendLeaversToWait_7 (by decide) rfl))))) (hnd (hnd (hlf (ok_aload_n dX0_sendLeaversToWait_10 rfl rfl)) (hnd (hlf (ok_getf (C := RX0) (T := TX0) dX0_sendLeaversToWait_11 rfl rfl (by decide) rfl inX0 wd_146 rfl)) (hlf (ok_iload_n dX0_sendLeaversToWait_14 rfl rfl)))) (hnd (hnd (hlf (ok_aald dX0_sendLeaversToWait_15 rfl)) (hlf (ok_getfN (C := RX9) (T := TX9) dX0_sendLeaversToWait_16 rfl rfl (by decide) rfl inX9 wd_267 rfl))) (hnd (hlf (ok_if_eq dX0_sendLeaversToWait_19 (by decide) rfl)) (hlf (ok_aload_n dX0_sendLeaversToWait_22 rfl rfl)))))) (hnd (hnd (hnd (hlf (ok_getf (C := RX0) (T := TX0) dX0_sendLeaversToWait_23 rfl rfl (by decide) rfl inX0 wd_146 rfl)) (hnd (hlf (ok_iload_n dX0_sendLeaversToWait_26 rfl rfl)) (hlf (ok_aald dX0_sendLeaversToWait_27 rfl)))) (hnd (hnd (hlf (ok_iconst dX0_sendLeaversToWait_28 (by decide) rfl)) (hlf (ok_putzN (C := RX9) (T := TX9) dX0_sendLeaversToWait_29 rfl rfl (by decide) rfl inX9 tyX9_ok nmX9 rfl rfl (fun _ _ => rfl) wd_267 rfl))) (hnd (hlf (ok_aload_n dX0_sendLeaversToWait_32 rfl rfl)) (hlf (ok_getf (C := RX0) (T := TX0) dX0_sendLeaversToWait_33 rfl rfl (by decide) rfl inX0 wd_146 rfl))))) (hnd (hnd (hlf (ok_iload_n dX0_sendLeaversToWait_36 rfl rfl)) (hnd (hlf (ok_aald dX0_sendLeaversToWait_37 rfl)) (hlf (ok_iconst dX0_sendLeaversToWait_38 (by decide) rfl)))) (hnd (hnd (hlf (ok_putfN (C := RX9) (T := TX9) dX0_sendLeaversToWait_39 rfl rfl (by decide) rfl inX9 tyX9_ok nmX9 rfl rfl (fun _ _ => rfl) wd_264 rfl)) (hlf (ok_iinc dX0_sendLeaversToWait_42 (by decide) (by decide) rfl))) (hnd (hlf (ok_goto dX0_sendLeaversToWait_45 (by decide))) (hlf (ok_vret dX0_sendLeaversToWait_48))))))

theorem vc_X0_sendLeaversToWait : MVC ins_X0_sendLeaversToWait 2 1 sp_X0_sendLeaversToWait := by
  refine mvc1 2 60 fun as w σ q hl hs => ?_
  unfold sp_X0_sendLeaversToWait at hs
  split at hs
  rotate_left
  · exact hs.elim
  obtain ⟨n, ⟨hn, hsz, hra⟩, hq⟩ := hs
  refine ⟨fun N ls st w' σ' => ∃ (i : Nat) (u : Int32), i ≤ n ∧ N = n - i ∧ u = nI i ∧ ls = [some (HR 0 0), some (HI u)] ∧ st = [] ∧ w = w' ∧ σ' = slS σ i, ?_, ?_⟩
  · rintro N ls st w' σ' ⟨i, u, hi, rfl, rfl, rfl, rfl, rfl, rfl⟩
    have e1 : slS σ i 0 0 1 = nI n := by rw [← hsz]; simp [slS]
    have e7 : slS σ i 9 i 7 = σ 9 i 7 := by simp [slS]
    apply br2
    · intro h1
      obtain rfl := lp_end e1 hi h1
      exact hq
    · intro h1
      have hlt := lp_go e1 hi h1
      have hin : vp_in (nI i) 100 := vp_in_nI (N := 100) (by omega) (by decide)
      refine And.intro hin (fun o ho => ?_)
      obtain rfl := ra_at ho (hra i hlt)
      apply br2
      · intro h2
        have h2 : slS σ i 9 i 7 = 0 := h2
        rw [e7] at h2
        refine ⟨n - (i + 1), by omega, i + 1, _, hlt, rfl, nI_1 i, rfl, rfl, rfl, ?_⟩
        funext k j f
        simp only [slS]
        grind
      · intro h2
        have h2 : ¬ slS σ i 9 i 7 = 0 := h2
        rw [e7] at h2
        refine And.intro hin (fun o ho => ?_)
        obtain rfl := ra_at ho (hra i hlt)
        refine And.intro (Or.inl rfl) ?_
        refine And.intro hin (fun o ho => ?_)
        obtain rfl := ra_at ho (hra i hlt)
        refine ⟨n - (i + 1), by omega, i + 1, _, hlt, rfl, nI_1 i, rfl, rfl, rfl, ?_⟩
        funext k j f
        simp only [slS, up3]
        grind
  · exact ⟨n, 0, 0, Nat.zero_le _, rfl, rfl, rfl, rfl, rfl, by funext k i f; simp [slS]⟩
theorem ct_X0_sendLeaversToWait : Ctr yX0_sendLeaversToWait cX0_sendLeaversToWait 2 none 1 0 0 1 sp_X0_sendLeaversToWait := ctr_of (by decide +kernel) rfl (by decide) ok_X0_sendLeaversToWait vc_X0_sendLeaversToWait
end
section
/-! VisitHall.Sheet, Tape, Right, Prisoner -/
def sp_X7_isMissing : HSp := fun as w σ K => match as with
  | [.inr (.inl (7, some s))] => spZ (σ 7 s 1 = -1) w σ K
  | _ => False
theorem dX7_isMissing_0 : decode cX7_isMissing 0 = .ok (.aload_n 0, 1) := by decide +kernel
theorem dX7_isMissing_1 : decode cX7_isMissing 1 = .ok (.getfield 13, 3) := by decide +kernel
theorem dX7_isMissing_4 : decode cX7_isMissing 4 = .ok (.iconst (-1), 1) := by decide +kernel
theorem dX7_isMissing_5 : decode cX7_isMissing 5 = .ok (.if_icmp .ne 7, 3) := by decide +kernel
theorem dX7_isMissing_8 : decode cX7_isMissing 8 = .ok (.iconst 1, 1) := by decide +kernel
theorem dX7_isMissing_9 : decode cX7_isMissing 9 = .ok (.goto 4, 3) := by decide +kernel
theorem dX7_isMissing_12 : decode cX7_isMissing 12 = .ok (.iconst 0, 1) := by decide +kernel
theorem dX7_isMissing_13 : decode cX7_isMissing 13 = .ok (.ireturn, 1) := by decide +kernel
def ins_X7_isMissing (pc : Nat) : HOp := cond (Nat.blt pc 8) (cond (Nat.blt pc 4) (cond (Nat.blt pc 1) (cond (Nat.beq pc 0) (o_aload 0 1) o_bad) (cond (Nat.beq pc 1) (o_getf 7 1 4) o_bad)) (cond (Nat.blt pc 5) (cond (Nat.beq pc 4) (o_const (-1) 5) o_bad) (cond (Nat.beq pc 5) (o_icmp (fun x y => x = y) 8 12) o_bad))) (cond (Nat.blt pc 12) (cond (Nat.blt pc 9) (cond (Nat.beq pc 8) (o_const (1) 9) o_bad) (cond (Nat.beq pc 9) (o_goto 13) o_bad)) (cond (Nat.blt pc 13) (cond (Nat.beq pc 12) (o_const (0) 13) o_bad) (cond (Nat.beq pc 13) (o_zret) o_bad)))
set_option maxRecDepth 20000 in
theorem ok_X7_isMissing : HOKs cX7_isMissing RX7 1 (some .boolean) 1 ins_X7_isMissing := fun _ => hnd (hnd (hnd (hlf (ok_aload_n dX7_isMissing_0 rfl rfl)) (hlf (ok_getf (C := RX7) (T := TX7) dX7_isMissing_1 rfl rfl (by decide) rfl inX7 wd_173 rfl))) (hnd (hlf (ok_iconst dX7_isMissing_4 (by decide) rfl)) (hlf (ok_icmp_ne dX7_isMissing_5 (by decide) rfl)))) (hnd (hnd (hlf (ok_iconst dX7_isMissing_8 (by decide) rfl)) (hlf (ok_goto dX7_isMissing_9 (by decide)))) (hnd (hlf (ok_iconst dX7_isMissing_12 (by decide) rfl)) (hlf (ok_zret dX7_isMissing_13))))

theorem vc_X7_isMissing : MVC ins_X7_isMissing 1 1 sp_X7_isMissing := by
  refine mvc0 40 fun as w σ q hl hs => ?_
  unfold sp_X7_isMissing at hs
  split at hs
  rotate_left
  · exact hs.elim
  rename_i s
  clear hl
  repeat' (first | apply br2 | intro _)
  all_goals first | exact ⟨Or.inl rfl, hs.2 (by grind)⟩ | exact ⟨Or.inr rfl, hs.1 (by grind)⟩
theorem ct_X7_isMissing : Ctr yX7_isMissing cX7_isMissing 1 (some .boolean) 1 0 0 1 sp_X7_isMissing := ctr_of (by decide +kernel) rfl (by decide) ok_X7_isMissing vc_X7_isMissing

def sp_X7_has : HSp := fun as w σ K => match as with
  | [.inr (.inl (7, some s)), .inl x] => spZ (0 ≤ x ∧ x < σ 7 s 1) w σ K
  | _ => False
theorem dX7_has_0 : decode cX7_has 0 = .ok (.iload_n 1, 1) := by decide +kernel
theorem dX7_has_1 : decode cX7_has 1 = .ok (.aload_n 0, 1) := by decide +kernel
theorem dX7_has_2 : decode cX7_has 2 = .ok (.getfield 13, 3) := by decide +kernel
theorem dX7_has_5 : decode cX7_has 5 = .ok (.invokestatic 23, 3) := by decide +kernel
theorem dX7_has_8 : decode cX7_has 8 = .ok (.ireturn, 1) := by decide +kernel
def ins_X7_has (pc : Nat) : HOp := cond (Nat.blt pc 2) (cond (Nat.blt pc 1) (cond (Nat.beq pc 0) (o_iload 1 1) o_bad) (cond (Nat.beq pc 1) (o_aload 0 2) o_bad)) (cond (Nat.blt pc 5) (cond (Nat.beq pc 2) (o_getf 7 1 5) o_bad) (cond (Nat.blt pc 8) (cond (Nat.beq pc 5) (o_callS 2 sp_X10_isBelow 8) o_bad) (cond (Nat.beq pc 8) (o_zret) o_bad)))
set_option maxRecDepth 20000 in
theorem ok_X7_has : HOKs cX7_has RX7 2 (some .boolean) 2 ins_X7_has := fun _ => hnd (hnd (hlf (ok_iload_n dX7_has_0 rfl rfl)) (hlf (ok_aload_n dX7_has_1 rfl rfl))) (hnd (hlf (ok_getf (C := RX7) (T := TX7) dX7_has_2 rfl rfl (by decide) rfl inX7 wd_173 rfl)) (hnd (hlf (ok_callSN (y := yX10_isBelow) dX7_has_5 ct_X10_isBelow (by decide) (by decide) wd_320 wd_505 wd_319 wd_42 (by decide +kernel) rfl)) (hlf (ok_zret dX7_has_8))))

theorem vc_X7_has : MVC ins_X7_has 2 2 sp_X7_has := by
  refine mvc0 40 fun as w σ q hl hs => ?_
  unfold sp_X7_has at hs
  split at hs
  rotate_left
  · exact hs.elim
  rename_i s x
  exact br2 (fun h => ⟨Or.inr rfl, hs.1 h⟩) (fun h => ⟨Or.inl rfl, hs.2 h⟩)
theorem ct_X7_has : Ctr yX7_has cX7_has 2 (some .boolean) 2 0 0 2 sp_X7_has := ctr_of (by decide +kernel) rfl (by decide) ok_X7_has vc_X7_has

def sp_X7_hasRun : HSp := fun as w σ K => match as with
  | [.inr (.inl (7, some s)), .inl p, .inl m] => spZ (¬ m < 0 ∧ ¬ σ 7 s 1 < m ∧ ¬ p < 0 ∧ ¬ σ 7 s 1 - m < p) w σ K
  | _ => False
theorem dX7_hasRun_0 : decode cX7_hasRun 0 = .ok (.iload_n 2, 1) := by decide +kernel
theorem dX7_hasRun_1 : decode cX7_hasRun 1 = .ok (.ifCond .lt 29, 3) := by decide +kernel
theorem dX7_hasRun_4 : decode cX7_hasRun 4 = .ok (.iload_n 2, 1) := by decide +kernel
theorem dX7_hasRun_5 : decode cX7_hasRun 5 = .ok (.aload_n 0, 1) := by decide +kernel
theorem dX7_hasRun_6 : decode cX7_hasRun 6 = .ok (.getfield 13, 3) := by decide +kernel
theorem dX7_hasRun_9 : decode cX7_hasRun 9 = .ok (.if_icmp .gt 21, 3) := by decide +kernel
theorem dX7_hasRun_12 : decode cX7_hasRun 12 = .ok (.iload_n 1, 1) := by decide +kernel
theorem dX7_hasRun_13 : decode cX7_hasRun 13 = .ok (.ifCond .lt 17, 3) := by decide +kernel
theorem dX7_hasRun_16 : decode cX7_hasRun 16 = .ok (.iload_n 1, 1) := by decide +kernel
theorem dX7_hasRun_17 : decode cX7_hasRun 17 = .ok (.aload_n 0, 1) := by decide +kernel
theorem dX7_hasRun_18 : decode cX7_hasRun 18 = .ok (.getfield 13, 3) := by decide +kernel
theorem dX7_hasRun_21 : decode cX7_hasRun 21 = .ok (.iload_n 2, 1) := by decide +kernel
theorem dX7_hasRun_22 : decode cX7_hasRun 22 = .ok (.isub, 1) := by decide +kernel
theorem dX7_hasRun_23 : decode cX7_hasRun 23 = .ok (.if_icmp .gt 7, 3) := by decide +kernel
theorem dX7_hasRun_26 : decode cX7_hasRun 26 = .ok (.iconst 1, 1) := by decide +kernel
theorem dX7_hasRun_27 : decode cX7_hasRun 27 = .ok (.goto 4, 3) := by decide +kernel
theorem dX7_hasRun_30 : decode cX7_hasRun 30 = .ok (.iconst 0, 1) := by decide +kernel
theorem dX7_hasRun_31 : decode cX7_hasRun 31 = .ok (.ireturn, 1) := by decide +kernel
def ins_X7_hasRun (pc : Nat) : HOp := cond (Nat.blt pc 17) (cond (Nat.blt pc 6) (cond (Nat.blt pc 4) (cond (Nat.blt pc 1) (cond (Nat.beq pc 0) (o_iload 2 1) o_bad) (cond (Nat.beq pc 1) (o_if (fun x => x < 0) 30 4) o_bad)) (cond (Nat.blt pc 5) (cond (Nat.beq pc 4) (o_iload 2 5) o_bad) (cond (Nat.beq pc 5) (o_aload 0 6) o_bad))) (cond (Nat.blt pc 12) (cond (Nat.blt pc 9) (cond (Nat.beq pc 6) (o_getf 7 1 9) o_bad) (cond (Nat.beq pc 9) (o_icmp (fun x y => y < x) 30 12) o_bad)) (cond (Nat.blt pc 13) (cond (Nat.beq pc 12) (o_iload 1 13) o_bad) (cond (Nat.blt pc 16) (cond (Nat.beq pc 13) (o_if (fun x => x < 0) 30 16) o_bad) (cond (Nat.beq pc 16) (o_iload 1 17) o_bad))))) (cond (Nat.blt pc 23) (cond (Nat.blt pc 21) (cond (Nat.blt pc 18) (cond (Nat.beq pc 17) (o_aload 0 18) o_bad) (cond (Nat.beq pc 18) (o_getf 7 1 21) o_bad)) (cond (Nat.blt pc 22) (cond (Nat.beq pc 21) (o_iload 2 22) o_bad) (cond (Nat.beq pc 22) (o_bin (fun x y => x - y) 23) o_bad))) (cond (Nat.blt pc 27) (cond (Nat.blt pc 26) (cond (Nat.beq pc 23) (o_icmp (fun x y => y < x) 30 26) o_bad) (cond (Nat.beq pc 26) (o_const (1) 27) o_bad)) (cond (Nat.blt pc 30) (cond (Nat.beq pc 27) (o_goto 31) o_bad) (cond (Nat.blt pc 31) (cond (Nat.beq pc 30) (o_const (0) 31) o_bad) (cond (Nat.beq pc 31) (o_zret) o_bad)))))
set_option maxRecDepth 20000 in
theorem ok_X7_hasRun : HOKs cX7_hasRun RX7 3 (some .boolean) 1 ins_X7_hasRun := fun _ => hnd (hnd (hnd (hnd (hlf (ok_iload_n dX7_hasRun_0 rfl rfl)) (hlf (ok_if_lt dX7_hasRun_1 (by decide) rfl))) (hnd (hlf (ok_iload_n dX7_hasRun_4 rfl rfl)) (hlf (ok_aload_n dX7_hasRun_5 rfl rfl)))) (hnd (hnd (hlf (ok_getf (C := RX7) (T := TX7) dX7_hasRun_6 rfl rfl (by decide) rfl inX7 wd_173 rfl)) (hlf (ok_icmp_gt dX7_hasRun_9 (by decide) rfl))) (hnd (hlf (ok_iload_n dX7_hasRun_12 rfl rfl)) (hnd (hlf (ok_if_lt dX7_hasRun_13 (by decide) rfl)) (hlf (ok_iload_n dX7_hasRun_16 rfl rfl)))))) (hnd (hnd (hnd (hlf (ok_aload_n dX7_hasRun_17 rfl rfl)) (hlf (ok_getf (C := RX7) (T := TX7) dX7_hasRun_18 rfl rfl (by decide) rfl inX7 wd_173 rfl))) (hnd (hlf (ok_iload_n dX7_hasRun_21 rfl rfl)) (hlf (ok_isub dX7_hasRun_22 rfl)))) (hnd (hnd (hlf (ok_icmp_gt dX7_hasRun_23 (by decide) rfl)) (hlf (ok_iconst dX7_hasRun_26 (by decide) rfl))) (hnd (hlf (ok_goto dX7_hasRun_27 (by decide))) (hnd (hlf (ok_iconst dX7_hasRun_30 (by decide) rfl)) (hlf (ok_zret dX7_hasRun_31))))))

theorem vc_X7_hasRun : MVC ins_X7_hasRun 3 3 sp_X7_hasRun := by
  refine mvc0 60 fun as w σ q hl hs => ?_
  unfold sp_X7_hasRun at hs
  split at hs
  rotate_left
  · exact hs.elim
  rename_i s p m
  clear hl
  repeat' (first | apply br2 | intro _)
  all_goals first | exact ⟨Or.inl rfl, hs.2 (by grind)⟩ | exact ⟨Or.inr rfl, hs.1 (by grind)⟩
theorem ct_X7_hasRun : Ctr yX7_hasRun cX7_hasRun 3 (some .boolean) 1 0 0 3 sp_X7_hasRun := ctr_of (by decide +kernel) rfl (by decide) ok_X7_hasRun vc_X7_hasRun

def sp_X8_hasRoom : HSp := fun as w σ K => match as with
  | [.inr (.inl (8, some 0))] => spZ (¬ 60 < σ 8 0 1 + 12) w σ K
  | _ => False
theorem dX8_hasRoom_0 : decode cX8_hasRoom 0 = .ok (.aload_n 0, 1) := by decide +kernel
theorem dX8_hasRoom_1 : decode cX8_hasRoom 1 = .ok (.getfield 13, 3) := by decide +kernel
theorem dX8_hasRoom_4 : decode cX8_hasRoom 4 = .ok (.bipush 12, 2) := by decide +kernel
theorem dX8_hasRoom_6 : decode cX8_hasRoom 6 = .ok (.iadd, 1) := by decide +kernel
theorem dX8_hasRoom_7 : decode cX8_hasRoom 7 = .ok (.bipush 60, 2) := by decide +kernel
theorem dX8_hasRoom_9 : decode cX8_hasRoom 9 = .ok (.if_icmp .gt 7, 3) := by decide +kernel
theorem dX8_hasRoom_12 : decode cX8_hasRoom 12 = .ok (.iconst 1, 1) := by decide +kernel
theorem dX8_hasRoom_13 : decode cX8_hasRoom 13 = .ok (.goto 4, 3) := by decide +kernel
theorem dX8_hasRoom_16 : decode cX8_hasRoom 16 = .ok (.iconst 0, 1) := by decide +kernel
theorem dX8_hasRoom_17 : decode cX8_hasRoom 17 = .ok (.ireturn, 1) := by decide +kernel
def ins_X8_hasRoom (pc : Nat) : HOp := cond (Nat.blt pc 9) (cond (Nat.blt pc 4) (cond (Nat.blt pc 1) (cond (Nat.beq pc 0) (o_aload 0 1) o_bad) (cond (Nat.beq pc 1) (o_getf 8 1 4) o_bad)) (cond (Nat.blt pc 6) (cond (Nat.beq pc 4) (o_const (12) 6) o_bad) (cond (Nat.blt pc 7) (cond (Nat.beq pc 6) (o_bin (fun x y => x + y) 7) o_bad) (cond (Nat.beq pc 7) (o_const (60) 9) o_bad)))) (cond (Nat.blt pc 13) (cond (Nat.blt pc 12) (cond (Nat.beq pc 9) (o_icmp (fun x y => y < x) 16 12) o_bad) (cond (Nat.beq pc 12) (o_const (1) 13) o_bad)) (cond (Nat.blt pc 16) (cond (Nat.beq pc 13) (o_goto 17) o_bad) (cond (Nat.blt pc 17) (cond (Nat.beq pc 16) (o_const (0) 17) o_bad) (cond (Nat.beq pc 17) (o_zret) o_bad))))
set_option maxRecDepth 20000 in
theorem ok_X8_hasRoom : HOKs cX8_hasRoom RX8 1 (some .boolean) 1 ins_X8_hasRoom := fun _ => hnd (hnd (hnd (hlf (ok_aload_n dX8_hasRoom_0 rfl rfl)) (hlf (ok_getf (C := RX8) (T := TX8) dX8_hasRoom_1 rfl rfl (by decide) rfl inX8 wd_107 rfl))) (hnd (hlf (ok_bipush dX8_hasRoom_4 (by decide) rfl)) (hnd (hlf (ok_iadd dX8_hasRoom_6 rfl)) (hlf (ok_bipush dX8_hasRoom_7 (by decide) rfl))))) (hnd (hnd (hlf (ok_icmp_gt dX8_hasRoom_9 (by decide) rfl)) (hlf (ok_iconst dX8_hasRoom_12 (by decide) rfl))) (hnd (hlf (ok_goto dX8_hasRoom_13 (by decide))) (hnd (hlf (ok_iconst dX8_hasRoom_16 (by decide) rfl)) (hlf (ok_zret dX8_hasRoom_17)))))

theorem vc_X8_hasRoom : MVC ins_X8_hasRoom 1 1 sp_X8_hasRoom := by
  refine mvc0 60 fun as w σ q hl hs => ?_
  unfold sp_X8_hasRoom at hs
  split at hs
  rotate_left
  · exact hs.elim
  clear hl
  repeat' (first | apply br2 | intro _)
  all_goals first | exact ⟨Or.inl rfl, hs.2 (by grind)⟩ | exact ⟨Or.inr rfl, hs.1 (by grind)⟩
theorem ct_X8_hasRoom : Ctr yX8_hasRoom cX8_hasRoom 1 (some .boolean) 1 0 0 1 sp_X8_hasRoom := ctr_of (by decide +kernel) rfl (by decide) ok_X8_hasRoom vc_X8_hasRoom

abbrev alw (σ : HS) (r v : Nat) : Prop := σ 4 r 5 >>> ((σ 9 v 2 - σ 9 v 2 / 7 * 7) &&& 31) &&& 1 = 0 ∧ ¬ σ 4 r 4 < σ 9 v 4
def sp_X4_allows : HSp := fun as w σ K => match as with
  | [.inr (.inl (4, some r)), .inr (.inl (9, some v))] => spZ (alw σ r v) w σ K
  | _ => False
theorem dX4_allows_0 : decode cX4_allows 0 = .ok (.aload_n 0, 1) := by decide +kernel
theorem dX4_allows_1 : decode cX4_allows 1 = .ok (.getfield 19, 3) := by decide +kernel
theorem dX4_allows_4 : decode cX4_allows 4 = .ok (.aload_n 1, 1) := by decide +kernel
theorem dX4_allows_5 : decode cX4_allows 5 = .ok (.getfield 22, 3) := by decide +kernel
theorem dX4_allows_8 : decode cX4_allows 8 = .ok (.bipush 7, 2) := by decide +kernel
theorem dX4_allows_10 : decode cX4_allows 10 = .ok (.irem, 1) := by decide +kernel
theorem dX4_allows_11 : decode cX4_allows 11 = .ok (.ishr, 1) := by decide +kernel
theorem dX4_allows_12 : decode cX4_allows 12 = .ok (.iconst 1, 1) := by decide +kernel
theorem dX4_allows_13 : decode cX4_allows 13 = .ok (.iand, 1) := by decide +kernel
theorem dX4_allows_14 : decode cX4_allows 14 = .ok (.ifCond .ne 18, 3) := by decide +kernel
theorem dX4_allows_17 : decode cX4_allows 17 = .ok (.aload_n 1, 1) := by decide +kernel
theorem dX4_allows_18 : decode cX4_allows 18 = .ok (.getfield 27, 3) := by decide +kernel
theorem dX4_allows_21 : decode cX4_allows 21 = .ok (.aload_n 0, 1) := by decide +kernel
theorem dX4_allows_22 : decode cX4_allows 22 = .ok (.getfield 16, 3) := by decide +kernel
theorem dX4_allows_25 : decode cX4_allows 25 = .ok (.if_icmp .gt 7, 3) := by decide +kernel
theorem dX4_allows_28 : decode cX4_allows 28 = .ok (.iconst 1, 1) := by decide +kernel
theorem dX4_allows_29 : decode cX4_allows 29 = .ok (.goto 4, 3) := by decide +kernel
theorem dX4_allows_32 : decode cX4_allows 32 = .ok (.iconst 0, 1) := by decide +kernel
theorem dX4_allows_33 : decode cX4_allows 33 = .ok (.ireturn, 1) := by decide +kernel
def ins_X4_allows (pc : Nat) : HOp := cond (Nat.blt pc 14) (cond (Nat.blt pc 8) (cond (Nat.blt pc 4) (cond (Nat.blt pc 1) (cond (Nat.beq pc 0) (o_aload 0 1) o_bad) (cond (Nat.beq pc 1) (o_getf 4 5 4) o_bad)) (cond (Nat.blt pc 5) (cond (Nat.beq pc 4) (o_aload 1 5) o_bad) (cond (Nat.beq pc 5) (o_getf 9 2 8) o_bad))) (cond (Nat.blt pc 11) (cond (Nat.blt pc 10) (cond (Nat.beq pc 8) (o_const (7) 10) o_bad) (cond (Nat.beq pc 10) (o_dv (fun x y => x - x / y * y) 11) o_bad)) (cond (Nat.blt pc 12) (cond (Nat.beq pc 11) (o_bin (fun x y => x >>> (y &&& 31)) 12) o_bad) (cond (Nat.blt pc 13) (cond (Nat.beq pc 12) (o_const (1) 13) o_bad) (cond (Nat.beq pc 13) (o_bin (fun x y => x &&& y) 14) o_bad))))) (cond (Nat.blt pc 25) (cond (Nat.blt pc 18) (cond (Nat.blt pc 17) (cond (Nat.beq pc 14) (o_if (fun x => x = 0) 17 32) o_bad) (cond (Nat.beq pc 17) (o_aload 1 18) o_bad)) (cond (Nat.blt pc 21) (cond (Nat.beq pc 18) (o_getf 9 4 21) o_bad) (cond (Nat.blt pc 22) (cond (Nat.beq pc 21) (o_aload 0 22) o_bad) (cond (Nat.beq pc 22) (o_getf 4 4 25) o_bad)))) (cond (Nat.blt pc 29) (cond (Nat.blt pc 28) (cond (Nat.beq pc 25) (o_icmp (fun x y => y < x) 32 28) o_bad) (cond (Nat.beq pc 28) (o_const (1) 29) o_bad)) (cond (Nat.blt pc 32) (cond (Nat.beq pc 29) (o_goto 33) o_bad) (cond (Nat.blt pc 33) (cond (Nat.beq pc 32) (o_const (0) 33) o_bad) (cond (Nat.beq pc 33) (o_zret) o_bad)))))
set_option maxRecDepth 20000 in
theorem ok_X4_allows : HOKs cX4_allows RX4 2 (some .boolean) 1 ins_X4_allows := fun _ => hnd (hnd (hnd (hnd (hlf (ok_aload_n dX4_allows_0 rfl rfl)) (hlf (ok_getf (C := RX4) (T := TX4) dX4_allows_1 rfl rfl (by decide) rfl inX4 wd_604 rfl))) (hnd (hlf (ok_aload_n dX4_allows_4 rfl rfl)) (hlf (ok_getfN (C := RX9) (T := TX9) dX4_allows_5 rfl rfl (by decide) rfl inX9 wd_244 rfl)))) (hnd (hnd (hlf (ok_bipush dX4_allows_8 (by decide) rfl)) (hlf (ok_irem dX4_allows_10 rfl))) (hnd (hlf (ok_ishr dX4_allows_11 rfl)) (hnd (hlf (ok_iconst dX4_allows_12 (by decide) rfl)) (hlf (ok_iand dX4_allows_13 rfl)))))) (hnd (hnd (hnd (hlf (ok_if_ne dX4_allows_14 (by decide) rfl)) (hlf (ok_aload_n dX4_allows_17 rfl rfl))) (hnd (hlf (ok_getfN (C := RX9) (T := TX9) dX4_allows_18 rfl rfl (by decide) rfl inX9 wd_253 rfl)) (hnd (hlf (ok_aload_n dX4_allows_21 rfl rfl)) (hlf (ok_getf (C := RX4) (T := TX4) dX4_allows_22 rfl rfl (by decide) rfl inX4 wd_601 rfl))))) (hnd (hnd (hlf (ok_icmp_gt dX4_allows_25 (by decide) rfl)) (hlf (ok_iconst dX4_allows_28 (by decide) rfl))) (hnd (hlf (ok_goto dX4_allows_29 (by decide))) (hnd (hlf (ok_iconst dX4_allows_32 (by decide) rfl)) (hlf (ok_zret dX4_allows_33))))))

theorem vc_X4_allows : MVC ins_X4_allows 2 2 sp_X4_allows := by
  refine mvc0 60 fun as w σ q hl hs => ?_
  unfold sp_X4_allows at hs
  split at hs
  rotate_left
  · exact hs.elim
  rename_i r v
  clear hl
  refine And.intro (by decide) ?_
  repeat' (first | apply br2 | intro _)
  all_goals first | exact ⟨Or.inl rfl, hs.2 (by grind)⟩ | exact ⟨Or.inr rfl, hs.1 (by grind)⟩
theorem ct_X4_allows : Ctr yX4_allows cX4_allows 2 (some .boolean) 1 0 0 2 sp_X4_allows := ctr_of (by decide +kernel) rfl (by decide) ok_X4_allows vc_X4_allows

def sp_X4_gives : HSp := fun as w σ K => match as with
  | [.inr (.inl (4, some r)), .inl b] => K (some (HI (if b = 0 then σ 4 r 0 else σ 4 r 0 + σ 4 r 3))) w σ
  | _ => False
theorem dX4_gives_0 : decode cX4_gives 0 = .ok (.iload_n 1, 1) := by decide +kernel
theorem dX4_gives_1 : decode cX4_gives 1 = .ok (.ifCond .eq 15, 3) := by decide +kernel
theorem dX4_gives_4 : decode cX4_gives 4 = .ok (.aload_n 0, 1) := by decide +kernel
theorem dX4_gives_5 : decode cX4_gives 5 = .ok (.getfield 30, 3) := by decide +kernel
theorem dX4_gives_8 : decode cX4_gives 8 = .ok (.aload_n 0, 1) := by decide +kernel
theorem dX4_gives_9 : decode cX4_gives 9 = .ok (.getfield 33, 3) := by decide +kernel
theorem dX4_gives_12 : decode cX4_gives 12 = .ok (.iadd, 1) := by decide +kernel
theorem dX4_gives_13 : decode cX4_gives 13 = .ok (.goto 7, 3) := by decide +kernel
theorem dX4_gives_16 : decode cX4_gives 16 = .ok (.aload_n 0, 1) := by decide +kernel
theorem dX4_gives_17 : decode cX4_gives 17 = .ok (.getfield 30, 3) := by decide +kernel
theorem dX4_gives_20 : decode cX4_gives 20 = .ok (.ireturn, 1) := by decide +kernel
def ins_X4_gives (pc : Nat) : HOp := cond (Nat.blt pc 9) (cond (Nat.blt pc 4) (cond (Nat.blt pc 1) (cond (Nat.beq pc 0) (o_iload 1 1) o_bad) (cond (Nat.beq pc 1) (o_if (fun x => x = 0) 16 4) o_bad)) (cond (Nat.blt pc 5) (cond (Nat.beq pc 4) (o_aload 0 5) o_bad) (cond (Nat.blt pc 8) (cond (Nat.beq pc 5) (o_getf 4 0 8) o_bad) (cond (Nat.beq pc 8) (o_aload 0 9) o_bad)))) (cond (Nat.blt pc 16) (cond (Nat.blt pc 12) (cond (Nat.beq pc 9) (o_getf 4 3 12) o_bad) (cond (Nat.blt pc 13) (cond (Nat.beq pc 12) (o_bin (fun x y => x + y) 13) o_bad) (cond (Nat.beq pc 13) (o_goto 20) o_bad))) (cond (Nat.blt pc 17) (cond (Nat.beq pc 16) (o_aload 0 17) o_bad) (cond (Nat.blt pc 20) (cond (Nat.beq pc 17) (o_getf 4 0 20) o_bad) (cond (Nat.beq pc 20) (o_iret) o_bad))))
set_option maxRecDepth 20000 in
theorem ok_X4_gives : HOKs cX4_gives RX4 2 (some .int) 1 ins_X4_gives := fun _ => hnd (hnd (hnd (hlf (ok_iload_n dX4_gives_0 rfl rfl)) (hlf (ok_if_eq dX4_gives_1 (by decide) rfl))) (hnd (hlf (ok_aload_n dX4_gives_4 rfl rfl)) (hnd (hlf (ok_getf (C := RX4) (T := TX4) dX4_gives_5 rfl rfl (by decide) rfl inX4 wd_588 rfl)) (hlf (ok_aload_n dX4_gives_8 rfl rfl))))) (hnd (hnd (hlf (ok_getf (C := RX4) (T := TX4) dX4_gives_9 rfl rfl (by decide) rfl inX4 wd_598 rfl)) (hnd (hlf (ok_iadd dX4_gives_12 rfl)) (hlf (ok_goto dX4_gives_13 (by decide))))) (hnd (hlf (ok_aload_n dX4_gives_16 rfl rfl)) (hnd (hlf (ok_getf (C := RX4) (T := TX4) dX4_gives_17 rfl rfl (by decide) rfl inX4 wd_588 rfl)) (hlf (ok_iret dX4_gives_20)))))

theorem vc_X4_gives : MVC ins_X4_gives 2 2 sp_X4_gives := by
  refine mvc0 60 fun as w σ q hl hs => ?_
  unfold sp_X4_gives at hs
  split at hs
  rotate_left
  · exact hs.elim
  rename_i r b
  apply br2
  · intro h
    rw [if_pos h] at hs
    exact hs
  · intro h
    rw [if_neg h] at hs
    exact hs
theorem ct_X4_gives : Ctr yX4_gives cX4_gives 2 (some .int) 1 0 0 2 sp_X4_gives := ctr_of (by decide +kernel) rfl (by decide) ok_X4_gives vc_X4_gives

theorem al13 (p : Nat) : al 13 (p + 4) = 14 := rfl
theorem in14 {v : Int32} (h : 0 ≤ v ∧ v < 14) : vp_in v 14 := by
  obtain ⟨i, hi, rfl⟩ := in_of (n := 14) h
  exact vp_in_nI hi (by decide)
def sp_X3_barredFrom : HSp := fun as w σ K => match as with
  | [.inr (.inl (3, some p)), .inl v] => ((0 ≤ v ∧ v < 14) → K (some (HI (σ 13 (p + 4) v.toNatClampNeg))) w σ) ∧ (¬ (0 ≤ v ∧ v < 14) → K (some (HI 401)) w σ)
  | _ => False
theorem dX3_barredFrom_0 : decode cX3_barredFrom 0 = .ok (.iload_n 1, 1) := by decide +kernel
theorem dX3_barredFrom_1 : decode cX3_barredFrom 1 = .ok (.aload_n 0, 1) := by decide +kernel
theorem dX3_barredFrom_2 : decode cX3_barredFrom 2 = .ok (.getfield 17, 3) := by decide +kernel
theorem dX3_barredFrom_5 : decode cX3_barredFrom 5 = .ok (.arraylength, 1) := by decide +kernel
theorem dX3_barredFrom_6 : decode cX3_barredFrom 6 = .ok (.invokestatic 34, 3) := by decide +kernel
theorem dX3_barredFrom_9 : decode cX3_barredFrom 9 = .ok (.ifCond .eq 12, 3) := by decide +kernel
theorem dX3_barredFrom_12 : decode cX3_barredFrom 12 = .ok (.aload_n 0, 1) := by decide +kernel
theorem dX3_barredFrom_13 : decode cX3_barredFrom 13 = .ok (.getfield 17, 3) := by decide +kernel
theorem dX3_barredFrom_16 : decode cX3_barredFrom 16 = .ok (.iload_n 1, 1) := by decide +kernel
theorem dX3_barredFrom_17 : decode cX3_barredFrom 17 = .ok (.iaload, 1) := by decide +kernel
theorem dX3_barredFrom_18 : decode cX3_barredFrom 18 = .ok (.goto 6, 3) := by decide +kernel
theorem dX3_barredFrom_21 : decode cX3_barredFrom 21 = .ok (.sipush 401, 3) := by decide +kernel
theorem dX3_barredFrom_24 : decode cX3_barredFrom 24 = .ok (.ireturn, 1) := by decide +kernel
def ins_X3_barredFrom (pc : Nat) : HOp := cond (Nat.blt pc 12) (cond (Nat.blt pc 5) (cond (Nat.blt pc 1) (cond (Nat.beq pc 0) (o_iload 1 1) o_bad) (cond (Nat.blt pc 2) (cond (Nat.beq pc 1) (o_aload 0 2) o_bad) (cond (Nat.beq pc 2) (o_getf 3 4 5) o_bad))) (cond (Nat.blt pc 6) (cond (Nat.beq pc 5) (o_alen 6) o_bad) (cond (Nat.blt pc 9) (cond (Nat.beq pc 6) (o_callS 2 sp_X10_isBelow 9) o_bad) (cond (Nat.beq pc 9) (o_if (fun x => x = 0) 21 12) o_bad)))) (cond (Nat.blt pc 17) (cond (Nat.blt pc 13) (cond (Nat.beq pc 12) (o_aload 0 13) o_bad) (cond (Nat.blt pc 16) (cond (Nat.beq pc 13) (o_getf 3 4 16) o_bad) (cond (Nat.beq pc 16) (o_iload 1 17) o_bad))) (cond (Nat.blt pc 21) (cond (Nat.blt pc 18) (cond (Nat.beq pc 17) (o_iald 18) o_bad) (cond (Nat.beq pc 18) (o_goto 24) o_bad)) (cond (Nat.blt pc 24) (cond (Nat.beq pc 21) (o_const (401) 24) o_bad) (cond (Nat.beq pc 24) (o_iret) o_bad))))
set_option maxRecDepth 20000 in
theorem ok_X3_barredFrom : HOKs cX3_barredFrom RX3 2 (some .int) 2 ins_X3_barredFrom := fun _ => hnd (hnd (hnd (hlf (ok_iload_n dX3_barredFrom_0 rfl rfl)) (hnd (hlf (ok_aload_n dX3_barredFrom_1 rfl rfl)) (hlf (ok_getf (C := RX3) (T := TX3) dX3_barredFrom_2 rfl rfl (by decide) rfl inX3 wd_347 rfl)))) (hnd (hlf (ok_alen dX3_barredFrom_5 rfl)) (hnd (hlf (ok_callSN (y := yX10_isBelow) dX3_barredFrom_6 ct_X10_isBelow (by decide) (by decide) wd_320 wd_399 wd_319 wd_42 (by decide +kernel) rfl)) (hlf (ok_if_eq dX3_barredFrom_9 (by decide) rfl))))) (hnd (hnd (hlf (ok_aload_n dX3_barredFrom_12 rfl rfl)) (hnd (hlf (ok_getf (C := RX3) (T := TX3) dX3_barredFrom_13 rfl rfl (by decide) rfl inX3 wd_347 rfl)) (hlf (ok_iload_n dX3_barredFrom_16 rfl rfl)))) (hnd (hnd (hlf (ok_iald dX3_barredFrom_17 rfl)) (hlf (ok_goto dX3_barredFrom_18 (by decide)))) (hnd (hlf (ok_sipush dX3_barredFrom_21 (by decide) rfl)) (hlf (ok_iret dX3_barredFrom_24)))))

theorem vc_X3_barredFrom : MVC ins_X3_barredFrom 2 2 sp_X3_barredFrom := by
  refine mvc0 60 fun as w σ q hl hs => ?_
  unfold sp_X3_barredFrom at hs
  split at hs
  rotate_left
  · exact hs.elim
  rename_i p v
  apply br2
  · intro h
    exact And.intro (fun h => absurd h (by decide)) (fun _ => And.intro (in14 h) (hs.1 h))
  · intro h
    exact And.intro (fun _ => hs.2 h) (fun h => absurd rfl h)
theorem ct_X3_barredFrom : Ctr yX3_barredFrom cX3_barredFrom 2 (some .int) 2 0 0 2 sp_X3_barredFrom := ctr_of (by decide +kernel) rfl (by decide) ok_X3_barredFrom vc_X3_barredFrom

def sp_X3_barFrom : HSp := fun as w σ K => match as with
  | [.inr (.inl (3, some p)), .inl v, .inl d] => ((0 ≤ v ∧ v < 14) → K none w (up3 σ 13 (p + 4) v.toNatClampNeg d)) ∧ (¬ (0 ≤ v ∧ v < 14) → K none w σ)
  | _ => False
theorem dX3_barFrom_0 : decode cX3_barFrom 0 = .ok (.iload_n 1, 1) := by decide +kernel
theorem dX3_barFrom_1 : decode cX3_barFrom 1 = .ok (.aload_n 0, 1) := by decide +kernel
theorem dX3_barFrom_2 : decode cX3_barFrom 2 = .ok (.getfield 17, 3) := by decide +kernel
theorem dX3_barFrom_5 : decode cX3_barFrom 5 = .ok (.arraylength, 1) := by decide +kernel
theorem dX3_barFrom_6 : decode cX3_barFrom 6 = .ok (.invokestatic 34, 3) := by decide +kernel
theorem dX3_barFrom_9 : decode cX3_barFrom 9 = .ok (.ifCond .eq 10, 3) := by decide +kernel
theorem dX3_barFrom_12 : decode cX3_barFrom 12 = .ok (.aload_n 0, 1) := by decide +kernel
theorem dX3_barFrom_13 : decode cX3_barFrom 13 = .ok (.getfield 17, 3) := by decide +kernel
theorem dX3_barFrom_16 : decode cX3_barFrom 16 = .ok (.iload_n 1, 1) := by decide +kernel
theorem dX3_barFrom_17 : decode cX3_barFrom 17 = .ok (.iload_n 2, 1) := by decide +kernel
theorem dX3_barFrom_18 : decode cX3_barFrom 18 = .ok (.iastore, 1) := by decide +kernel
theorem dX3_barFrom_19 : decode cX3_barFrom 19 = .ok (.return_, 1) := by decide +kernel
def ins_X3_barFrom (pc : Nat) : HOp := cond (Nat.blt pc 12) (cond (Nat.blt pc 5) (cond (Nat.blt pc 1) (cond (Nat.beq pc 0) (o_iload 1 1) o_bad) (cond (Nat.blt pc 2) (cond (Nat.beq pc 1) (o_aload 0 2) o_bad) (cond (Nat.beq pc 2) (o_getf 3 4 5) o_bad))) (cond (Nat.blt pc 6) (cond (Nat.beq pc 5) (o_alen 6) o_bad) (cond (Nat.blt pc 9) (cond (Nat.beq pc 6) (o_callS 2 sp_X10_isBelow 9) o_bad) (cond (Nat.beq pc 9) (o_if (fun x => x = 0) 19 12) o_bad)))) (cond (Nat.blt pc 17) (cond (Nat.blt pc 13) (cond (Nat.beq pc 12) (o_aload 0 13) o_bad) (cond (Nat.blt pc 16) (cond (Nat.beq pc 13) (o_getf 3 4 16) o_bad) (cond (Nat.beq pc 16) (o_iload 1 17) o_bad))) (cond (Nat.blt pc 18) (cond (Nat.beq pc 17) (o_iload 2 18) o_bad) (cond (Nat.blt pc 19) (cond (Nat.beq pc 18) (o_iast 19) o_bad) (cond (Nat.beq pc 19) (o_vret) o_bad))))
set_option maxRecDepth 20000 in
theorem ok_X3_barFrom : HOKs cX3_barFrom RX3 3 none 2 ins_X3_barFrom := fun _ => hnd (hnd (hnd (hlf (ok_iload_n dX3_barFrom_0 rfl rfl)) (hnd (hlf (ok_aload_n dX3_barFrom_1 rfl rfl)) (hlf (ok_getf (C := RX3) (T := TX3) dX3_barFrom_2 rfl rfl (by decide) rfl inX3 wd_347 rfl)))) (hnd (hlf (ok_alen dX3_barFrom_5 rfl)) (hnd (hlf (ok_callSN (y := yX10_isBelow) dX3_barFrom_6 ct_X10_isBelow (by decide) (by decide) wd_320 wd_399 wd_319 wd_42 (by decide +kernel) rfl)) (hlf (ok_if_eq dX3_barFrom_9 (by decide) rfl))))) (hnd (hnd (hlf (ok_aload_n dX3_barFrom_12 rfl rfl)) (hnd (hlf (ok_getf (C := RX3) (T := TX3) dX3_barFrom_13 rfl rfl (by decide) rfl inX3 wd_347 rfl)) (hlf (ok_iload_n dX3_barFrom_16 rfl rfl)))) (hnd (hlf (ok_iload_n dX3_barFrom_17 rfl rfl)) (hnd (hlf (ok_iast dX3_barFrom_18 rfl)) (hlf (ok_vret dX3_barFrom_19)))))

theorem vc_X3_barFrom : MVC ins_X3_barFrom 3 3 sp_X3_barFrom := by
  refine mvc0 60 fun as w σ q hl hs => ?_
  unfold sp_X3_barFrom at hs
  split at hs
  rotate_left
  · exact hs.elim
  rename_i p v d
  apply br2
  · intro h
    exact And.intro (fun h => absurd h (by decide)) (fun _ => And.intro (in14 h) (hs.1 h))
  · intro h
    exact And.intro (fun _ => hs.2 h) (fun h => absurd rfl h)
theorem ct_X3_barFrom : Ctr yX3_barFrom cX3_barFrom 3 none 2 0 0 3 sp_X3_barFrom := ctr_of (by decide +kernel) rfl (by decide) ok_X3_barFrom vc_X3_barFrom

/-- bit v of a set -/
abbrev bt1 (s : Int32) (v : Nat) : Prop := s >>> (nI v &&& 31) &&& 1 = 1
def sp_X3_isBarred : HSp := fun as w σ K => match as with
  | [.inr (.inl (3, some p)), .inl s, .inl d] => spZ (∃ v, v < 14 ∧ bt1 s v ∧ ¬ d < σ 13 (p + 4) v) w σ K
  | _ => False
theorem dX3_isBarred_0 : decode cX3_isBarred 0 = .ok (.iconst 0, 1) := by decide +kernel
theorem dX3_isBarred_1 : decode cX3_isBarred 1 = .ok (.istore_n 3, 1) := by decide +kernel
theorem dX3_isBarred_2 : decode cX3_isBarred 2 = .ok (.iload_n 3, 1) := by decide +kernel
theorem dX3_isBarred_3 : decode cX3_isBarred 3 = .ok (.aload_n 0, 1) := by decide +kernel
theorem dX3_isBarred_4 : decode cX3_isBarred 4 = .ok (.getfield 17, 3) := by decide +kernel
theorem dX3_isBarred_7 : decode cX3_isBarred 7 = .ok (.arraylength, 1) := by decide +kernel
theorem dX3_isBarred_8 : decode cX3_isBarred 8 = .ok (.if_icmp .ge 30, 3) := by decide +kernel
theorem dX3_isBarred_11 : decode cX3_isBarred 11 = .ok (.iload_n 1, 1) := by decide +kernel
theorem dX3_isBarred_12 : decode cX3_isBarred 12 = .ok (.iload_n 3, 1) := by decide +kernel
theorem dX3_isBarred_13 : decode cX3_isBarred 13 = .ok (.ishr, 1) := by decide +kernel
theorem dX3_isBarred_14 : decode cX3_isBarred 14 = .ok (.iconst 1, 1) := by decide +kernel
theorem dX3_isBarred_15 : decode cX3_isBarred 15 = .ok (.iand, 1) := by decide +kernel
theorem dX3_isBarred_16 : decode cX3_isBarred 16 = .ok (.iconst 1, 1) := by decide +kernel
theorem dX3_isBarred_17 : decode cX3_isBarred 17 = .ok (.if_icmp .ne 15, 3) := by decide +kernel
theorem dX3_isBarred_20 : decode cX3_isBarred 20 = .ok (.aload_n 0, 1) := by decide +kernel
theorem dX3_isBarred_21 : decode cX3_isBarred 21 = .ok (.getfield 17, 3) := by decide +kernel
theorem dX3_isBarred_24 : decode cX3_isBarred 24 = .ok (.iload_n 3, 1) := by decide +kernel
theorem dX3_isBarred_25 : decode cX3_isBarred 25 = .ok (.iaload, 1) := by decide +kernel
theorem dX3_isBarred_26 : decode cX3_isBarred 26 = .ok (.iload_n 2, 1) := by decide +kernel
theorem dX3_isBarred_27 : decode cX3_isBarred 27 = .ok (.if_icmp .gt 5, 3) := by decide +kernel
theorem dX3_isBarred_30 : decode cX3_isBarred 30 = .ok (.iconst 1, 1) := by decide +kernel
theorem dX3_isBarred_31 : decode cX3_isBarred 31 = .ok (.ireturn, 1) := by decide +kernel
theorem dX3_isBarred_32 : decode cX3_isBarred 32 = .ok (.iinc 3 1, 3) := by decide +kernel
theorem dX3_isBarred_35 : decode cX3_isBarred 35 = .ok (.goto (-33), 3) := by decide +kernel
theorem dX3_isBarred_38 : decode cX3_isBarred 38 = .ok (.iconst 0, 1) := by decide +kernel
theorem dX3_isBarred_39 : decode cX3_isBarred 39 = .ok (.ireturn, 1) := by decide +kernel
def ins_X3_isBarred (pc : Nat) : HOp := cond (Nat.blt pc 17) (cond (Nat.blt pc 8) (cond (Nat.blt pc 3) (cond (Nat.blt pc 1) (cond (Nat.beq pc 0) (o_const (0) 1) o_bad) (cond (Nat.blt pc 2) (cond (Nat.beq pc 1) (o_istore 3 2) o_bad) (cond (Nat.beq pc 2) (o_iload 3 3) o_bad))) (cond (Nat.blt pc 4) (cond (Nat.beq pc 3) (o_aload 0 4) o_bad) (cond (Nat.blt pc 7) (cond (Nat.beq pc 4) (o_getf 3 4 7) o_bad) (cond (Nat.beq pc 7) (o_alen 8) o_bad)))) (cond (Nat.blt pc 13) (cond (Nat.blt pc 11) (cond (Nat.beq pc 8) (o_icmp (fun x y => y ≤ x) 38 11) o_bad) (cond (Nat.blt pc 12) (cond (Nat.beq pc 11) (o_iload 1 12) o_bad) (cond (Nat.beq pc 12) (o_iload 3 13) o_bad))) (cond (Nat.blt pc 15) (cond (Nat.blt pc 14) (cond (Nat.beq pc 13) (o_bin (fun x y => x >>> (y &&& 31)) 14) o_bad) (cond (Nat.beq pc 14) (o_const (1) 15) o_bad)) (cond (Nat.blt pc 16) (cond (Nat.beq pc 15) (o_bin (fun x y => x &&& y) 16) o_bad) (cond (Nat.beq pc 16) (o_const (1) 17) o_bad))))) (cond (Nat.blt pc 27) (cond (Nat.blt pc 24) (cond (Nat.blt pc 20) (cond (Nat.beq pc 17) (o_icmp (fun x y => x = y) 20 32) o_bad) (cond (Nat.blt pc 21) (cond (Nat.beq pc 20) (o_aload 0 21) o_bad) (cond (Nat.beq pc 21) (o_getf 3 4 24) o_bad))) (cond (Nat.blt pc 25) (cond (Nat.beq pc 24) (o_iload 3 25) o_bad) (cond (Nat.blt pc 26) (cond (Nat.beq pc 25) (o_iald 26) o_bad) (cond (Nat.beq pc 26) (o_iload 2 27) o_bad)))) (cond (Nat.blt pc 32) (cond (Nat.blt pc 30) (cond (Nat.beq pc 27) (o_icmp (fun x y => y < x) 32 30) o_bad) (cond (Nat.blt pc 31) (cond (Nat.beq pc 30) (o_const (1) 31) o_bad) (cond (Nat.beq pc 31) (o_zret) o_bad))) (cond (Nat.blt pc 38) (cond (Nat.blt pc 35) (cond (Nat.beq pc 32) (o_iinc 3 (1) 35) o_bad) (cond (Nat.beq pc 35) (o_goto 2) o_bad)) (cond (Nat.blt pc 39) (cond (Nat.beq pc 38) (o_const (0) 39) o_bad) (cond (Nat.beq pc 39) (o_zret) o_bad)))))
set_option maxRecDepth 20000 in
theorem ok_X3_isBarred : HOKs cX3_isBarred RX3 4 (some .boolean) 1 ins_X3_isBarred := fun _ => hnd (hnd (hnd (hnd (hlf (ok_iconst dX3_isBarred_0 (by decide) rfl)) (hnd (hlf (ok_istore_n dX3_isBarred_1 rfl (by decide) rfl)) (hlf (ok_iload_n dX3_isBarred_2 rfl rfl)))) (hnd (hlf (ok_aload_n dX3_isBarred_3 rfl rfl)) (hnd (hlf (ok_getf (C := RX3) (T := TX3) dX3_isBarred_4 rfl rfl (by decide) rfl inX3 wd_347 rfl)) (hlf (ok_alen dX3_isBarred_7 rfl))))) (hnd (hnd (hlf (ok_icmp_ge dX3_isBarred_8 (by decide) rfl)) (hnd (hlf (ok_iload_n dX3_isBarred_11 rfl rfl)) (hlf (ok_iload_n dX3_isBarred_12 rfl rfl)))) (hnd (hnd (hlf (ok_ishr dX3_isBarred_13 rfl)) (hlf (ok_iconst dX3_isBarred_14 (by decide) rfl))) (hnd (hlf (ok_iand dX3_isBarred_15 rfl)) (hlf (ok_iconst dX3_isBarred_16 (by decide) rfl)))))) (hnd (hnd (hnd (hlf (ok_icmp_ne dX3_isBarred_17 (by decide) rfl)) (hnd (hlf (ok_aload_n dX3_isBarred_20 rfl rfl)) (hlf (ok_getf (C := RX3) (T := TX3) dX3_isBarred_21 rfl rfl (by decide) rfl inX3 wd_347 rfl)))) (hnd (hlf (ok_iload_n dX3_isBarred_24 rfl rfl)) (hnd (hlf (ok_iald dX3_isBarred_25 rfl)) (hlf (ok_iload_n dX3_isBarred_26 rfl rfl))))) (hnd (hnd (hlf (ok_icmp_gt dX3_isBarred_27 (by decide) rfl)) (hnd (hlf (ok_iconst dX3_isBarred_30 (by decide) rfl)) (hlf (ok_zret dX3_isBarred_31)))) (hnd (hnd (hlf (ok_iinc dX3_isBarred_32 (by decide) (by decide) rfl)) (hlf (ok_goto dX3_isBarred_35 (by decide)))) (hnd (hlf (ok_iconst dX3_isBarred_38 (by decide) rfl)) (hlf (ok_zret dX3_isBarred_39))))))

theorem vc_X3_isBarred : MVC ins_X3_isBarred 4 3 sp_X3_isBarred := by
  refine mvc1 2 60 fun as w σ q hl hs => ?_
  unfold sp_X3_isBarred at hs
  split at hs
  rotate_left
  · exact hs.elim
  rename_i p s d
  refine ⟨fun N ls st w' σ' => ∃ (i : Nat) (u : Int32), i ≤ 14 ∧ N = 14 - i ∧ u = nI i ∧ (∀ j, j < i → ¬ (bt1 s j ∧ ¬ d < σ 13 (p + 4) j)) ∧ ls = [some (HR 3 p), some (HI s), some (HI d), some (HI u)] ∧ st = [] ∧ w = w' ∧ σ = σ', ?_, ?_⟩
  · rintro N ls st w' σ' ⟨i, u, hi, rfl, rfl, hno, rfl, rfl, rfl, rfl⟩
    apply br2
    · intro h1
      obtain rfl := lp_end (n := 14) rfl hi h1
      exact ⟨Or.inl rfl, hs.2 fun ⟨j, h1, h2⟩ => hno j h1 h2⟩
    · intro h1
      have hlt := lp_go (n := 14) rfl hi h1
      have no : ¬ (bt1 s i ∧ ¬ d < σ 13 (p + 4) i) → ∃ N', N' < 14 - i ∧ ∃ (i' : Nat) (u : Int32), i' ≤ 14 ∧ N' = 14 - i' ∧ u = nI i' ∧ (∀ j, j < i' → ¬ (bt1 s j ∧ ¬ d < σ 13 (p + 4) j)) ∧ [some (HR 3 p), some (HI s), some (HI d), some (HI (nI i + 1))] = [some (HR 3 p), some (HI s), some (HI d), some (HI u)] ∧ ([] : List HV) = [] ∧ w = w ∧ σ = σ := fun h =>
        ⟨14 - (i + 1), by omega, i + 1, _, hlt, rfl, nI_1 i, fun j hj => (Nat.lt_succ_iff_lt_or_eq.mp hj).elim (hno j) (fun e => e ▸ h), rfl, rfl, rfl, rfl⟩
      apply br2
      rotate_left
      · intro h2
        exact no fun h => h2 h.1
      intro h2
      refine And.intro (vp_in_nI (N := 14) hlt (by decide)) ?_
      have e : (nI i).toNatClampNeg = i := nI_clamp (by omega)
      apply br2
      · intro h3
        exact no fun h => h.2 (by have h3 : d < σ 13 (p + 4) (nI i).toNatClampNeg := h3; rwa [e] at h3)
      · intro h3
        exact ⟨Or.inr rfl, hs.1 ⟨i, hlt, h2, by have h3 : ¬ d < σ 13 (p + 4) (nI i).toNatClampNeg := h3; rwa [e] at h3⟩⟩
  · exact ⟨14, 0, 0, Nat.zero_le _, rfl, rfl, fun j hj => absurd hj (by omega), rfl, rfl, rfl, rfl⟩
theorem ct_X3_isBarred : Ctr yX3_isBarred cX3_isBarred 4 (some .boolean) 1 0 0 3 sp_X3_isBarred := ctr_of (by decide +kernel) rfl (by decide) ok_X3_isBarred vc_X3_isBarred

def sp_X3_orderCount : HSp := fun as w σ K => match as with
  | [.inr (.inl (3, some p))] => K (some (HI (nI (cnt (fun v => decide (¬ σ 13 (p + 4) v = 401)) 14)))) w σ
  | _ => False
theorem dX3_orderCount_0 : decode cX3_orderCount 0 = .ok (.iconst 0, 1) := by decide +kernel
theorem dX3_orderCount_1 : decode cX3_orderCount 1 = .ok (.istore_n 1, 1) := by decide +kernel
theorem dX3_orderCount_2 : decode cX3_orderCount 2 = .ok (.iconst 0, 1) := by decide +kernel
theorem dX3_orderCount_3 : decode cX3_orderCount 3 = .ok (.istore_n 2, 1) := by decide +kernel
theorem dX3_orderCount_4 : decode cX3_orderCount 4 = .ok (.iload_n 2, 1) := by decide +kernel
theorem dX3_orderCount_5 : decode cX3_orderCount 5 = .ok (.aload_n 0, 1) := by decide +kernel
theorem dX3_orderCount_6 : decode cX3_orderCount 6 = .ok (.getfield 17, 3) := by decide +kernel
theorem dX3_orderCount_9 : decode cX3_orderCount 9 = .ok (.arraylength, 1) := by decide +kernel
theorem dX3_orderCount_10 : decode cX3_orderCount 10 = .ok (.if_icmp .ge 29, 3) := by decide +kernel
theorem dX3_orderCount_13 : decode cX3_orderCount 13 = .ok (.iload_n 1, 1) := by decide +kernel
theorem dX3_orderCount_14 : decode cX3_orderCount 14 = .ok (.aload_n 0, 1) := by decide +kernel
theorem dX3_orderCount_15 : decode cX3_orderCount 15 = .ok (.getfield 17, 3) := by decide +kernel
theorem dX3_orderCount_18 : decode cX3_orderCount 18 = .ok (.iload_n 2, 1) := by decide +kernel
theorem dX3_orderCount_19 : decode cX3_orderCount 19 = .ok (.iaload, 1) := by decide +kernel
theorem dX3_orderCount_20 : decode cX3_orderCount 20 = .ok (.sipush 401, 3) := by decide +kernel
theorem dX3_orderCount_23 : decode cX3_orderCount 23 = .ok (.if_icmp .ne 7, 3) := by decide +kernel
theorem dX3_orderCount_26 : decode cX3_orderCount 26 = .ok (.iconst 0, 1) := by decide +kernel
theorem dX3_orderCount_27 : decode cX3_orderCount 27 = .ok (.goto 4, 3) := by decide +kernel
theorem dX3_orderCount_30 : decode cX3_orderCount 30 = .ok (.iconst 1, 1) := by decide +kernel
theorem dX3_orderCount_31 : decode cX3_orderCount 31 = .ok (.iadd, 1) := by decide +kernel
theorem dX3_orderCount_32 : decode cX3_orderCount 32 = .ok (.istore_n 1, 1) := by decide +kernel
theorem dX3_orderCount_33 : decode cX3_orderCount 33 = .ok (.iinc 2 1, 3) := by decide +kernel
theorem dX3_orderCount_36 : decode cX3_orderCount 36 = .ok (.goto (-32), 3) := by decide +kernel
theorem dX3_orderCount_39 : decode cX3_orderCount 39 = .ok (.iload_n 1, 1) := by decide +kernel
theorem dX3_orderCount_40 : decode cX3_orderCount 40 = .ok (.ireturn, 1) := by decide +kernel
def ins_X3_orderCount (pc : Nat) : HOp := cond (Nat.blt pc 18) (cond (Nat.blt pc 6) (cond (Nat.blt pc 3) (cond (Nat.blt pc 1) (cond (Nat.beq pc 0) (o_const (0) 1) o_bad) (cond (Nat.blt pc 2) (cond (Nat.beq pc 1) (o_istore 1 2) o_bad) (cond (Nat.beq pc 2) (o_const (0) 3) o_bad))) (cond (Nat.blt pc 4) (cond (Nat.beq pc 3) (o_istore 2 4) o_bad) (cond (Nat.blt pc 5) (cond (Nat.beq pc 4) (o_iload 2 5) o_bad) (cond (Nat.beq pc 5) (o_aload 0 6) o_bad)))) (cond (Nat.blt pc 13) (cond (Nat.blt pc 9) (cond (Nat.beq pc 6) (o_getf 3 4 9) o_bad) (cond (Nat.blt pc 10) (cond (Nat.beq pc 9) (o_alen 10) o_bad) (cond (Nat.beq pc 10) (o_icmp (fun x y => y ≤ x) 39 13) o_bad))) (cond (Nat.blt pc 14) (cond (Nat.beq pc 13) (o_iload 1 14) o_bad) (cond (Nat.blt pc 15) (cond (Nat.beq pc 14) (o_aload 0 15) o_bad) (cond (Nat.beq pc 15) (o_getf 3 4 18) o_bad))))) (cond (Nat.blt pc 30) (cond (Nat.blt pc 23) (cond (Nat.blt pc 19) (cond (Nat.beq pc 18) (o_iload 2 19) o_bad) (cond (Nat.blt pc 20) (cond (Nat.beq pc 19) (o_iald 20) o_bad) (cond (Nat.beq pc 20) (o_const (401) 23) o_bad))) (cond (Nat.blt pc 26) (cond (Nat.beq pc 23) (o_icmp (fun x y => x = y) 26 30) o_bad) (cond (Nat.blt pc 27) (cond (Nat.beq pc 26) (o_const (0) 27) o_bad) (cond (Nat.beq pc 27) (o_goto 31) o_bad)))) (cond (Nat.blt pc 33) (cond (Nat.blt pc 31) (cond (Nat.beq pc 30) (o_const (1) 31) o_bad) (cond (Nat.blt pc 32) (cond (Nat.beq pc 31) (o_bin (fun x y => x + y) 32) o_bad) (cond (Nat.beq pc 32) (o_istore 1 33) o_bad))) (cond (Nat.blt pc 39) (cond (Nat.blt pc 36) (cond (Nat.beq pc 33) (o_iinc 2 (1) 36) o_bad) (cond (Nat.beq pc 36) (o_goto 4) o_bad)) (cond (Nat.blt pc 40) (cond (Nat.beq pc 39) (o_iload 1 40) o_bad) (cond (Nat.beq pc 40) (o_iret) o_bad)))))
set_option maxRecDepth 20000 in
theorem ok_X3_orderCount : HOKs cX3_orderCount RX3 3 (some .int) 1 ins_X3_orderCount := fun _ => hnd (hnd (hnd (hnd (hlf (ok_iconst dX3_orderCount_0 (by decide) rfl)) (hnd (hlf (ok_istore_n dX3_orderCount_1 rfl (by decide) rfl)) (hlf (ok_iconst dX3_orderCount_2 (by decide) rfl)))) (hnd (hlf (ok_istore_n dX3_orderCount_3 rfl (by decide) rfl)) (hnd (hlf (ok_iload_n dX3_orderCount_4 rfl rfl)) (hlf (ok_aload_n dX3_orderCount_5 rfl rfl))))) (hnd (hnd (hlf (ok_getf (C := RX3) (T := TX3) dX3_orderCount_6 rfl rfl (by decide) rfl inX3 wd_347 rfl)) (hnd (hlf (ok_alen dX3_orderCount_9 rfl)) (hlf (ok_icmp_ge dX3_orderCount_10 (by decide) rfl)))) (hnd (hlf (ok_iload_n dX3_orderCount_13 rfl rfl)) (hnd (hlf (ok_aload_n dX3_orderCount_14 rfl rfl)) (hlf (ok_getf (C := RX3) (T := TX3) dX3_orderCount_15 rfl rfl (by decide) rfl inX3 wd_347 rfl)))))) (hnd (hnd (hnd (hlf (ok_iload_n dX3_orderCount_18 rfl rfl)) (hnd (hlf (ok_iald dX3_orderCount_19 rfl)) (hlf (ok_sipush dX3_orderCount_20 (by decide) rfl)))) (hnd (hlf (ok_icmp_ne dX3_orderCount_23 (by decide) rfl)) (hnd (hlf (ok_iconst dX3_orderCount_26 (by decide) rfl)) (hlf (ok_goto dX3_orderCount_27 (by decide)))))) (hnd (hnd (hlf (ok_iconst dX3_orderCount_30 (by decide) rfl)) (hnd (hlf (ok_iadd dX3_orderCount_31 rfl)) (hlf (ok_istore_n dX3_orderCount_32 rfl (by decide) rfl)))) (hnd (hnd (hlf (ok_iinc dX3_orderCount_33 (by decide) (by decide) rfl)) (hlf (ok_goto dX3_orderCount_36 (by decide)))) (hnd (hlf (ok_iload_n dX3_orderCount_39 rfl rfl)) (hlf (ok_iret dX3_orderCount_40))))))

theorem vc_X3_orderCount : MVC ins_X3_orderCount 3 1 sp_X3_orderCount := by
  refine mvc1 4 60 fun as w σ q hl hs => ?_
  unfold sp_X3_orderCount at hs
  split at hs
  rotate_left
  · exact hs.elim
  rename_i p
  refine ⟨fun N ls st w' σ' => ∃ (i : Nat) (u v : Int32), i ≤ 14 ∧ N = 14 - i ∧ u = nI (cnt (fun v => decide (¬ σ 13 (p + 4) v = 401)) i) ∧ v = nI i ∧ ls = [some (HR 3 p), some (HI u), some (HI v)] ∧ st = [] ∧ w = w' ∧ σ = σ', ?_, ?_⟩
  · rintro N ls st w' σ' ⟨i, u, v, hi, rfl, rfl, rfl, rfl, rfl, rfl, rfl⟩
    apply br2
    · intro h1
      obtain rfl := lp_end (n := 14) rfl hi h1
      exact hs
    · intro h1
      have hlt := lp_go (n := 14) rfl hi h1
      refine And.intro (vp_in_nI (N := 14) hlt (by decide)) ?_
      have e : (nI i).toNatClampNeg = i := nI_clamp (by omega)
      apply br2
      · intro h3
        have h3 : σ 13 (p + 4) (nI i).toNatClampNeg = 401 := h3
        rw [e] at h3
        exact ⟨14 - (i + 1), by omega, i + 1, _, _, hlt, rfl, by rw [cnt_n (decide_eq_false (not_not_intro h3))]; exact Int32.add_zero _, nI_1 i, rfl, rfl, rfl, rfl⟩
      · intro h3
        have h3 : ¬ σ 13 (p + 4) (nI i).toNatClampNeg = 401 := h3
        rw [e] at h3
        exact ⟨14 - (i + 1), by omega, i + 1, _, _, hlt, rfl, by rw [cnt_y (decide_eq_true h3)]; exact nI_1 _, nI_1 i, rfl, rfl, rfl, rfl⟩
  · exact ⟨14, 0, 0, 0, Nat.zero_le _, rfl, rfl, rfl, rfl, rfl, rfl, rfl⟩
theorem ct_X3_orderCount : Ctr yX3_orderCount cX3_orderCount 3 (some .int) 1 0 0 1 sp_X3_orderCount := ctr_of (by decide +kernel) rfl (by decide) ok_X3_orderCount vc_X3_orderCount

/-! VisitHall.People, reads -/
def Pk (w : HW) (σ : HS) (np : Nat) : Prop := np ≤ 10 ∧ σ 2 0 1 = nI np ∧ ∀ j, j < np → w.2 15 j = some j
def sp_X2_prisonerAt : HSp := fun as w σ K => match as with
  | [.inr (.inl (2, some 0)), .inl x] => ∃ np, Pk w σ np ∧ (∀ i, i < np → x = nI i → K (some (HR 3 i)) w σ) ∧ (¬ (0 ≤ x ∧ x < nI np) → K (some (HO 99 none)) w σ)
  | _ => False
theorem dX2_prisonerAt_0 : decode cX2_prisonerAt 0 = .ok (.iload_n 1, 1) := by decide +kernel
theorem dX2_prisonerAt_1 : decode cX2_prisonerAt 1 = .ok (.aload_n 0, 1) := by decide +kernel
theorem dX2_prisonerAt_2 : decode cX2_prisonerAt 2 = .ok (.getfield 27, 3) := by decide +kernel
theorem dX2_prisonerAt_5 : decode cX2_prisonerAt 5 = .ok (.invokestatic 35, 3) := by decide +kernel
theorem dX2_prisonerAt_8 : decode cX2_prisonerAt 8 = .ok (.ifCond .eq 12, 3) := by decide +kernel
theorem dX2_prisonerAt_11 : decode cX2_prisonerAt 11 = .ok (.aload_n 0, 1) := by decide +kernel
theorem dX2_prisonerAt_12 : decode cX2_prisonerAt 12 = .ok (.getfield 13, 3) := by decide +kernel
theorem dX2_prisonerAt_15 : decode cX2_prisonerAt 15 = .ok (.iload_n 1, 1) := by decide +kernel
theorem dX2_prisonerAt_16 : decode cX2_prisonerAt 16 = .ok (.aaload, 1) := by decide +kernel
theorem dX2_prisonerAt_17 : decode cX2_prisonerAt 17 = .ok (.goto 4, 3) := by decide +kernel
theorem dX2_prisonerAt_20 : decode cX2_prisonerAt 20 = .ok (.aconst_null, 1) := by decide +kernel
theorem dX2_prisonerAt_21 : decode cX2_prisonerAt 21 = .ok (.areturn, 1) := by decide +kernel
def ins_X2_prisonerAt (pc : Nat) : HOp := cond (Nat.blt pc 12) (cond (Nat.blt pc 5) (cond (Nat.blt pc 1) (cond (Nat.beq pc 0) (o_iload 1 1) o_bad) (cond (Nat.blt pc 2) (cond (Nat.beq pc 1) (o_aload 0 2) o_bad) (cond (Nat.beq pc 2) (o_getf 2 1 5) o_bad))) (cond (Nat.blt pc 8) (cond (Nat.beq pc 5) (o_callS 2 sp_X10_isBelow 8) o_bad) (cond (Nat.blt pc 11) (cond (Nat.beq pc 8) (o_if (fun x => x = 0) 20 11) o_bad) (cond (Nat.beq pc 11) (o_aload 0 12) o_bad)))) (cond (Nat.blt pc 17) (cond (Nat.blt pc 15) (cond (Nat.beq pc 12) (o_getf 2 0 15) o_bad) (cond (Nat.blt pc 16) (cond (Nat.beq pc 15) (o_iload 1 16) o_bad) (cond (Nat.beq pc 16) (o_aald 17) o_bad))) (cond (Nat.blt pc 20) (cond (Nat.beq pc 17) (o_goto 21) o_bad) (cond (Nat.blt pc 21) (cond (Nat.beq pc 20) (o_null 99 21) o_bad) (cond (Nat.beq pc 21) (o_aret) o_bad))))
set_option maxRecDepth 20000 in
theorem ok_X2_prisonerAt : HOKs cX2_prisonerAt RX2 2 (some (.object "VisitHall$Prisoner")) 2 ins_X2_prisonerAt := fun _ => hnd (hnd (hnd (hlf (ok_iload_n dX2_prisonerAt_0 rfl rfl)) (hnd (hlf (ok_aload_n dX2_prisonerAt_1 rfl rfl)) (hlf (ok_getf (C := RX2) (T := TX2) dX2_prisonerAt_2 rfl rfl (by decide) rfl inX2 wd_79 rfl)))) (hnd (hlf (ok_callSN (y := yX10_isBelow) dX2_prisonerAt_5 ct_X10_isBelow (by decide) (by decide) wd_320 wd_375 wd_319 wd_42 (by decide +kernel) rfl)) (hnd (hlf (ok_if_eq dX2_prisonerAt_8 (by decide) rfl)) (hlf (ok_aload_n dX2_prisonerAt_11 rfl rfl))))) (hnd (hnd (hlf (ok_getf (C := RX2) (T := TX2) dX2_prisonerAt_12 rfl rfl (by decide) rfl inX2 wd_78 rfl)) (hnd (hlf (ok_iload_n dX2_prisonerAt_15 rfl rfl)) (hlf (ok_aald dX2_prisonerAt_16 rfl)))) (hnd (hlf (ok_goto dX2_prisonerAt_17 (by decide))) (hnd (hlf (ok_null dX2_prisonerAt_20 rfl)) (hlf (ok_aret dX2_prisonerAt_21)))))

theorem vc_X2_prisonerAt : MVC ins_X2_prisonerAt 2 2 sp_X2_prisonerAt := by
  refine mvc0 60 fun as w σ q hl hs => ?_
  unfold sp_X2_prisonerAt at hs
  split at hs
  rotate_left
  · exact hs.elim
  rename_i x
  obtain ⟨n, ⟨hn, hsz, hra⟩, h1, h2⟩ := hs
  apply br2
  · intro h
    have h : 0 ≤ x ∧ x < σ 2 0 1 := h
    rw [hsz] at h
    obtain ⟨i, hi, rfl⟩ := in_of h
    refine And.intro (fun h => absurd h (by decide)) (fun _ => ?_)
    refine And.intro (vp_in_nI (N := 10) (by omega) (by decide)) (fun o ho => ?_)
    obtain rfl := ra_at ho (hra i hi)
    exact h1 i hi rfl
  · intro h
    have h : ¬ (0 ≤ x ∧ x < σ 2 0 1) := h
    rw [hsz] at h
    exact And.intro (fun _ => h2 h) (fun h => absurd rfl h)
theorem ct_X2_prisonerAt : Ctr yX2_prisonerAt cX2_prisonerAt 2 (some (.object "VisitHall$Prisoner")) 2 0 0 2 sp_X2_prisonerAt := ctr_of (by decide +kernel) rfl (by decide) ok_X2_prisonerAt vc_X2_prisonerAt

def sp_X2_isVisitor : HSp := fun as w σ K => match as with
  | [.inr (.inl (2, some 0)), .inl x] => spZ (0 ≤ x ∧ x < σ 2 0 4) w σ K
  | _ => False
theorem dX2_isVisitor_0 : decode cX2_isVisitor 0 = .ok (.iload_n 1, 1) := by decide +kernel
theorem dX2_isVisitor_1 : decode cX2_isVisitor 1 = .ok (.aload_n 0, 1) := by decide +kernel
theorem dX2_isVisitor_2 : decode cX2_isVisitor 2 = .ok (.getfield 39, 3) := by decide +kernel
theorem dX2_isVisitor_5 : decode cX2_isVisitor 5 = .ok (.invokestatic 35, 3) := by decide +kernel
theorem dX2_isVisitor_8 : decode cX2_isVisitor 8 = .ok (.ireturn, 1) := by decide +kernel
def ins_X2_isVisitor (pc : Nat) : HOp := cond (Nat.blt pc 2) (cond (Nat.blt pc 1) (cond (Nat.beq pc 0) (o_iload 1 1) o_bad) (cond (Nat.beq pc 1) (o_aload 0 2) o_bad)) (cond (Nat.blt pc 5) (cond (Nat.beq pc 2) (o_getf 2 4 5) o_bad) (cond (Nat.blt pc 8) (cond (Nat.beq pc 5) (o_callS 2 sp_X10_isBelow 8) o_bad) (cond (Nat.beq pc 8) (o_zret) o_bad)))
set_option maxRecDepth 20000 in
theorem ok_X2_isVisitor : HOKs cX2_isVisitor RX2 2 (some .boolean) 2 ins_X2_isVisitor := fun _ => hnd (hnd (hlf (ok_iload_n dX2_isVisitor_0 rfl rfl)) (hlf (ok_aload_n dX2_isVisitor_1 rfl rfl))) (hnd (hlf (ok_getf (C := RX2) (T := TX2) dX2_isVisitor_2 rfl rfl (by decide) rfl inX2 wd_82 rfl)) (hnd (hlf (ok_callSN (y := yX10_isBelow) dX2_isVisitor_5 ct_X10_isBelow (by decide) (by decide) wd_320 wd_375 wd_319 wd_42 (by decide +kernel) rfl)) (hlf (ok_zret dX2_isVisitor_8))))

theorem vc_X2_isVisitor : MVC ins_X2_isVisitor 2 2 sp_X2_isVisitor := by
  refine mvc0 40 fun as w σ q hl hs => ?_
  unfold sp_X2_isVisitor at hs
  split at hs
  rotate_left
  · exact hs.elim
  rename_i x
  exact br2 (fun h => ⟨Or.inr rfl, hs.1 h⟩) (fun h => ⟨Or.inl rfl, hs.2 h⟩)
theorem ct_X2_isVisitor : Ctr yX2_isVisitor cX2_isVisitor 2 (some .boolean) 2 0 0 2 sp_X2_isVisitor := ctr_of (by decide +kernel) rfl (by decide) ok_X2_isVisitor vc_X2_isVisitor

theorem in4 {v : Int32} (h : 0 ≤ v ∧ v < 4) : vp_in v 4 := by
  obtain ⟨i, hi, rfl⟩ := in_of (n := 4) h
  exact vp_in_nI hi (by decide)
def sp_X2_ofKind : HSp := fun as w σ K => match as with
  | [.inr (.inl (2, some 0)), .inl x] => ((0 ≤ x ∧ x < 4) → K (some (HI (σ 13 0 x.toNatClampNeg))) w σ) ∧ (¬ (0 ≤ x ∧ x < 4) → K (some (HI 0)) w σ)
  | _ => False
theorem dX2_ofKind_0 : decode cX2_ofKind 0 = .ok (.iload_n 1, 1) := by decide +kernel
theorem dX2_ofKind_1 : decode cX2_ofKind 1 = .ok (.iconst 4, 1) := by decide +kernel
theorem dX2_ofKind_2 : decode cX2_ofKind 2 = .ok (.invokestatic 35, 3) := by decide +kernel
theorem dX2_ofKind_5 : decode cX2_ofKind 5 = .ok (.ifCond .eq 12, 3) := by decide +kernel
theorem dX2_ofKind_8 : decode cX2_ofKind 8 = .ok (.aload_n 0, 1) := by decide +kernel
theorem dX2_ofKind_9 : decode cX2_ofKind 9 = .ok (.getfield 17, 3) := by decide +kernel
theorem dX2_ofKind_12 : decode cX2_ofKind 12 = .ok (.iload_n 1, 1) := by decide +kernel
theorem dX2_ofKind_13 : decode cX2_ofKind 13 = .ok (.iaload, 1) := by decide +kernel
theorem dX2_ofKind_14 : decode cX2_ofKind 14 = .ok (.goto 4, 3) := by decide +kernel
theorem dX2_ofKind_17 : decode cX2_ofKind 17 = .ok (.iconst 0, 1) := by decide +kernel
theorem dX2_ofKind_18 : decode cX2_ofKind 18 = .ok (.ireturn, 1) := by decide +kernel
def ins_X2_ofKind (pc : Nat) : HOp := cond (Nat.blt pc 9) (cond (Nat.blt pc 2) (cond (Nat.blt pc 1) (cond (Nat.beq pc 0) (o_iload 1 1) o_bad) (cond (Nat.beq pc 1) (o_const (4) 2) o_bad)) (cond (Nat.blt pc 5) (cond (Nat.beq pc 2) (o_callS 2 sp_X10_isBelow 5) o_bad) (cond (Nat.blt pc 8) (cond (Nat.beq pc 5) (o_if (fun x => x = 0) 17 8) o_bad) (cond (Nat.beq pc 8) (o_aload 0 9) o_bad)))) (cond (Nat.blt pc 14) (cond (Nat.blt pc 12) (cond (Nat.beq pc 9) (o_getf 2 2 12) o_bad) (cond (Nat.blt pc 13) (cond (Nat.beq pc 12) (o_iload 1 13) o_bad) (cond (Nat.beq pc 13) (o_iald 14) o_bad))) (cond (Nat.blt pc 17) (cond (Nat.beq pc 14) (o_goto 18) o_bad) (cond (Nat.blt pc 18) (cond (Nat.beq pc 17) (o_const (0) 18) o_bad) (cond (Nat.beq pc 18) (o_iret) o_bad))))
set_option maxRecDepth 20000 in
theorem ok_X2_ofKind : HOKs cX2_ofKind RX2 2 (some .int) 2 ins_X2_ofKind := fun _ => hnd (hnd (hnd (hlf (ok_iload_n dX2_ofKind_0 rfl rfl)) (hlf (ok_iconst dX2_ofKind_1 (by decide) rfl))) (hnd (hlf (ok_callSN (y := yX10_isBelow) dX2_ofKind_2 ct_X10_isBelow (by decide) (by decide) wd_320 wd_375 wd_319 wd_42 (by decide +kernel) rfl)) (hnd (hlf (ok_if_eq dX2_ofKind_5 (by decide) rfl)) (hlf (ok_aload_n dX2_ofKind_8 rfl rfl))))) (hnd (hnd (hlf (ok_getf (C := RX2) (T := TX2) dX2_ofKind_9 rfl rfl (by decide) rfl inX2 wd_80 rfl)) (hnd (hlf (ok_iload_n dX2_ofKind_12 rfl rfl)) (hlf (ok_iald dX2_ofKind_13 rfl)))) (hnd (hlf (ok_goto dX2_ofKind_14 (by decide))) (hnd (hlf (ok_iconst dX2_ofKind_17 (by decide) rfl)) (hlf (ok_iret dX2_ofKind_18)))))

theorem vc_X2_ofKind : MVC ins_X2_ofKind 2 2 sp_X2_ofKind := by
  refine mvc0 60 fun as w σ q hl hs => ?_
  unfold sp_X2_ofKind at hs
  split at hs
  rotate_left
  · exact hs.elim
  rename_i x
  apply br2
  · intro h
    exact And.intro (fun h => absurd h (by decide)) (fun _ => And.intro (in4 h) (hs.1 h))
  · intro h
    exact And.intro (fun _ => hs.2 h) (fun h => absurd rfl h)
theorem ct_X2_ofKind : Ctr yX2_ofKind cX2_ofKind 2 (some .int) 2 0 0 2 sp_X2_ofKind := ctr_of (by decide +kernel) rfl (by decide) ok_X2_ofKind vc_X2_ofKind

abbrev lwC (σ : HS) (s : Int32) : Prop := s &&& (σ 13 0 2 ^^^ (-1)) = 0
def sp_X2_areLawyers : HSp := fun as w σ K => match as with
  | [.inr (.inl (2, some 0)), .inl s] => spZ (lwC σ s) w σ K
  | _ => False
theorem dX2_areLawyers_0 : decode cX2_areLawyers 0 = .ok (.iload_n 1, 1) := by decide +kernel
theorem dX2_areLawyers_1 : decode cX2_areLawyers 1 = .ok (.aload_n 0, 1) := by decide +kernel
theorem dX2_areLawyers_2 : decode cX2_areLawyers 2 = .ok (.getfield 17, 3) := by decide +kernel
theorem dX2_areLawyers_5 : decode cX2_areLawyers 5 = .ok (.iconst 2, 1) := by decide +kernel
theorem dX2_areLawyers_6 : decode cX2_areLawyers 6 = .ok (.iaload, 1) := by decide +kernel
theorem dX2_areLawyers_7 : decode cX2_areLawyers 7 = .ok (.iconst (-1), 1) := by decide +kernel
theorem dX2_areLawyers_8 : decode cX2_areLawyers 8 = .ok (.ixor, 1) := by decide +kernel
theorem dX2_areLawyers_9 : decode cX2_areLawyers 9 = .ok (.iand, 1) := by decide +kernel
theorem dX2_areLawyers_10 : decode cX2_areLawyers 10 = .ok (.ifCond .ne 7, 3) := by decide +kernel
theorem dX2_areLawyers_13 : decode cX2_areLawyers 13 = .ok (.iconst 1, 1) := by decide +kernel
theorem dX2_areLawyers_14 : decode cX2_areLawyers 14 = .ok (.goto 4, 3) := by decide +kernel
theorem dX2_areLawyers_17 : decode cX2_areLawyers 17 = .ok (.iconst 0, 1) := by decide +kernel
theorem dX2_areLawyers_18 : decode cX2_areLawyers 18 = .ok (.ireturn, 1) := by decide +kernel
def ins_X2_areLawyers (pc : Nat) : HOp := cond (Nat.blt pc 8) (cond (Nat.blt pc 5) (cond (Nat.blt pc 1) (cond (Nat.beq pc 0) (o_iload 1 1) o_bad) (cond (Nat.blt pc 2) (cond (Nat.beq pc 1) (o_aload 0 2) o_bad) (cond (Nat.beq pc 2) (o_getf 2 2 5) o_bad))) (cond (Nat.blt pc 6) (cond (Nat.beq pc 5) (o_const (2) 6) o_bad) (cond (Nat.blt pc 7) (cond (Nat.beq pc 6) (o_iald 7) o_bad) (cond (Nat.beq pc 7) (o_const (-1) 8) o_bad)))) (cond (Nat.blt pc 13) (cond (Nat.blt pc 9) (cond (Nat.beq pc 8) (o_bin (fun x y => x ^^^ y) 9) o_bad) (cond (Nat.blt pc 10) (cond (Nat.beq pc 9) (o_bin (fun x y => x &&& y) 10) o_bad) (cond (Nat.beq pc 10) (o_if (fun x => x = 0) 13 17) o_bad))) (cond (Nat.blt pc 17) (cond (Nat.blt pc 14) (cond (Nat.beq pc 13) (o_const (1) 14) o_bad) (cond (Nat.beq pc 14) (o_goto 18) o_bad)) (cond (Nat.blt pc 18) (cond (Nat.beq pc 17) (o_const (0) 18) o_bad) (cond (Nat.beq pc 18) (o_zret) o_bad))))
set_option maxRecDepth 20000 in
theorem ok_X2_areLawyers : HOKs cX2_areLawyers RX2 2 (some .boolean) 1 ins_X2_areLawyers := fun _ => hnd (hnd (hnd (hlf (ok_iload_n dX2_areLawyers_0 rfl rfl)) (hnd (hlf (ok_aload_n dX2_areLawyers_1 rfl rfl)) (hlf (ok_getf (C := RX2) (T := TX2) dX2_areLawyers_2 rfl rfl (by decide) rfl inX2 wd_80 rfl)))) (hnd (hlf (ok_iconst dX2_areLawyers_5 (by decide) rfl)) (hnd (hlf (ok_iald dX2_areLawyers_6 rfl)) (hlf (ok_iconst dX2_areLawyers_7 (by decide) rfl))))) (hnd (hnd (hlf (ok_ixor dX2_areLawyers_8 rfl)) (hnd (hlf (ok_iand dX2_areLawyers_9 rfl)) (hlf (ok_if_ne dX2_areLawyers_10 (by decide) rfl)))) (hnd (hnd (hlf (ok_iconst dX2_areLawyers_13 (by decide) rfl)) (hlf (ok_goto dX2_areLawyers_14 (by decide)))) (hnd (hlf (ok_iconst dX2_areLawyers_17 (by decide) rfl)) (hlf (ok_zret dX2_areLawyers_18)))))

theorem vc_X2_areLawyers : MVC ins_X2_areLawyers 2 2 sp_X2_areLawyers := by
  refine mvc0 60 fun as w σ q hl hs => ?_
  unfold sp_X2_areLawyers at hs
  split at hs
  rotate_left
  · exact hs.elim
  rename_i s
  exact And.intro (vp_in_nI (n := 2) (N := 4) (by decide) (by decide)) (And.intro (fun h => ⟨Or.inr rfl, hs.1 h⟩) (fun h => ⟨Or.inl rfl, hs.2 h⟩))
theorem ct_X2_areLawyers : Ctr yX2_areLawyers cX2_areLawyers 2 (some .boolean) 1 0 0 2 sp_X2_areLawyers := ctr_of (by decide +kernel) rfl (by decide) ok_X2_areLawyers vc_X2_areLawyers

abbrev nkC (σ : HS) (s : Int32) : Prop := ¬ s &&& σ 13 0 3 = 0 ∧ s &&& σ 13 0 1 &&& (σ 13 0 3 ^^^ (-1)) = 0
def sp_X2_needsKin : HSp := fun as w σ K => match as with
  | [.inr (.inl (2, some 0)), .inl s] => spZ (nkC σ s) w σ K
  | _ => False
theorem dX2_needsKin_0 : decode cX2_needsKin 0 = .ok (.iload_n 1, 1) := by decide +kernel
theorem dX2_needsKin_1 : decode cX2_needsKin 1 = .ok (.aload_n 0, 1) := by decide +kernel
theorem dX2_needsKin_2 : decode cX2_needsKin 2 = .ok (.getfield 17, 3) := by decide +kernel
theorem dX2_needsKin_5 : decode cX2_needsKin 5 = .ok (.iconst 3, 1) := by decide +kernel
theorem dX2_needsKin_6 : decode cX2_needsKin 6 = .ok (.iaload, 1) := by decide +kernel
theorem dX2_needsKin_7 : decode cX2_needsKin 7 = .ok (.iand, 1) := by decide +kernel
theorem dX2_needsKin_8 : decode cX2_needsKin 8 = .ok (.ifCond .eq 27, 3) := by decide +kernel
theorem dX2_needsKin_11 : decode cX2_needsKin 11 = .ok (.iload_n 1, 1) := by decide +kernel
theorem dX2_needsKin_12 : decode cX2_needsKin 12 = .ok (.aload_n 0, 1) := by decide +kernel
theorem dX2_needsKin_13 : decode cX2_needsKin 13 = .ok (.getfield 17, 3) := by decide +kernel
theorem dX2_needsKin_16 : decode cX2_needsKin 16 = .ok (.iconst 1, 1) := by decide +kernel
theorem dX2_needsKin_17 : decode cX2_needsKin 17 = .ok (.iaload, 1) := by decide +kernel
theorem dX2_needsKin_18 : decode cX2_needsKin 18 = .ok (.iand, 1) := by decide +kernel
theorem dX2_needsKin_19 : decode cX2_needsKin 19 = .ok (.aload_n 0, 1) := by decide +kernel
theorem dX2_needsKin_20 : decode cX2_needsKin 20 = .ok (.getfield 17, 3) := by decide +kernel
theorem dX2_needsKin_23 : decode cX2_needsKin 23 = .ok (.iconst 3, 1) := by decide +kernel
theorem dX2_needsKin_24 : decode cX2_needsKin 24 = .ok (.iaload, 1) := by decide +kernel
theorem dX2_needsKin_25 : decode cX2_needsKin 25 = .ok (.iconst (-1), 1) := by decide +kernel
theorem dX2_needsKin_26 : decode cX2_needsKin 26 = .ok (.ixor, 1) := by decide +kernel
theorem dX2_needsKin_27 : decode cX2_needsKin 27 = .ok (.iand, 1) := by decide +kernel
theorem dX2_needsKin_28 : decode cX2_needsKin 28 = .ok (.ifCond .ne 7, 3) := by decide +kernel
theorem dX2_needsKin_31 : decode cX2_needsKin 31 = .ok (.iconst 1, 1) := by decide +kernel
theorem dX2_needsKin_32 : decode cX2_needsKin 32 = .ok (.goto 4, 3) := by decide +kernel
theorem dX2_needsKin_35 : decode cX2_needsKin 35 = .ok (.iconst 0, 1) := by decide +kernel
theorem dX2_needsKin_36 : decode cX2_needsKin 36 = .ok (.ireturn, 1) := by decide +kernel
def ins_X2_needsKin (pc : Nat) : HOp := cond (Nat.blt pc 18) (cond (Nat.blt pc 8) (cond (Nat.blt pc 5) (cond (Nat.blt pc 1) (cond (Nat.beq pc 0) (o_iload 1 1) o_bad) (cond (Nat.blt pc 2) (cond (Nat.beq pc 1) (o_aload 0 2) o_bad) (cond (Nat.beq pc 2) (o_getf 2 2 5) o_bad))) (cond (Nat.blt pc 6) (cond (Nat.beq pc 5) (o_const (3) 6) o_bad) (cond (Nat.blt pc 7) (cond (Nat.beq pc 6) (o_iald 7) o_bad) (cond (Nat.beq pc 7) (o_bin (fun x y => x &&& y) 8) o_bad)))) (cond (Nat.blt pc 13) (cond (Nat.blt pc 11) (cond (Nat.beq pc 8) (o_if (fun x => x = 0) 35 11) o_bad) (cond (Nat.blt pc 12) (cond (Nat.beq pc 11) (o_iload 1 12) o_bad) (cond (Nat.beq pc 12) (o_aload 0 13) o_bad))) (cond (Nat.blt pc 16) (cond (Nat.beq pc 13) (o_getf 2 2 16) o_bad) (cond (Nat.blt pc 17) (cond (Nat.beq pc 16) (o_const (1) 17) o_bad) (cond (Nat.beq pc 17) (o_iald 18) o_bad))))) (cond (Nat.blt pc 26) (cond (Nat.blt pc 23) (cond (Nat.blt pc 19) (cond (Nat.beq pc 18) (o_bin (fun x y => x &&& y) 19) o_bad) (cond (Nat.blt pc 20) (cond (Nat.beq pc 19) (o_aload 0 20) o_bad) (cond (Nat.beq pc 20) (o_getf 2 2 23) o_bad))) (cond (Nat.blt pc 24) (cond (Nat.beq pc 23) (o_const (3) 24) o_bad) (cond (Nat.blt pc 25) (cond (Nat.beq pc 24) (o_iald 25) o_bad) (cond (Nat.beq pc 25) (o_const (-1) 26) o_bad)))) (cond (Nat.blt pc 31) (cond (Nat.blt pc 27) (cond (Nat.beq pc 26) (o_bin (fun x y => x ^^^ y) 27) o_bad) (cond (Nat.blt pc 28) (cond (Nat.beq pc 27) (o_bin (fun x y => x &&& y) 28) o_bad) (cond (Nat.beq pc 28) (o_if (fun x => x = 0) 31 35) o_bad))) (cond (Nat.blt pc 35) (cond (Nat.blt pc 32) (cond (Nat.beq pc 31) (o_const (1) 32) o_bad) (cond (Nat.beq pc 32) (o_goto 36) o_bad)) (cond (Nat.blt pc 36) (cond (Nat.beq pc 35) (o_const (0) 36) o_bad) (cond (Nat.beq pc 36) (o_zret) o_bad)))))
set_option maxRecDepth 20000 in
theorem ok_X2_needsKin : HOKs cX2_needsKin RX2 2 (some .boolean) 1 ins_X2_needsKin := fun _ => hnd (hnd (hnd (hnd (hlf (ok_iload_n dX2_needsKin_0 rfl rfl)) (hnd (hlf (ok_aload_n dX2_needsKin_1 rfl rfl)) (hlf (ok_getf (C := RX2) (T := TX2) dX2_needsKin_2 rfl rfl (by decide) rfl inX2 wd_80 rfl)))) (hnd (hlf (ok_iconst dX2_needsKin_5 (by decide) rfl)) (hnd (hlf (ok_iald dX2_needsKin_6 rfl)) (hlf (ok_iand dX2_needsKin_7 rfl))))) (hnd (hnd (hlf (ok_if_eq dX2_needsKin_8 (by decide) rfl)) (hnd (hlf (ok_iload_n dX2_needsKin_11 rfl rfl)) (hlf (ok_aload_n dX2_needsKin_12 rfl rfl)))) (hnd (hlf (ok_getf (C := RX2) (T := TX2) dX2_needsKin_13 rfl rfl (by decide) rfl inX2 wd_80 rfl)) (hnd (hlf (ok_iconst dX2_needsKin_16 (by decide) rfl)) (hlf (ok_iald dX2_needsKin_17 rfl)))))) (hnd (hnd (hnd (hlf (ok_iand dX2_needsKin_18 rfl)) (hnd (hlf (ok_aload_n dX2_needsKin_19 rfl rfl)) (hlf (ok_getf (C := RX2) (T := TX2) dX2_needsKin_20 rfl rfl (by decide) rfl inX2 wd_80 rfl)))) (hnd (hlf (ok_iconst dX2_needsKin_23 (by decide) rfl)) (hnd (hlf (ok_iald dX2_needsKin_24 rfl)) (hlf (ok_iconst dX2_needsKin_25 (by decide) rfl))))) (hnd (hnd (hlf (ok_ixor dX2_needsKin_26 rfl)) (hnd (hlf (ok_iand dX2_needsKin_27 rfl)) (hlf (ok_if_ne dX2_needsKin_28 (by decide) rfl)))) (hnd (hnd (hlf (ok_iconst dX2_needsKin_31 (by decide) rfl)) (hlf (ok_goto dX2_needsKin_32 (by decide)))) (hnd (hlf (ok_iconst dX2_needsKin_35 (by decide) rfl)) (hlf (ok_zret dX2_needsKin_36))))))

theorem vc_X2_needsKin : MVC ins_X2_needsKin 2 2 sp_X2_needsKin := by
  refine mvc0 60 fun as w σ q hl hs => ?_
  unfold sp_X2_needsKin at hs
  split at hs
  rotate_left
  · exact hs.elim
  rename_i s
  have h3 : vp_in (3 : Int32) 4 := vp_in_nI (n := 3) (N := 4) (by decide) (by decide)
  have h1 : vp_in (1 : Int32) 4 := vp_in_nI (n := 1) (N := 4) (by decide) (by decide)
  refine And.intro h3 (And.intro (fun h => ⟨Or.inl rfl, hs.2 (fun q => q.1 h)⟩) (fun h => And.intro h1 (And.intro h3 ?_)))
  exact And.intro (fun h4 => ⟨Or.inr rfl, hs.1 ⟨h, h4⟩⟩) (fun h4 => ⟨Or.inl rfl, hs.2 (fun q => h4 q.2)⟩)
theorem ct_X2_needsKin : Ctr yX2_needsKin cX2_needsKin 2 (some .boolean) 1 0 0 2 sp_X2_needsKin := ctr_of (by decide +kernel) rfl (by decide) ok_X2_needsKin vc_X2_needsKin

abbrev liC (σ : HS) (p : Nat) (s : Int32) : Prop := s &&& (σ 3 p 3 ^^^ (-1)) &&& (σ 13 0 2 ^^^ (-1)) = 0
def sp_X2_areListed : HSp := fun as w σ K => match as with
  | [.inr (.inl (2, some 0)), .inr (.inl (3, some p)), .inl s] => spZ (liC σ p s) w σ K
  | _ => False
theorem dX2_areListed_0 : decode cX2_areListed 0 = .ok (.iload_n 2, 1) := by decide +kernel
theorem dX2_areListed_1 : decode cX2_areListed 1 = .ok (.aload_n 1, 1) := by decide +kernel
theorem dX2_areListed_2 : decode cX2_areListed 2 = .ok (.getfield 48, 3) := by decide +kernel
theorem dX2_areListed_5 : decode cX2_areListed 5 = .ok (.iconst (-1), 1) := by decide +kernel
theorem dX2_areListed_6 : decode cX2_areListed 6 = .ok (.ixor, 1) := by decide +kernel
theorem dX2_areListed_7 : decode cX2_areListed 7 = .ok (.iand, 1) := by decide +kernel
theorem dX2_areListed_8 : decode cX2_areListed 8 = .ok (.aload_n 0, 1) := by decide +kernel
theorem dX2_areListed_9 : decode cX2_areListed 9 = .ok (.getfield 17, 3) := by decide +kernel
theorem dX2_areListed_12 : decode cX2_areListed 12 = .ok (.iconst 2, 1) := by decide +kernel
theorem dX2_areListed_13 : decode cX2_areListed 13 = .ok (.iaload, 1) := by decide +kernel
theorem dX2_areListed_14 : decode cX2_areListed 14 = .ok (.iconst (-1), 1) := by decide +kernel
theorem dX2_areListed_15 : decode cX2_areListed 15 = .ok (.ixor, 1) := by decide +kernel
theorem dX2_areListed_16 : decode cX2_areListed 16 = .ok (.iand, 1) := by decide +kernel
theorem dX2_areListed_17 : decode cX2_areListed 17 = .ok (.ifCond .ne 7, 3) := by decide +kernel
theorem dX2_areListed_20 : decode cX2_areListed 20 = .ok (.iconst 1, 1) := by decide +kernel
theorem dX2_areListed_21 : decode cX2_areListed 21 = .ok (.goto 4, 3) := by decide +kernel
theorem dX2_areListed_24 : decode cX2_areListed 24 = .ok (.iconst 0, 1) := by decide +kernel
theorem dX2_areListed_25 : decode cX2_areListed 25 = .ok (.ireturn, 1) := by decide +kernel
def ins_X2_areListed (pc : Nat) : HOp := cond (Nat.blt pc 13) (cond (Nat.blt pc 6) (cond (Nat.blt pc 2) (cond (Nat.blt pc 1) (cond (Nat.beq pc 0) (o_iload 2 1) o_bad) (cond (Nat.beq pc 1) (o_aload 1 2) o_bad)) (cond (Nat.blt pc 5) (cond (Nat.beq pc 2) (o_getf 3 3 5) o_bad) (cond (Nat.beq pc 5) (o_const (-1) 6) o_bad))) (cond (Nat.blt pc 8) (cond (Nat.blt pc 7) (cond (Nat.beq pc 6) (o_bin (fun x y => x ^^^ y) 7) o_bad) (cond (Nat.beq pc 7) (o_bin (fun x y => x &&& y) 8) o_bad)) (cond (Nat.blt pc 9) (cond (Nat.beq pc 8) (o_aload 0 9) o_bad) (cond (Nat.blt pc 12) (cond (Nat.beq pc 9) (o_getf 2 2 12) o_bad) (cond (Nat.beq pc 12) (o_const (2) 13) o_bad))))) (cond (Nat.blt pc 17) (cond (Nat.blt pc 15) (cond (Nat.blt pc 14) (cond (Nat.beq pc 13) (o_iald 14) o_bad) (cond (Nat.beq pc 14) (o_const (-1) 15) o_bad)) (cond (Nat.blt pc 16) (cond (Nat.beq pc 15) (o_bin (fun x y => x ^^^ y) 16) o_bad) (cond (Nat.beq pc 16) (o_bin (fun x y => x &&& y) 17) o_bad))) (cond (Nat.blt pc 21) (cond (Nat.blt pc 20) (cond (Nat.beq pc 17) (o_if (fun x => x = 0) 20 24) o_bad) (cond (Nat.beq pc 20) (o_const (1) 21) o_bad)) (cond (Nat.blt pc 24) (cond (Nat.beq pc 21) (o_goto 25) o_bad) (cond (Nat.blt pc 25) (cond (Nat.beq pc 24) (o_const (0) 25) o_bad) (cond (Nat.beq pc 25) (o_zret) o_bad)))))
set_option maxRecDepth 20000 in
theorem ok_X2_areListed : HOKs cX2_areListed RX2 3 (some .boolean) 1 ins_X2_areListed := fun _ => hnd (hnd (hnd (hnd (hlf (ok_iload_n dX2_areListed_0 rfl rfl)) (hlf (ok_aload_n dX2_areListed_1 rfl rfl))) (hnd (hlf (ok_getfN (C := RX3) (T := TX3) dX2_areListed_2 rfl rfl (by decide) rfl inX3 wd_346 rfl)) (hlf (ok_iconst dX2_areListed_5 (by decide) rfl)))) (hnd (hnd (hlf (ok_ixor dX2_areListed_6 rfl)) (hlf (ok_iand dX2_areListed_7 rfl))) (hnd (hlf (ok_aload_n dX2_areListed_8 rfl rfl)) (hnd (hlf (ok_getf (C := RX2) (T := TX2) dX2_areListed_9 rfl rfl (by decide) rfl inX2 wd_80 rfl)) (hlf (ok_iconst dX2_areListed_12 (by decide) rfl)))))) (hnd (hnd (hnd (hlf (ok_iald dX2_areListed_13 rfl)) (hlf (ok_iconst dX2_areListed_14 (by decide) rfl))) (hnd (hlf (ok_ixor dX2_areListed_15 rfl)) (hlf (ok_iand dX2_areListed_16 rfl)))) (hnd (hnd (hlf (ok_if_ne dX2_areListed_17 (by decide) rfl)) (hlf (ok_iconst dX2_areListed_20 (by decide) rfl))) (hnd (hlf (ok_goto dX2_areListed_21 (by decide))) (hnd (hlf (ok_iconst dX2_areListed_24 (by decide) rfl)) (hlf (ok_zret dX2_areListed_25))))))

theorem vc_X2_areListed : MVC ins_X2_areListed 3 3 sp_X2_areListed := by
  refine mvc0 60 fun as w σ q hl hs => ?_
  unfold sp_X2_areListed at hs
  split at hs
  rotate_left
  · exact hs.elim
  rename_i p s
  exact And.intro (vp_in_nI (n := 2) (N := 4) (by decide) (by decide)) (And.intro (fun h => ⟨Or.inr rfl, hs.1 h⟩) (fun h => ⟨Or.inl rfl, hs.2 h⟩))
theorem ct_X2_areListed : Ctr yX2_areListed cX2_areListed 3 (some .boolean) 1 0 0 3 sp_X2_areListed := ctr_of (by decide +kernel) rfl (by decide) ok_X2_areListed vc_X2_areListed

def sp_X2_isChild : HSp := fun as w σ K => match as with
  | [.inr (.inl (2, some 0)), .inl v] => spZ (σ 13 0 3 >>> (v &&& 31) &&& 1 = 1) w σ K
  | _ => False
theorem dX2_isChild_0 : decode cX2_isChild 0 = .ok (.aload_n 0, 1) := by decide +kernel
theorem dX2_isChild_1 : decode cX2_isChild 1 = .ok (.getfield 17, 3) := by decide +kernel
theorem dX2_isChild_4 : decode cX2_isChild 4 = .ok (.iconst 3, 1) := by decide +kernel
theorem dX2_isChild_5 : decode cX2_isChild 5 = .ok (.iaload, 1) := by decide +kernel
theorem dX2_isChild_6 : decode cX2_isChild 6 = .ok (.iload_n 1, 1) := by decide +kernel
theorem dX2_isChild_7 : decode cX2_isChild 7 = .ok (.ishr, 1) := by decide +kernel
theorem dX2_isChild_8 : decode cX2_isChild 8 = .ok (.iconst 1, 1) := by decide +kernel
theorem dX2_isChild_9 : decode cX2_isChild 9 = .ok (.iand, 1) := by decide +kernel
theorem dX2_isChild_10 : decode cX2_isChild 10 = .ok (.iconst 1, 1) := by decide +kernel
theorem dX2_isChild_11 : decode cX2_isChild 11 = .ok (.if_icmp .ne 7, 3) := by decide +kernel
theorem dX2_isChild_14 : decode cX2_isChild 14 = .ok (.iconst 1, 1) := by decide +kernel
theorem dX2_isChild_15 : decode cX2_isChild 15 = .ok (.goto 4, 3) := by decide +kernel
theorem dX2_isChild_18 : decode cX2_isChild 18 = .ok (.iconst 0, 1) := by decide +kernel
theorem dX2_isChild_19 : decode cX2_isChild 19 = .ok (.ireturn, 1) := by decide +kernel
def ins_X2_isChild (pc : Nat) : HOp := cond (Nat.blt pc 9) (cond (Nat.blt pc 5) (cond (Nat.blt pc 1) (cond (Nat.beq pc 0) (o_aload 0 1) o_bad) (cond (Nat.blt pc 4) (cond (Nat.beq pc 1) (o_getf 2 2 4) o_bad) (cond (Nat.beq pc 4) (o_const (3) 5) o_bad))) (cond (Nat.blt pc 7) (cond (Nat.blt pc 6) (cond (Nat.beq pc 5) (o_iald 6) o_bad) (cond (Nat.beq pc 6) (o_iload 1 7) o_bad)) (cond (Nat.blt pc 8) (cond (Nat.beq pc 7) (o_bin (fun x y => x >>> (y &&& 31)) 8) o_bad) (cond (Nat.beq pc 8) (o_const (1) 9) o_bad)))) (cond (Nat.blt pc 14) (cond (Nat.blt pc 10) (cond (Nat.beq pc 9) (o_bin (fun x y => x &&& y) 10) o_bad) (cond (Nat.blt pc 11) (cond (Nat.beq pc 10) (o_const (1) 11) o_bad) (cond (Nat.beq pc 11) (o_icmp (fun x y => x = y) 14 18) o_bad))) (cond (Nat.blt pc 18) (cond (Nat.blt pc 15) (cond (Nat.beq pc 14) (o_const (1) 15) o_bad) (cond (Nat.beq pc 15) (o_goto 19) o_bad)) (cond (Nat.blt pc 19) (cond (Nat.beq pc 18) (o_const (0) 19) o_bad) (cond (Nat.beq pc 19) (o_zret) o_bad))))
set_option maxRecDepth 20000 in
theorem ok_X2_isChild : HOKs cX2_isChild RX2 2 (some .boolean) 1 ins_X2_isChild := fun _ => hnd (hnd (hnd (hlf (ok_aload_n dX2_isChild_0 rfl rfl)) (hnd (hlf (ok_getf (C := RX2) (T := TX2) dX2_isChild_1 rfl rfl (by decide) rfl inX2 wd_80 rfl)) (hlf (ok_iconst dX2_isChild_4 (by decide) rfl)))) (hnd (hnd (hlf (ok_iald dX2_isChild_5 rfl)) (hlf (ok_iload_n dX2_isChild_6 rfl rfl))) (hnd (hlf (ok_ishr dX2_isChild_7 rfl)) (hlf (ok_iconst dX2_isChild_8 (by decide) rfl))))) (hnd (hnd (hlf (ok_iand dX2_isChild_9 rfl)) (hnd (hlf (ok_iconst dX2_isChild_10 (by decide) rfl)) (hlf (ok_icmp_ne dX2_isChild_11 (by decide) rfl)))) (hnd (hnd (hlf (ok_iconst dX2_isChild_14 (by decide) rfl)) (hlf (ok_goto dX2_isChild_15 (by decide)))) (hnd (hlf (ok_iconst dX2_isChild_18 (by decide) rfl)) (hlf (ok_zret dX2_isChild_19)))))

theorem vc_X2_isChild : MVC ins_X2_isChild 2 2 sp_X2_isChild := by
  refine mvc0 60 fun as w σ q hl hs => ?_
  unfold sp_X2_isChild at hs
  split at hs
  rotate_left
  · exact hs.elim
  rename_i v
  exact And.intro (vp_in_nI (n := 3) (N := 4) (by decide) (by decide)) (And.intro (fun h => ⟨Or.inr rfl, hs.1 h⟩) (fun h => ⟨Or.inl rfl, hs.2 h⟩))
theorem ct_X2_isChild : Ctr yX2_isChild cX2_isChild 2 (some .boolean) 1 0 0 2 sp_X2_isChild := ctr_of (by decide +kernel) rfl (by decide) ok_X2_isChild vc_X2_isChild

def sp_X2_areRivals : HSp := fun as w σ K => match as with
  | [.inr (.inl (2, some 0)), .inl f, .inl o] => ∃ i, i < 10 ∧ f = nI i ∧ spZ (σ 13 2 i >>> (o &&& 31) &&& 1 = 1) w σ K
  | _ => False
theorem dX2_areRivals_0 : decode cX2_areRivals 0 = .ok (.aload_n 0, 1) := by decide +kernel
theorem dX2_areRivals_1 : decode cX2_areRivals 1 = .ok (.getfield 24, 3) := by decide +kernel
theorem dX2_areRivals_4 : decode cX2_areRivals 4 = .ok (.iload_n 1, 1) := by decide +kernel
theorem dX2_areRivals_5 : decode cX2_areRivals 5 = .ok (.iaload, 1) := by decide +kernel
theorem dX2_areRivals_6 : decode cX2_areRivals 6 = .ok (.iload_n 2, 1) := by decide +kernel
theorem dX2_areRivals_7 : decode cX2_areRivals 7 = .ok (.ishr, 1) := by decide +kernel
theorem dX2_areRivals_8 : decode cX2_areRivals 8 = .ok (.iconst 1, 1) := by decide +kernel
theorem dX2_areRivals_9 : decode cX2_areRivals 9 = .ok (.iand, 1) := by decide +kernel
theorem dX2_areRivals_10 : decode cX2_areRivals 10 = .ok (.iconst 1, 1) := by decide +kernel
theorem dX2_areRivals_11 : decode cX2_areRivals 11 = .ok (.if_icmp .ne 7, 3) := by decide +kernel
theorem dX2_areRivals_14 : decode cX2_areRivals 14 = .ok (.iconst 1, 1) := by decide +kernel
theorem dX2_areRivals_15 : decode cX2_areRivals 15 = .ok (.goto 4, 3) := by decide +kernel
theorem dX2_areRivals_18 : decode cX2_areRivals 18 = .ok (.iconst 0, 1) := by decide +kernel
theorem dX2_areRivals_19 : decode cX2_areRivals 19 = .ok (.ireturn, 1) := by decide +kernel
def ins_X2_areRivals (pc : Nat) : HOp := cond (Nat.blt pc 9) (cond (Nat.blt pc 5) (cond (Nat.blt pc 1) (cond (Nat.beq pc 0) (o_aload 0 1) o_bad) (cond (Nat.blt pc 4) (cond (Nat.beq pc 1) (o_getf 2 5 4) o_bad) (cond (Nat.beq pc 4) (o_iload 1 5) o_bad))) (cond (Nat.blt pc 7) (cond (Nat.blt pc 6) (cond (Nat.beq pc 5) (o_iald 6) o_bad) (cond (Nat.beq pc 6) (o_iload 2 7) o_bad)) (cond (Nat.blt pc 8) (cond (Nat.beq pc 7) (o_bin (fun x y => x >>> (y &&& 31)) 8) o_bad) (cond (Nat.beq pc 8) (o_const (1) 9) o_bad)))) (cond (Nat.blt pc 14) (cond (Nat.blt pc 10) (cond (Nat.beq pc 9) (o_bin (fun x y => x &&& y) 10) o_bad) (cond (Nat.blt pc 11) (cond (Nat.beq pc 10) (o_const (1) 11) o_bad) (cond (Nat.beq pc 11) (o_icmp (fun x y => x = y) 14 18) o_bad))) (cond (Nat.blt pc 18) (cond (Nat.blt pc 15) (cond (Nat.beq pc 14) (o_const (1) 15) o_bad) (cond (Nat.beq pc 15) (o_goto 19) o_bad)) (cond (Nat.blt pc 19) (cond (Nat.beq pc 18) (o_const (0) 19) o_bad) (cond (Nat.beq pc 19) (o_zret) o_bad))))
set_option maxRecDepth 20000 in
theorem ok_X2_areRivals : HOKs cX2_areRivals RX2 3 (some .boolean) 1 ins_X2_areRivals := fun _ => hnd (hnd (hnd (hlf (ok_aload_n dX2_areRivals_0 rfl rfl)) (hnd (hlf (ok_getf (C := RX2) (T := TX2) dX2_areRivals_1 rfl rfl (by decide) rfl inX2 wd_84 rfl)) (hlf (ok_iload_n dX2_areRivals_4 rfl rfl)))) (hnd (hnd (hlf (ok_iald dX2_areRivals_5 rfl)) (hlf (ok_iload_n dX2_areRivals_6 rfl rfl))) (hnd (hlf (ok_ishr dX2_areRivals_7 rfl)) (hlf (ok_iconst dX2_areRivals_8 (by decide) rfl))))) (hnd (hnd (hlf (ok_iand dX2_areRivals_9 rfl)) (hnd (hlf (ok_iconst dX2_areRivals_10 (by decide) rfl)) (hlf (ok_icmp_ne dX2_areRivals_11 (by decide) rfl)))) (hnd (hnd (hlf (ok_iconst dX2_areRivals_14 (by decide) rfl)) (hlf (ok_goto dX2_areRivals_15 (by decide)))) (hnd (hlf (ok_iconst dX2_areRivals_18 (by decide) rfl)) (hlf (ok_zret dX2_areRivals_19)))))

theorem vc_X2_areRivals : MVC ins_X2_areRivals 3 3 sp_X2_areRivals := by
  refine mvc0 60 fun as w σ q hl hs => ?_
  unfold sp_X2_areRivals at hs
  split at hs
  rotate_left
  · exact hs.elim
  rename_i f o
  obtain ⟨i, hi, rfl, hs⟩ := hs
  have e : (nI i).toNatClampNeg = i := nI_clamp (by omega)
  rw [← e] at hs
  exact And.intro (vp_in_nI (N := 10) hi (by decide)) (And.intro (fun h => ⟨Or.inr rfl, hs.1 h⟩) (fun h => ⟨Or.inl rfl, hs.2 h⟩))
theorem ct_X2_areRivals : Ctr yX2_areRivals cX2_areRivals 3 (some .boolean) 1 0 0 3 sp_X2_areRivals := ctr_of (by decide +kernel) rfl (by decide) ok_X2_areRivals vc_X2_areRivals
end
section
/-! Arrays.fill, Integer.bitCount, the rest of People -/
def fiS (σ : HS) (k j n : Nat) (v : Int32) : HS := fun a b c => if a = k ∧ b = j ∧ c < n then v else σ a b c
theorem fiS_0 (σ : HS) (k j : Nat) (v : Int32) : fiS σ k j 0 v = σ := by
  funext a b c
  simp [fiS]
theorem fiS_s (σ : HS) (k j n : Nat) (v : Int32) : up3 (fiS σ k j n v) k j n v = fiS σ k j (n + 1) v := by
  funext a b c
  simp only [fiS, up3]
  grind
theorem al_le (k j : Nat) : al k j ≤ 140 := by
  unfold al
  repeat' split
  all_goals omega
def sp_J7_fill_53178 : HSp := fun as w σ K => match as with
  | [.inr (.inl (13, some j)), .inl v] => K none w (fiS σ 13 j (al 13 j) v)
  | _ => False
theorem dJ7_fill_53178_0 : decode cJ7_fill_53178 0 = .ok (.iconst 0, 1) := by decide +kernel
theorem dJ7_fill_53178_1 : decode cJ7_fill_53178 1 = .ok (.istore_n 2, 1) := by decide +kernel
theorem dJ7_fill_53178_2 : decode cJ7_fill_53178 2 = .ok (.aload_n 0, 1) := by decide +kernel
theorem dJ7_fill_53178_3 : decode cJ7_fill_53178 3 = .ok (.arraylength, 1) := by decide +kernel
theorem dJ7_fill_53178_4 : decode cJ7_fill_53178 4 = .ok (.istore_n 3, 1) := by decide +kernel
theorem dJ7_fill_53178_5 : decode cJ7_fill_53178 5 = .ok (.iload_n 2, 1) := by decide +kernel
theorem dJ7_fill_53178_6 : decode cJ7_fill_53178 6 = .ok (.iload_n 3, 1) := by decide +kernel
theorem dJ7_fill_53178_7 : decode cJ7_fill_53178 7 = .ok (.if_icmp .ge 13, 3) := by decide +kernel
theorem dJ7_fill_53178_10 : decode cJ7_fill_53178 10 = .ok (.aload_n 0, 1) := by decide +kernel
theorem dJ7_fill_53178_11 : decode cJ7_fill_53178 11 = .ok (.iload_n 2, 1) := by decide +kernel
theorem dJ7_fill_53178_12 : decode cJ7_fill_53178 12 = .ok (.iload_n 1, 1) := by decide +kernel
theorem dJ7_fill_53178_13 : decode cJ7_fill_53178 13 = .ok (.iastore, 1) := by decide +kernel
theorem dJ7_fill_53178_14 : decode cJ7_fill_53178 14 = .ok (.iinc 2 1, 3) := by decide +kernel
theorem dJ7_fill_53178_17 : decode cJ7_fill_53178 17 = .ok (.goto (-12), 3) := by decide +kernel
theorem dJ7_fill_53178_20 : decode cJ7_fill_53178 20 = .ok (.return_, 1) := by decide +kernel
def ins_J7_fill_53178 (pc : Nat) : HOp := cond (Nat.blt pc 7) (cond (Nat.blt pc 3) (cond (Nat.blt pc 1) (cond (Nat.beq pc 0) (o_const (0) 1) o_bad) (cond (Nat.blt pc 2) (cond (Nat.beq pc 1) (o_istore 2 2) o_bad) (cond (Nat.beq pc 2) (o_aload 0 3) o_bad))) (cond (Nat.blt pc 5) (cond (Nat.blt pc 4) (cond (Nat.beq pc 3) (o_alen 4) o_bad) (cond (Nat.beq pc 4) (o_istore 3 5) o_bad)) (cond (Nat.blt pc 6) (cond (Nat.beq pc 5) (o_iload 2 6) o_bad) (cond (Nat.beq pc 6) (o_iload 3 7) o_bad)))) (cond (Nat.blt pc 13) (cond (Nat.blt pc 11) (cond (Nat.blt pc 10) (cond (Nat.beq pc 7) (o_icmp (fun x y => y ≤ x) 20 10) o_bad) (cond (Nat.beq pc 10) (o_aload 0 11) o_bad)) (cond (Nat.blt pc 12) (cond (Nat.beq pc 11) (o_iload 2 12) o_bad) (cond (Nat.beq pc 12) (o_iload 1 13) o_bad))) (cond (Nat.blt pc 17) (cond (Nat.blt pc 14) (cond (Nat.beq pc 13) (o_iast 14) o_bad) (cond (Nat.beq pc 14) (o_iinc 2 (1) 17) o_bad)) (cond (Nat.blt pc 20) (cond (Nat.beq pc 17) (o_goto 5) o_bad) (cond (Nat.beq pc 20) (o_vret) o_bad))))
set_option maxRecDepth 20000 in
theorem ok_J7_fill_53178 : HOKs cJ7_fill_53178 RJ7 4 none 1 ins_J7_fill_53178 := fun _ => hnd (hnd (hnd (hlf (ok_iconst dJ7_fill_53178_0 (by decide) rfl)) (hnd (hlf (ok_istore_n dJ7_fill_53178_1 rfl (by decide) rfl)) (hlf (ok_aload_n dJ7_fill_53178_2 rfl rfl)))) (hnd (hnd (hlf (ok_alen dJ7_fill_53178_3 rfl)) (hlf (ok_istore_n dJ7_fill_53178_4 rfl (by decide) rfl))) (hnd (hlf (ok_iload_n dJ7_fill_53178_5 rfl rfl)) (hlf (ok_iload_n dJ7_fill_53178_6 rfl rfl))))) (hnd (hnd (hnd (hlf (ok_icmp_ge dJ7_fill_53178_7 (by decide) rfl)) (hlf (ok_aload_n dJ7_fill_53178_10 rfl rfl))) (hnd (hlf (ok_iload_n dJ7_fill_53178_11 rfl rfl)) (hlf (ok_iload_n dJ7_fill_53178_12 rfl rfl)))) (hnd (hnd (hlf (ok_iast dJ7_fill_53178_13 rfl)) (hlf (ok_iinc dJ7_fill_53178_14 (by decide) (by decide) rfl))) (hnd (hlf (ok_goto dJ7_fill_53178_17 (by decide))) (hlf (ok_vret dJ7_fill_53178_20)))))

theorem vc_J7_fill_53178 : MVC ins_J7_fill_53178 4 2 sp_J7_fill_53178 := by
  refine mvc1 5 60 fun as w σ q hl hs => ?_
  unfold sp_J7_fill_53178 at hs
  split at hs
  rotate_left
  · exact hs.elim
  rename_i j v
  have hle := al_le 13 j
  refine ⟨fun N ls st w' σ' => ∃ (i : Nat) (u : Int32), i ≤ al 13 j ∧ N = al 13 j - i ∧ u = nI i ∧ ls = [some (HR 13 j), some (HI v), some (HI u), some (HI (nI (al 13 j)))] ∧ st = [] ∧ w = w' ∧ σ' = fiS σ 13 j i v, ?_, ?_⟩
  · rintro N ls st w' σ' ⟨i, u, hi, rfl, rfl, rfl, rfl, rfl, rfl⟩
    apply br2
    · intro h1
      rw [← lp_end rfl hi h1] at hs
      exact hs
    · intro h1
      have hlt := lp_go rfl hi h1
      have e : (nI i).toNatClampNeg = i := nI_clamp (by omega)
      refine And.intro (vp_in_nI hlt (by omega)) ?_
      exact ⟨al 13 j - (i + 1), by omega, i + 1, _, hlt, rfl, nI_1 i, rfl, rfl, rfl, by rw [e]; exact fiS_s σ 13 j i v⟩
  · exact ⟨al 13 j, 0, 0, Nat.zero_le _, rfl, rfl, rfl, rfl, rfl, (fiS_0 σ 13 j v).symm⟩
theorem ct_J7_fill_53178 : Ctr yJ7_fill_53178 cJ7_fill_53178 4 none 1 0 0 2 sp_J7_fill_53178 := ctr_of (by decide +kernel) rfl (by decide) ok_J7_fill_53178 vc_J7_fill_53178

def sp_J7_fill_031fb : HSp := fun as w σ K => match as with
  | [.inr (.inl (12, some j)), .inl v] => v = 0 ∧ K none w (fiS σ 12 j 60 0)
  | _ => False
theorem dJ7_fill_031fb_0 : decode cJ7_fill_031fb 0 = .ok (.iconst 0, 1) := by decide +kernel
theorem dJ7_fill_031fb_1 : decode cJ7_fill_031fb 1 = .ok (.istore_n 2, 1) := by decide +kernel
theorem dJ7_fill_031fb_2 : decode cJ7_fill_031fb 2 = .ok (.aload_n 0, 1) := by decide +kernel
theorem dJ7_fill_031fb_3 : decode cJ7_fill_031fb 3 = .ok (.arraylength, 1) := by decide +kernel
theorem dJ7_fill_031fb_4 : decode cJ7_fill_031fb 4 = .ok (.istore_n 3, 1) := by decide +kernel
theorem dJ7_fill_031fb_5 : decode cJ7_fill_031fb 5 = .ok (.iload_n 2, 1) := by decide +kernel
theorem dJ7_fill_031fb_6 : decode cJ7_fill_031fb 6 = .ok (.iload_n 3, 1) := by decide +kernel
theorem dJ7_fill_031fb_7 : decode cJ7_fill_031fb 7 = .ok (.if_icmp .ge 13, 3) := by decide +kernel
theorem dJ7_fill_031fb_10 : decode cJ7_fill_031fb 10 = .ok (.aload_n 0, 1) := by decide +kernel
theorem dJ7_fill_031fb_11 : decode cJ7_fill_031fb 11 = .ok (.iload_n 2, 1) := by decide +kernel
theorem dJ7_fill_031fb_12 : decode cJ7_fill_031fb 12 = .ok (.iload_n 1, 1) := by decide +kernel
theorem dJ7_fill_031fb_13 : decode cJ7_fill_031fb 13 = .ok (.bastore, 1) := by decide +kernel
theorem dJ7_fill_031fb_14 : decode cJ7_fill_031fb 14 = .ok (.iinc 2 1, 3) := by decide +kernel
theorem dJ7_fill_031fb_17 : decode cJ7_fill_031fb 17 = .ok (.goto (-12), 3) := by decide +kernel
theorem dJ7_fill_031fb_20 : decode cJ7_fill_031fb 20 = .ok (.return_, 1) := by decide +kernel
def ins_J7_fill_031fb (pc : Nat) : HOp := cond (Nat.blt pc 7) (cond (Nat.blt pc 3) (cond (Nat.blt pc 1) (cond (Nat.beq pc 0) (o_const (0) 1) o_bad) (cond (Nat.blt pc 2) (cond (Nat.beq pc 1) (o_istore 2 2) o_bad) (cond (Nat.beq pc 2) (o_aload 0 3) o_bad))) (cond (Nat.blt pc 5) (cond (Nat.blt pc 4) (cond (Nat.beq pc 3) (o_alen 4) o_bad) (cond (Nat.beq pc 4) (o_istore 3 5) o_bad)) (cond (Nat.blt pc 6) (cond (Nat.beq pc 5) (o_iload 2 6) o_bad) (cond (Nat.beq pc 6) (o_iload 3 7) o_bad)))) (cond (Nat.blt pc 13) (cond (Nat.blt pc 11) (cond (Nat.blt pc 10) (cond (Nat.beq pc 7) (o_icmp (fun x y => y ≤ x) 20 10) o_bad) (cond (Nat.beq pc 10) (o_aload 0 11) o_bad)) (cond (Nat.blt pc 12) (cond (Nat.beq pc 11) (o_iload 2 12) o_bad) (cond (Nat.beq pc 12) (o_iload 1 13) o_bad))) (cond (Nat.blt pc 17) (cond (Nat.blt pc 14) (cond (Nat.beq pc 13) (o_bast 14) o_bad) (cond (Nat.beq pc 14) (o_iinc 2 (1) 17) o_bad)) (cond (Nat.blt pc 20) (cond (Nat.beq pc 17) (o_goto 5) o_bad) (cond (Nat.beq pc 20) (o_vret) o_bad))))
set_option maxRecDepth 20000 in
theorem ok_J7_fill_031fb : HOKs cJ7_fill_031fb RJ7 4 none 1 ins_J7_fill_031fb := fun _ => hnd (hnd (hnd (hlf (ok_iconst dJ7_fill_031fb_0 (by decide) rfl)) (hnd (hlf (ok_istore_n dJ7_fill_031fb_1 rfl (by decide) rfl)) (hlf (ok_aload_n dJ7_fill_031fb_2 rfl rfl)))) (hnd (hnd (hlf (ok_alen dJ7_fill_031fb_3 rfl)) (hlf (ok_istore_n dJ7_fill_031fb_4 rfl (by decide) rfl))) (hnd (hlf (ok_iload_n dJ7_fill_031fb_5 rfl rfl)) (hlf (ok_iload_n dJ7_fill_031fb_6 rfl rfl))))) (hnd (hnd (hnd (hlf (ok_icmp_ge dJ7_fill_031fb_7 (by decide) rfl)) (hlf (ok_aload_n dJ7_fill_031fb_10 rfl rfl))) (hnd (hlf (ok_iload_n dJ7_fill_031fb_11 rfl rfl)) (hlf (ok_iload_n dJ7_fill_031fb_12 rfl rfl)))) (hnd (hnd (hlf (ok_bast dJ7_fill_031fb_13 rfl)) (hlf (ok_iinc dJ7_fill_031fb_14 (by decide) (by decide) rfl))) (hnd (hlf (ok_goto dJ7_fill_031fb_17 (by decide))) (hlf (ok_vret dJ7_fill_031fb_20)))))

theorem vc_J7_fill_031fb : MVC ins_J7_fill_031fb 4 2 sp_J7_fill_031fb := by
  refine mvc1 5 60 fun as w σ q hl hs => ?_
  unfold sp_J7_fill_031fb at hs
  split at hs
  rotate_left
  · exact hs.elim
  rename_i j v
  obtain ⟨rfl, hs⟩ := hs
  refine ⟨fun N ls st w' σ' => ∃ (i : Nat) (u : Int32), i ≤ 60 ∧ N = 60 - i ∧ u = nI i ∧ ls = [some (HR 12 j), some (HI 0), some (HI u), some (HI 60)] ∧ st = [] ∧ w = w' ∧ σ' = fiS σ 12 j i 0, ?_, ?_⟩
  · rintro N ls st w' σ' ⟨i, u, hi, rfl, rfl, rfl, rfl, rfl, rfl⟩
    apply br2
    · intro h1
      rw [← lp_end (n := 60) rfl hi h1] at hs
      exact hs
    · intro h1
      have hlt := lp_go (n := 60) rfl hi h1
      have e : (nI i).toNatClampNeg = i := nI_clamp (by omega)
      refine And.intro (vp_in_nI (N := 60) hlt (by omega)) ?_
      exact ⟨60 - (i + 1), by omega, i + 1, _, hlt, rfl, nI_1 i, rfl, rfl, rfl, by rw [e]; exact fiS_s σ 12 j i 0⟩
  · exact ⟨60, 0, 0, Nat.zero_le _, rfl, rfl, rfl, rfl, rfl, (fiS_0 σ 12 j 0).symm⟩
theorem ct_J7_fill_031fb : Ctr yJ7_fill_031fb cJ7_fill_031fb 4 none 1 0 0 2 sp_J7_fill_031fb := ctr_of (by decide +kernel) rfl (by decide) ok_J7_fill_031fb vc_J7_fill_031fb

def ushr (x : Int32) (y : Int32) : Int32 := (x.toUInt32 >>> (y.toUInt32 &&& Int32.toUInt32 31)).toInt32
def pc1 (x : Int32) : Int32 := x - (ushr x 1 &&& 1431655765)
def pc2 (x : Int32) : Int32 := (x &&& 858993459) + (ushr x 2 &&& 858993459)
def pc3 (x : Int32) : Int32 := x + ushr x 4 &&& 252645135
def pc4 (x : Int32) : Int32 := x + ushr x 8
def pc5 (x : Int32) : Int32 := x + ushr x 16
def popc (x : Int32) : Int32 := pc5 (pc4 (pc3 (pc2 (pc1 x)))) &&& 63
def sp_J6_bitCount_0f7a4 : HSp := fun as w σ K => match as with
  | [.inl x] => K (some (HI (popc x))) w σ
  | _ => False
theorem dJ6_bitCount_0f7a4_0 : decode cJ6_bitCount_0f7a4 0 = .ok (.iload_n 0, 1) := by decide +kernel
theorem dJ6_bitCount_0f7a4_1 : decode cJ6_bitCount_0f7a4 1 = .ok (.iload_n 0, 1) := by decide +kernel
theorem dJ6_bitCount_0f7a4_2 : decode cJ6_bitCount_0f7a4 2 = .ok (.iconst 1, 1) := by decide +kernel
theorem dJ6_bitCount_0f7a4_3 : decode cJ6_bitCount_0f7a4 3 = .ok (.iushr, 1) := by decide +kernel
theorem dJ6_bitCount_0f7a4_4 : decode cJ6_bitCount_0f7a4 4 = .ok (.ldc_w 265, 3) := by decide +kernel
theorem dJ6_bitCount_0f7a4_7 : decode cJ6_bitCount_0f7a4 7 = .ok (.iand, 1) := by decide +kernel
theorem dJ6_bitCount_0f7a4_8 : decode cJ6_bitCount_0f7a4 8 = .ok (.isub, 1) := by decide +kernel
theorem dJ6_bitCount_0f7a4_9 : decode cJ6_bitCount_0f7a4 9 = .ok (.istore_n 0, 1) := by decide +kernel
theorem dJ6_bitCount_0f7a4_10 : decode cJ6_bitCount_0f7a4 10 = .ok (.iload_n 0, 1) := by decide +kernel
theorem dJ6_bitCount_0f7a4_11 : decode cJ6_bitCount_0f7a4 11 = .ok (.ldc_w 266, 3) := by decide +kernel
theorem dJ6_bitCount_0f7a4_14 : decode cJ6_bitCount_0f7a4 14 = .ok (.iand, 1) := by decide +kernel
theorem dJ6_bitCount_0f7a4_15 : decode cJ6_bitCount_0f7a4 15 = .ok (.iload_n 0, 1) := by decide +kernel
theorem dJ6_bitCount_0f7a4_16 : decode cJ6_bitCount_0f7a4 16 = .ok (.iconst 2, 1) := by decide +kernel
theorem dJ6_bitCount_0f7a4_17 : decode cJ6_bitCount_0f7a4 17 = .ok (.iushr, 1) := by decide +kernel
theorem dJ6_bitCount_0f7a4_18 : decode cJ6_bitCount_0f7a4 18 = .ok (.ldc_w 266, 3) := by decide +kernel
theorem dJ6_bitCount_0f7a4_21 : decode cJ6_bitCount_0f7a4 21 = .ok (.iand, 1) := by decide +kernel
theorem dJ6_bitCount_0f7a4_22 : decode cJ6_bitCount_0f7a4 22 = .ok (.iadd, 1) := by decide +kernel
theorem dJ6_bitCount_0f7a4_23 : decode cJ6_bitCount_0f7a4 23 = .ok (.istore_n 0, 1) := by decide +kernel
theorem dJ6_bitCount_0f7a4_24 : decode cJ6_bitCount_0f7a4 24 = .ok (.iload_n 0, 1) := by decide +kernel
theorem dJ6_bitCount_0f7a4_25 : decode cJ6_bitCount_0f7a4 25 = .ok (.iload_n 0, 1) := by decide +kernel
theorem dJ6_bitCount_0f7a4_26 : decode cJ6_bitCount_0f7a4 26 = .ok (.iconst 4, 1) := by decide +kernel
theorem dJ6_bitCount_0f7a4_27 : decode cJ6_bitCount_0f7a4 27 = .ok (.iushr, 1) := by decide +kernel
theorem dJ6_bitCount_0f7a4_28 : decode cJ6_bitCount_0f7a4 28 = .ok (.iadd, 1) := by decide +kernel
theorem dJ6_bitCount_0f7a4_29 : decode cJ6_bitCount_0f7a4 29 = .ok (.ldc_w 267, 3) := by decide +kernel
theorem dJ6_bitCount_0f7a4_32 : decode cJ6_bitCount_0f7a4 32 = .ok (.iand, 1) := by decide +kernel
theorem dJ6_bitCount_0f7a4_33 : decode cJ6_bitCount_0f7a4 33 = .ok (.istore_n 0, 1) := by decide +kernel
theorem dJ6_bitCount_0f7a4_34 : decode cJ6_bitCount_0f7a4 34 = .ok (.iload_n 0, 1) := by decide +kernel
theorem dJ6_bitCount_0f7a4_35 : decode cJ6_bitCount_0f7a4 35 = .ok (.iload_n 0, 1) := by decide +kernel
theorem dJ6_bitCount_0f7a4_36 : decode cJ6_bitCount_0f7a4 36 = .ok (.bipush 8, 2) := by decide +kernel
theorem dJ6_bitCount_0f7a4_38 : decode cJ6_bitCount_0f7a4 38 = .ok (.iushr, 1) := by decide +kernel
theorem dJ6_bitCount_0f7a4_39 : decode cJ6_bitCount_0f7a4 39 = .ok (.iadd, 1) := by decide +kernel
theorem dJ6_bitCount_0f7a4_40 : decode cJ6_bitCount_0f7a4 40 = .ok (.istore_n 0, 1) := by decide +kernel
theorem dJ6_bitCount_0f7a4_41 : decode cJ6_bitCount_0f7a4 41 = .ok (.iload_n 0, 1) := by decide +kernel
theorem dJ6_bitCount_0f7a4_42 : decode cJ6_bitCount_0f7a4 42 = .ok (.iload_n 0, 1) := by decide +kernel
theorem dJ6_bitCount_0f7a4_43 : decode cJ6_bitCount_0f7a4 43 = .ok (.bipush 16, 2) := by decide +kernel
theorem dJ6_bitCount_0f7a4_45 : decode cJ6_bitCount_0f7a4 45 = .ok (.iushr, 1) := by decide +kernel
theorem dJ6_bitCount_0f7a4_46 : decode cJ6_bitCount_0f7a4 46 = .ok (.iadd, 1) := by decide +kernel
theorem dJ6_bitCount_0f7a4_47 : decode cJ6_bitCount_0f7a4 47 = .ok (.istore_n 0, 1) := by decide +kernel
theorem dJ6_bitCount_0f7a4_48 : decode cJ6_bitCount_0f7a4 48 = .ok (.iload_n 0, 1) := by decide +kernel
theorem dJ6_bitCount_0f7a4_49 : decode cJ6_bitCount_0f7a4 49 = .ok (.bipush 63, 2) := by decide +kernel
theorem dJ6_bitCount_0f7a4_51 : decode cJ6_bitCount_0f7a4 51 = .ok (.iand, 1) := by decide +kernel
theorem dJ6_bitCount_0f7a4_52 : decode cJ6_bitCount_0f7a4 52 = .ok (.ireturn, 1) := by decide +kernel
def ins_J6_bitCount_0f7a4 (pc : Nat) : HOp := cond (Nat.blt pc 27) (cond (Nat.blt pc 14) (cond (Nat.blt pc 7) (cond (Nat.blt pc 2) (cond (Nat.blt pc 1) (cond (Nat.beq pc 0) (o_iload 0 1) o_bad) (cond (Nat.beq pc 1) (o_iload 0 2) o_bad)) (cond (Nat.blt pc 3) (cond (Nat.beq pc 2) (o_const (1) 3) o_bad) (cond (Nat.blt pc 4) (cond (Nat.beq pc 3) (o_bin (fun x y => (x.toUInt32 >>> (y.toUInt32 &&& Int32.toUInt32 31)).toInt32) 4) o_bad) (cond (Nat.beq pc 4) (o_const (1431655765) 7) o_bad)))) (cond (Nat.blt pc 9) (cond (Nat.blt pc 8) (cond (Nat.beq pc 7) (o_bin (fun x y => x &&& y) 8) o_bad) (cond (Nat.beq pc 8) (o_bin (fun x y => x - y) 9) o_bad)) (cond (Nat.blt pc 10) (cond (Nat.beq pc 9) (o_istore 0 10) o_bad) (cond (Nat.blt pc 11) (cond (Nat.beq pc 10) (o_iload 0 11) o_bad) (cond (Nat.beq pc 11) (o_const (858993459) 14) o_bad))))) (cond (Nat.blt pc 21) (cond (Nat.blt pc 16) (cond (Nat.blt pc 15) (cond (Nat.beq pc 14) (o_bin (fun x y => x &&& y) 15) o_bad) (cond (Nat.beq pc 15) (o_iload 0 16) o_bad)) (cond (Nat.blt pc 17) (cond (Nat.beq pc 16) (o_const (2) 17) o_bad) (cond (Nat.blt pc 18) (cond (Nat.beq pc 17) (o_bin (fun x y => (x.toUInt32 >>> (y.toUInt32 &&& Int32.toUInt32 31)).toInt32) 18) o_bad) (cond (Nat.beq pc 18) (o_const (858993459) 21) o_bad)))) (cond (Nat.blt pc 24) (cond (Nat.blt pc 22) (cond (Nat.beq pc 21) (o_bin (fun x y => x &&& y) 22) o_bad) (cond (Nat.blt pc 23) (cond (Nat.beq pc 22) (o_bin (fun x y => x + y) 23) o_bad) (cond (Nat.beq pc 23) (o_istore 0 24) o_bad))) (cond (Nat.blt pc 25) (cond (Nat.beq pc 24) (o_iload 0 25) o_bad) (cond (Nat.blt pc 26) (cond (Nat.beq pc 25) (o_iload 0 26) o_bad) (cond (Nat.beq pc 26) (o_const (4) 27) o_bad)))))) (cond (Nat.blt pc 40) (cond (Nat.blt pc 34) (cond (Nat.blt pc 29) (cond (Nat.blt pc 28) (cond (Nat.beq pc 27) (o_bin (fun x y => (x.toUInt32 >>> (y.toUInt32 &&& Int32.toUInt32 31)).toInt32) 28) o_bad) (cond (Nat.beq pc 28) (o_bin (fun x y => x + y) 29) o_bad)) (cond (Nat.blt pc 32) (cond (Nat.beq pc 29) (o_const (252645135) 32) o_bad) (cond (Nat.blt pc 33) (cond (Nat.beq pc 32) (o_bin (fun x y => x &&& y) 33) o_bad) (cond (Nat.beq pc 33) (o_istore 0 34) o_bad)))) (cond (Nat.blt pc 36) (cond (Nat.blt pc 35) (cond (Nat.beq pc 34) (o_iload 0 35) o_bad) (cond (Nat.beq pc 35) (o_iload 0 36) o_bad)) (cond (Nat.blt pc 38) (cond (Nat.beq pc 36) (o_const (8) 38) o_bad) (cond (Nat.blt pc 39) (cond (Nat.beq pc 38) (o_bin (fun x y => (x.toUInt32 >>> (y.toUInt32 &&& Int32.toUInt32 31)).toInt32) 39) o_bad) (cond (Nat.beq pc 39) (o_bin (fun x y => x + y) 40) o_bad))))) (cond (Nat.blt pc 46) (cond (Nat.blt pc 42) (cond (Nat.blt pc 41) (cond (Nat.beq pc 40) (o_istore 0 41) o_bad) (cond (Nat.beq pc 41) (o_iload 0 42) o_bad)) (cond (Nat.blt pc 43) (cond (Nat.beq pc 42) (o_iload 0 43) o_bad) (cond (Nat.blt pc 45) (cond (Nat.beq pc 43) (o_const (16) 45) o_bad) (cond (Nat.beq pc 45) (o_bin (fun x y => (x.toUInt32 >>> (y.toUInt32 &&& Int32.toUInt32 31)).toInt32) 46) o_bad)))) (cond (Nat.blt pc 49) (cond (Nat.blt pc 47) (cond (Nat.beq pc 46) (o_bin (fun x y => x + y) 47) o_bad) (cond (Nat.blt pc 48) (cond (Nat.beq pc 47) (o_istore 0 48) o_bad) (cond (Nat.beq pc 48) (o_iload 0 49) o_bad))) (cond (Nat.blt pc 51) (cond (Nat.beq pc 49) (o_const (63) 51) o_bad) (cond (Nat.blt pc 52) (cond (Nat.beq pc 51) (o_bin (fun x y => x &&& y) 52) o_bad) (cond (Nat.beq pc 52) (o_iret) o_bad))))))
set_option maxRecDepth 20000 in
theorem ok_J6_bitCount_0f7a4 : HOKs cJ6_bitCount_0f7a4 RJ6 1 (some .int) 1 ins_J6_bitCount_0f7a4 := fun _ => hnd (hnd (hnd (hnd (hnd (hlf (ok_iload_n dJ6_bitCount_0f7a4_0 rfl rfl)) (hlf (ok_iload_n dJ6_bitCount_0f7a4_1 rfl rfl))) (hnd (hlf (ok_iconst dJ6_bitCount_0f7a4_2 (by decide) rfl)) (hnd (hlf (ok_iushr dJ6_bitCount_0f7a4_3 rfl)) (hlf (ok_ldcw dJ6_bitCount_0f7a4_4 wd_738 rfl))))) (hnd (hnd (hlf (ok_iand dJ6_bitCount_0f7a4_7 rfl)) (hlf (ok_isub dJ6_bitCount_0f7a4_8 rfl))) (hnd (hlf (ok_istore_n dJ6_bitCount_0f7a4_9 rfl (by decide) rfl)) (hnd (hlf (ok_iload_n dJ6_bitCount_0f7a4_10 rfl rfl)) (hlf (ok_ldcw dJ6_bitCount_0f7a4_11 wd_739 rfl)))))) (hnd (hnd (hnd (hlf (ok_iand dJ6_bitCount_0f7a4_14 rfl)) (hlf (ok_iload_n dJ6_bitCount_0f7a4_15 rfl rfl))) (hnd (hlf (ok_iconst dJ6_bitCount_0f7a4_16 (by decide) rfl)) (hnd (hlf (ok_iushr dJ6_bitCount_0f7a4_17 rfl)) (hlf (ok_ldcw dJ6_bitCount_0f7a4_18 wd_739 rfl))))) (hnd (hnd (hlf (ok_iand dJ6_bitCount_0f7a4_21 rfl)) (hnd (hlf (ok_iadd dJ6_bitCount_0f7a4_22 rfl)) (hlf (ok_istore_n dJ6_bitCount_0f7a4_23 rfl (by decide) rfl)))) (hnd (hlf (ok_iload_n dJ6_bitCount_0f7a4_24 rfl rfl)) (hnd (hlf (ok_iload_n dJ6_bitCount_0f7a4_25 rfl rfl)) (hlf (ok_iconst dJ6_bitCount_0f7a4_26 (by decide) rfl))))))) (hnd (hnd (hnd (hnd (hlf (ok_iushr dJ6_bitCount_0f7a4_27 rfl)) (hlf (ok_iadd dJ6_bitCount_0f7a4_28 rfl))) (hnd (hlf (ok_ldcw dJ6_bitCount_0f7a4_29 wd_740 rfl)) (hnd (hlf (ok_iand dJ6_bitCount_0f7a4_32 rfl)) (hlf (ok_istore_n dJ6_bitCount_0f7a4_33 rfl (by decide) rfl))))) (hnd (hnd (hlf (ok_iload_n dJ6_bitCount_0f7a4_34 rfl rfl)) (hlf (ok_iload_n dJ6_bitCount_0f7a4_35 rfl rfl))) (hnd (hlf (ok_bipush dJ6_bitCount_0f7a4_36 (by decide) rfl)) (hnd (hlf (ok_iushr dJ6_bitCount_0f7a4_38 rfl)) (hlf (ok_iadd dJ6_bitCount_0f7a4_39 rfl)))))) (hnd (hnd (hnd (hlf (ok_istore_n dJ6_bitCount_0f7a4_40 rfl (by decide) rfl)) (hlf (ok_iload_n dJ6_bitCount_0f7a4_41 rfl rfl))) (hnd (hlf (ok_iload_n dJ6_bitCount_0f7a4_42 rfl rfl)) (hnd (hlf (ok_bipush dJ6_bitCount_0f7a4_43 (by decide) rfl)) (hlf (ok_iushr dJ6_bitCount_0f7a4_45 rfl))))) (hnd (hnd (hlf (ok_iadd dJ6_bitCount_0f7a4_46 rfl)) (hnd (hlf (ok_istore_n dJ6_bitCount_0f7a4_47 rfl (by decide) rfl)) (hlf (ok_iload_n dJ6_bitCount_0f7a4_48 rfl rfl)))) (hnd (hlf (ok_bipush dJ6_bitCount_0f7a4_49 (by decide) rfl)) (hnd (hlf (ok_iand dJ6_bitCount_0f7a4_51 rfl)) (hlf (ok_iret dJ6_bitCount_0f7a4_52)))))))

set_option maxRecDepth 100000 in
theorem vc_J6_bitCount_0f7a4 : MVC ins_J6_bitCount_0f7a4 1 1 sp_J6_bitCount_0f7a4 := by
  refine mvc0 80 fun as w σ q hl hs => ?_
  unfold sp_J6_bitCount_0f7a4 at hs
  split at hs
  rotate_left
  · exact hs.elim
  rename_i x
  exact hs
theorem ct_J6_bitCount_0f7a4 : Ctr yJ6_bitCount_0f7a4 cJ6_bitCount_0f7a4 1 (some .int) 1 0 0 1 sp_J6_bitCount_0f7a4 := ctr_of (by decide +kernel) rfl (by decide) ok_J6_bitCount_0f7a4 vc_J6_bitCount_0f7a4

def sp_X2_comesFrom : HSp := fun as w σ K => match as with
  | [.inr (.inl (2, some 0)), .inl s, .inl y] => ∃ nv, nv ≤ 14 ∧ σ 2 0 4 = nI nv ∧ spZ (∃ v, v < nv ∧ bt1 s v ∧ ¬ σ 13 1 v < y) w σ K
  | _ => False
theorem dX2_comesFrom_0 : decode cX2_comesFrom 0 = .ok (.iconst 0, 1) := by decide +kernel
theorem dX2_comesFrom_1 : decode cX2_comesFrom 1 = .ok (.istore_n 3, 1) := by decide +kernel
theorem dX2_comesFrom_2 : decode cX2_comesFrom 2 = .ok (.iload_n 3, 1) := by decide +kernel
theorem dX2_comesFrom_3 : decode cX2_comesFrom 3 = .ok (.aload_n 0, 1) := by decide +kernel
theorem dX2_comesFrom_4 : decode cX2_comesFrom 4 = .ok (.getfield 39, 3) := by decide +kernel
theorem dX2_comesFrom_7 : decode cX2_comesFrom 7 = .ok (.if_icmp .ge 30, 3) := by decide +kernel
theorem dX2_comesFrom_10 : decode cX2_comesFrom 10 = .ok (.iload_n 1, 1) := by decide +kernel
theorem dX2_comesFrom_11 : decode cX2_comesFrom 11 = .ok (.iload_n 3, 1) := by decide +kernel
theorem dX2_comesFrom_12 : decode cX2_comesFrom 12 = .ok (.ishr, 1) := by decide +kernel
theorem dX2_comesFrom_13 : decode cX2_comesFrom 13 = .ok (.iconst 1, 1) := by decide +kernel
theorem dX2_comesFrom_14 : decode cX2_comesFrom 14 = .ok (.iand, 1) := by decide +kernel
theorem dX2_comesFrom_15 : decode cX2_comesFrom 15 = .ok (.iconst 1, 1) := by decide +kernel
theorem dX2_comesFrom_16 : decode cX2_comesFrom 16 = .ok (.if_icmp .ne 15, 3) := by decide +kernel
theorem dX2_comesFrom_19 : decode cX2_comesFrom 19 = .ok (.aload_n 0, 1) := by decide +kernel
theorem dX2_comesFrom_20 : decode cX2_comesFrom 20 = .ok (.getfield 21, 3) := by decide +kernel
theorem dX2_comesFrom_23 : decode cX2_comesFrom 23 = .ok (.iload_n 3, 1) := by decide +kernel
theorem dX2_comesFrom_24 : decode cX2_comesFrom 24 = .ok (.iaload, 1) := by decide +kernel
theorem dX2_comesFrom_25 : decode cX2_comesFrom 25 = .ok (.iload_n 2, 1) := by decide +kernel
theorem dX2_comesFrom_26 : decode cX2_comesFrom 26 = .ok (.if_icmp .lt 5, 3) := by decide +kernel
theorem dX2_comesFrom_29 : decode cX2_comesFrom 29 = .ok (.iconst 1, 1) := by decide +kernel
theorem dX2_comesFrom_30 : decode cX2_comesFrom 30 = .ok (.ireturn, 1) := by decide +kernel
theorem dX2_comesFrom_31 : decode cX2_comesFrom 31 = .ok (.iinc 3 1, 3) := by decide +kernel
theorem dX2_comesFrom_34 : decode cX2_comesFrom 34 = .ok (.goto (-32), 3) := by decide +kernel
theorem dX2_comesFrom_37 : decode cX2_comesFrom 37 = .ok (.iconst 0, 1) := by decide +kernel
theorem dX2_comesFrom_38 : decode cX2_comesFrom 38 = .ok (.ireturn, 1) := by decide +kernel
def ins_X2_comesFrom (pc : Nat) : HOp := cond (Nat.blt pc 16) (cond (Nat.blt pc 10) (cond (Nat.blt pc 3) (cond (Nat.blt pc 1) (cond (Nat.beq pc 0) (o_const (0) 1) o_bad) (cond (Nat.blt pc 2) (cond (Nat.beq pc 1) (o_istore 3 2) o_bad) (cond (Nat.beq pc 2) (o_iload 3 3) o_bad))) (cond (Nat.blt pc 4) (cond (Nat.beq pc 3) (o_aload 0 4) o_bad) (cond (Nat.blt pc 7) (cond (Nat.beq pc 4) (o_getf 2 4 7) o_bad) (cond (Nat.beq pc 7) (o_icmp (fun x y => y ≤ x) 37 10) o_bad)))) (cond (Nat.blt pc 13) (cond (Nat.blt pc 11) (cond (Nat.beq pc 10) (o_iload 1 11) o_bad) (cond (Nat.blt pc 12) (cond (Nat.beq pc 11) (o_iload 3 12) o_bad) (cond (Nat.beq pc 12) (o_bin (fun x y => x >>> (y &&& 31)) 13) o_bad))) (cond (Nat.blt pc 14) (cond (Nat.beq pc 13) (o_const (1) 14) o_bad) (cond (Nat.blt pc 15) (cond (Nat.beq pc 14) (o_bin (fun x y => x &&& y) 15) o_bad) (cond (Nat.beq pc 15) (o_const (1) 16) o_bad))))) (cond (Nat.blt pc 26) (cond (Nat.blt pc 23) (cond (Nat.blt pc 19) (cond (Nat.beq pc 16) (o_icmp (fun x y => x = y) 19 31) o_bad) (cond (Nat.blt pc 20) (cond (Nat.beq pc 19) (o_aload 0 20) o_bad) (cond (Nat.beq pc 20) (o_getf 2 3 23) o_bad))) (cond (Nat.blt pc 24) (cond (Nat.beq pc 23) (o_iload 3 24) o_bad) (cond (Nat.blt pc 25) (cond (Nat.beq pc 24) (o_iald 25) o_bad) (cond (Nat.beq pc 25) (o_iload 2 26) o_bad)))) (cond (Nat.blt pc 31) (cond (Nat.blt pc 29) (cond (Nat.beq pc 26) (o_icmp (fun x y => x < y) 31 29) o_bad) (cond (Nat.blt pc 30) (cond (Nat.beq pc 29) (o_const (1) 30) o_bad) (cond (Nat.beq pc 30) (o_zret) o_bad))) (cond (Nat.blt pc 37) (cond (Nat.blt pc 34) (cond (Nat.beq pc 31) (o_iinc 3 (1) 34) o_bad) (cond (Nat.beq pc 34) (o_goto 2) o_bad)) (cond (Nat.blt pc 38) (cond (Nat.beq pc 37) (o_const (0) 38) o_bad) (cond (Nat.beq pc 38) (o_zret) o_bad)))))
set_option maxRecDepth 20000 in
theorem ok_X2_comesFrom : HOKs cX2_comesFrom RX2 4 (some .boolean) 1 ins_X2_comesFrom := fun _ => hnd (hnd (hnd (hnd (hlf (ok_iconst dX2_comesFrom_0 (by decide) rfl)) (hnd (hlf (ok_istore_n dX2_comesFrom_1 rfl (by decide) rfl)) (hlf (ok_iload_n dX2_comesFrom_2 rfl rfl)))) (hnd (hlf (ok_aload_n dX2_comesFrom_3 rfl rfl)) (hnd (hlf (ok_getf (C := RX2) (T := TX2) dX2_comesFrom_4 rfl rfl (by decide) rfl inX2 wd_82 rfl)) (hlf (ok_icmp_ge dX2_comesFrom_7 (by decide) rfl))))) (hnd (hnd (hlf (ok_iload_n dX2_comesFrom_10 rfl rfl)) (hnd (hlf (ok_iload_n dX2_comesFrom_11 rfl rfl)) (hlf (ok_ishr dX2_comesFrom_12 rfl)))) (hnd (hlf (ok_iconst dX2_comesFrom_13 (by decide) rfl)) (hnd (hlf (ok_iand dX2_comesFrom_14 rfl)) (hlf (ok_iconst dX2_comesFrom_15 (by decide) rfl)))))) (hnd (hnd (hnd (hlf (ok_icmp_ne dX2_comesFrom_16 (by decide) rfl)) (hnd (hlf (ok_aload_n dX2_comesFrom_19 rfl rfl)) (hlf (ok_getf (C := RX2) (T := TX2) dX2_comesFrom_20 rfl rfl (by decide) rfl inX2 wd_81 rfl)))) (hnd (hlf (ok_iload_n dX2_comesFrom_23 rfl rfl)) (hnd (hlf (ok_iald dX2_comesFrom_24 rfl)) (hlf (ok_iload_n dX2_comesFrom_25 rfl rfl))))) (hnd (hnd (hlf (ok_icmp_lt dX2_comesFrom_26 (by decide) rfl)) (hnd (hlf (ok_iconst dX2_comesFrom_29 (by decide) rfl)) (hlf (ok_zret dX2_comesFrom_30)))) (hnd (hnd (hlf (ok_iinc dX2_comesFrom_31 (by decide) (by decide) rfl)) (hlf (ok_goto dX2_comesFrom_34 (by decide)))) (hnd (hlf (ok_iconst dX2_comesFrom_37 (by decide) rfl)) (hlf (ok_zret dX2_comesFrom_38))))))

theorem vc_X2_comesFrom : MVC ins_X2_comesFrom 4 3 sp_X2_comesFrom := by
  refine mvc1 2 60 fun as w σ q hl hs => ?_
  unfold sp_X2_comesFrom at hs
  split at hs
  rotate_left
  · exact hs.elim
  rename_i s y
  obtain ⟨n, hn, hsz, hs⟩ := hs
  refine ⟨fun N ls st w' σ' => ∃ (i : Nat) (u : Int32), i ≤ n ∧ N = n - i ∧ u = nI i ∧ (∀ j, j < i → ¬ (bt1 s j ∧ ¬ σ 13 1 j < y)) ∧ ls = [some (HR 2 0), some (HI s), some (HI y), some (HI u)] ∧ st = [] ∧ w = w' ∧ σ = σ', ?_, ?_⟩
  · rintro N ls st w' σ' ⟨i, u, hi, rfl, rfl, hno, rfl, rfl, rfl, rfl⟩
    apply br2
    · intro h1
      obtain rfl := lp_end hsz hi h1
      exact ⟨Or.inl rfl, hs.2 fun ⟨j, h1, h2⟩ => hno j h1 h2⟩
    · intro h1
      have hlt := lp_go hsz hi h1
      have no : ¬ (bt1 s i ∧ ¬ σ 13 1 i < y) → ∃ N', N' < n - i ∧ ∃ (i' : Nat) (u : Int32), i' ≤ n ∧ N' = n - i' ∧ u = nI i' ∧ (∀ j, j < i' → ¬ (bt1 s j ∧ ¬ σ 13 1 j < y)) ∧ [some (HR 2 0), some (HI s), some (HI y), some (HI (nI i + 1))] = [some (HR 2 0), some (HI s), some (HI y), some (HI u)] ∧ ([] : List HV) = [] ∧ w = w ∧ σ = σ := fun h =>
        ⟨n - (i + 1), by omega, i + 1, _, hlt, rfl, nI_1 i, fun j hj => (Nat.lt_succ_iff_lt_or_eq.mp hj).elim (hno j) (fun e => e ▸ h), rfl, rfl, rfl, rfl⟩
      apply br2
      rotate_left
      · intro h2
        exact no fun h => h2 h.1
      intro h2
      refine And.intro (vp_in_nI (N := 14) (by omega) (by decide)) ?_
      have e : (nI i).toNatClampNeg = i := nI_clamp (by omega)
      apply br2
      · intro h3
        exact no fun h => h.2 (by have h3 : σ 13 1 (nI i).toNatClampNeg < y := h3; rwa [e] at h3)
      · intro h3
        exact ⟨Or.inr rfl, hs.1 ⟨i, hlt, h2, by have h3 : ¬ σ 13 1 (nI i).toNatClampNeg < y := h3; rwa [e] at h3⟩⟩
  · exact ⟨n, 0, 0, Nat.zero_le _, rfl, rfl, fun j hj => absurd hj (by omega), rfl, rfl, rfl, rfl⟩
theorem ct_X2_comesFrom : Ctr yX2_comesFrom cX2_comesFrom 4 (some .boolean) 1 0 0 3 sp_X2_comesFrom := ctr_of (by decide +kernel) rfl (by decide) ok_X2_comesFrom vc_X2_comesFrom

def srS (σ : HS) (f o : Nat) (on : Int32) : HS := up3 (up3 σ 13 2 f (wB (σ 13 2 f) (nI o) on)) 13 2 o (wB (up3 σ 13 2 f (wB (σ 13 2 f) (nI o) on) 13 2 o) (nI f) on)
def sp_X2_setRivals : HSp := fun as w σ K => match as with
  | [.inr (.inl (2, some 0)), .inl f, .inl o, .inl on] => ∃ i j, i < 10 ∧ j < 10 ∧ f = nI i ∧ o = nI j ∧ K none w (srS σ i j on)
  | _ => False
theorem dX2_setRivals_0 : decode cX2_setRivals 0 = .ok (.aload_n 0, 1) := by decide +kernel
theorem dX2_setRivals_1 : decode cX2_setRivals 1 = .ok (.getfield 24, 3) := by decide +kernel
theorem dX2_setRivals_4 : decode cX2_setRivals 4 = .ok (.iload_n 1, 1) := by decide +kernel
theorem dX2_setRivals_5 : decode cX2_setRivals 5 = .ok (.aload_n 0, 1) := by decide +kernel
theorem dX2_setRivals_6 : decode cX2_setRivals 6 = .ok (.getfield 24, 3) := by decide +kernel
theorem dX2_setRivals_9 : decode cX2_setRivals 9 = .ok (.iload_n 1, 1) := by decide +kernel
theorem dX2_setRivals_10 : decode cX2_setRivals 10 = .ok (.iaload, 1) := by decide +kernel
theorem dX2_setRivals_11 : decode cX2_setRivals 11 = .ok (.iload_n 2, 1) := by decide +kernel
theorem dX2_setRivals_12 : decode cX2_setRivals 12 = .ok (.iload_n 3, 1) := by decide +kernel
theorem dX2_setRivals_13 : decode cX2_setRivals 13 = .ok (.invokestatic 51, 3) := by decide +kernel
theorem dX2_setRivals_16 : decode cX2_setRivals 16 = .ok (.iastore, 1) := by decide +kernel
theorem dX2_setRivals_17 : decode cX2_setRivals 17 = .ok (.aload_n 0, 1) := by decide +kernel
theorem dX2_setRivals_18 : decode cX2_setRivals 18 = .ok (.getfield 24, 3) := by decide +kernel
theorem dX2_setRivals_21 : decode cX2_setRivals 21 = .ok (.iload_n 2, 1) := by decide +kernel
theorem dX2_setRivals_22 : decode cX2_setRivals 22 = .ok (.aload_n 0, 1) := by decide +kernel
theorem dX2_setRivals_23 : decode cX2_setRivals 23 = .ok (.getfield 24, 3) := by decide +kernel
theorem dX2_setRivals_26 : decode cX2_setRivals 26 = .ok (.iload_n 2, 1) := by decide +kernel
theorem dX2_setRivals_27 : decode cX2_setRivals 27 = .ok (.iaload, 1) := by decide +kernel
theorem dX2_setRivals_28 : decode cX2_setRivals 28 = .ok (.iload_n 1, 1) := by decide +kernel
theorem dX2_setRivals_29 : decode cX2_setRivals 29 = .ok (.iload_n 3, 1) := by decide +kernel
theorem dX2_setRivals_30 : decode cX2_setRivals 30 = .ok (.invokestatic 51, 3) := by decide +kernel
theorem dX2_setRivals_33 : decode cX2_setRivals 33 = .ok (.iastore, 1) := by decide +kernel
theorem dX2_setRivals_34 : decode cX2_setRivals 34 = .ok (.return_, 1) := by decide +kernel
def ins_X2_setRivals (pc : Nat) : HOp := cond (Nat.blt pc 17) (cond (Nat.blt pc 9) (cond (Nat.blt pc 4) (cond (Nat.blt pc 1) (cond (Nat.beq pc 0) (o_aload 0 1) o_bad) (cond (Nat.beq pc 1) (o_getf 2 5 4) o_bad)) (cond (Nat.blt pc 5) (cond (Nat.beq pc 4) (o_iload 1 5) o_bad) (cond (Nat.blt pc 6) (cond (Nat.beq pc 5) (o_aload 0 6) o_bad) (cond (Nat.beq pc 6) (o_getf 2 5 9) o_bad)))) (cond (Nat.blt pc 12) (cond (Nat.blt pc 10) (cond (Nat.beq pc 9) (o_iload 1 10) o_bad) (cond (Nat.blt pc 11) (cond (Nat.beq pc 10) (o_iald 11) o_bad) (cond (Nat.beq pc 11) (o_iload 2 12) o_bad))) (cond (Nat.blt pc 13) (cond (Nat.beq pc 12) (o_iload 3 13) o_bad) (cond (Nat.blt pc 16) (cond (Nat.beq pc 13) (o_callS 3 sp_X10_withBit 16) o_bad) (cond (Nat.beq pc 16) (o_iast 17) o_bad))))) (cond (Nat.blt pc 27) (cond (Nat.blt pc 22) (cond (Nat.blt pc 18) (cond (Nat.beq pc 17) (o_aload 0 18) o_bad) (cond (Nat.blt pc 21) (cond (Nat.beq pc 18) (o_getf 2 5 21) o_bad) (cond (Nat.beq pc 21) (o_iload 2 22) o_bad))) (cond (Nat.blt pc 23) (cond (Nat.beq pc 22) (o_aload 0 23) o_bad) (cond (Nat.blt pc 26) (cond (Nat.beq pc 23) (o_getf 2 5 26) o_bad) (cond (Nat.beq pc 26) (o_iload 2 27) o_bad)))) (cond (Nat.blt pc 30) (cond (Nat.blt pc 28) (cond (Nat.beq pc 27) (o_iald 28) o_bad) (cond (Nat.blt pc 29) (cond (Nat.beq pc 28) (o_iload 1 29) o_bad) (cond (Nat.beq pc 29) (o_iload 3 30) o_bad))) (cond (Nat.blt pc 33) (cond (Nat.beq pc 30) (o_callS 3 sp_X10_withBit 33) o_bad) (cond (Nat.blt pc 34) (cond (Nat.beq pc 33) (o_iast 34) o_bad) (cond (Nat.beq pc 34) (o_vret) o_bad)))))
set_option maxRecDepth 20000 in
theorem ok_X2_setRivals : HOKs cX2_setRivals RX2 4 none 2 ins_X2_setRivals := fun _ => hnd (hnd (hnd (hnd (hlf (ok_aload_n dX2_setRivals_0 rfl rfl)) (hlf (ok_getf (C := RX2) (T := TX2) dX2_setRivals_1 rfl rfl (by decide) rfl inX2 wd_84 rfl))) (hnd (hlf (ok_iload_n dX2_setRivals_4 rfl rfl)) (hnd (hlf (ok_aload_n dX2_setRivals_5 rfl rfl)) (hlf (ok_getf (C := RX2) (T := TX2) dX2_setRivals_6 rfl rfl (by decide) rfl inX2 wd_84 rfl))))) (hnd (hnd (hlf (ok_iload_n dX2_setRivals_9 rfl rfl)) (hnd (hlf (ok_iald dX2_setRivals_10 rfl)) (hlf (ok_iload_n dX2_setRivals_11 rfl rfl)))) (hnd (hlf (ok_iload_n dX2_setRivals_12 rfl rfl)) (hnd (hlf (ok_callSN (y := yX10_withBit) dX2_setRivals_13 ct_X10_withBit (by decide) (by decide) wd_390 wd_543 wd_389 wd_42 (by decide +kernel) rfl)) (hlf (ok_iast dX2_setRivals_16 rfl)))))) (hnd (hnd (hnd (hlf (ok_aload_n dX2_setRivals_17 rfl rfl)) (hnd (hlf (ok_getf (C := RX2) (T := TX2) dX2_setRivals_18 rfl rfl (by decide) rfl inX2 wd_84 rfl)) (hlf (ok_iload_n dX2_setRivals_21 rfl rfl)))) (hnd (hlf (ok_aload_n dX2_setRivals_22 rfl rfl)) (hnd (hlf (ok_getf (C := RX2) (T := TX2) dX2_setRivals_23 rfl rfl (by decide) rfl inX2 wd_84 rfl)) (hlf (ok_iload_n dX2_setRivals_26 rfl rfl))))) (hnd (hnd (hlf (ok_iald dX2_setRivals_27 rfl)) (hnd (hlf (ok_iload_n dX2_setRivals_28 rfl rfl)) (hlf (ok_iload_n dX2_setRivals_29 rfl rfl)))) (hnd (hlf (ok_callSN (y := yX10_withBit) dX2_setRivals_30 ct_X10_withBit (by decide) (by decide) wd_390 wd_543 wd_389 wd_42 (by decide +kernel) rfl)) (hnd (hlf (ok_iast dX2_setRivals_33 rfl)) (hlf (ok_vret dX2_setRivals_34))))))

theorem vc_X2_setRivals : MVC ins_X2_setRivals 4 4 sp_X2_setRivals := by
  refine mvc0 60 fun as w σ q hl hs => ?_
  unfold sp_X2_setRivals at hs
  split at hs
  rotate_left
  · exact hs.elim
  rename_i f o on
  obtain ⟨i, j, hi, hj, rfl, rfl, hs⟩ := hs
  have e1 : (nI i).toNatClampNeg = i := nI_clamp (by omega)
  have e2 : (nI j).toNatClampNeg = j := nI_clamp (by omega)
  have h1 : vp_in (nI i) 10 := vp_in_nI hi (by decide)
  have h2 : vp_in (nI j) 10 := vp_in_nI hj (by decide)
  refine And.intro h1 (And.intro h1 (And.intro h2 (And.intro h2 ?_)))
  rw [e1, e2]
  exact hs
theorem ct_X2_setRivals : Ctr yX2_setRivals cX2_setRivals 4 none 2 0 0 4 sp_X2_setRivals := ctr_of (by decide +kernel) rfl (by decide) ok_X2_setRivals vc_X2_setRivals

def sp_X2_prisonersHere : HSp := fun as w σ K => match as with
  | [.inr (.inl (2, some 0))] => ∃ np, Pk w σ np ∧ K (some (HI (nI (cnt (fun i => decide (¬ σ 3 i 2 = 0)) np)))) w σ
  | _ => False
theorem dX2_prisonersHere_0 : decode cX2_prisonersHere 0 = .ok (.iconst 0, 1) := by decide +kernel
theorem dX2_prisonersHere_1 : decode cX2_prisonersHere 1 = .ok (.istore_n 1, 1) := by decide +kernel
theorem dX2_prisonersHere_2 : decode cX2_prisonersHere 2 = .ok (.iconst 0, 1) := by decide +kernel
theorem dX2_prisonersHere_3 : decode cX2_prisonersHere 3 = .ok (.istore_n 2, 1) := by decide +kernel
theorem dX2_prisonersHere_4 : decode cX2_prisonersHere 4 = .ok (.iload_n 2, 1) := by decide +kernel
theorem dX2_prisonersHere_5 : decode cX2_prisonersHere 5 = .ok (.aload_n 0, 1) := by decide +kernel
theorem dX2_prisonersHere_6 : decode cX2_prisonersHere 6 = .ok (.getfield 27, 3) := by decide +kernel
theorem dX2_prisonersHere_9 : decode cX2_prisonersHere 9 = .ok (.if_icmp .ge 29, 3) := by decide +kernel
theorem dX2_prisonersHere_12 : decode cX2_prisonersHere 12 = .ok (.iload_n 1, 1) := by decide +kernel
theorem dX2_prisonersHere_13 : decode cX2_prisonersHere 13 = .ok (.aload_n 0, 1) := by decide +kernel
theorem dX2_prisonersHere_14 : decode cX2_prisonersHere 14 = .ok (.getfield 13, 3) := by decide +kernel
theorem dX2_prisonersHere_17 : decode cX2_prisonersHere 17 = .ok (.iload_n 2, 1) := by decide +kernel
theorem dX2_prisonersHere_18 : decode cX2_prisonersHere 18 = .ok (.aaload, 1) := by decide +kernel
theorem dX2_prisonersHere_19 : decode cX2_prisonersHere 19 = .ok (.getfield 55, 3) := by decide +kernel
theorem dX2_prisonersHere_22 : decode cX2_prisonersHere 22 = .ok (.ifCond .eq 7, 3) := by decide +kernel
theorem dX2_prisonersHere_25 : decode cX2_prisonersHere 25 = .ok (.iconst 1, 1) := by decide +kernel
theorem dX2_prisonersHere_26 : decode cX2_prisonersHere 26 = .ok (.goto 4, 3) := by decide +kernel
theorem dX2_prisonersHere_29 : decode cX2_prisonersHere 29 = .ok (.iconst 0, 1) := by decide +kernel
theorem dX2_prisonersHere_30 : decode cX2_prisonersHere 30 = .ok (.iadd, 1) := by decide +kernel
theorem dX2_prisonersHere_31 : decode cX2_prisonersHere 31 = .ok (.istore_n 1, 1) := by decide +kernel
theorem dX2_prisonersHere_32 : decode cX2_prisonersHere 32 = .ok (.iinc 2 1, 3) := by decide +kernel
theorem dX2_prisonersHere_35 : decode cX2_prisonersHere 35 = .ok (.goto (-31), 3) := by decide +kernel
theorem dX2_prisonersHere_38 : decode cX2_prisonersHere 38 = .ok (.iload_n 1, 1) := by decide +kernel
theorem dX2_prisonersHere_39 : decode cX2_prisonersHere 39 = .ok (.ireturn, 1) := by decide +kernel
def ins_X2_prisonersHere (pc : Nat) : HOp := cond (Nat.blt pc 18) (cond (Nat.blt pc 6) (cond (Nat.blt pc 3) (cond (Nat.blt pc 1) (cond (Nat.beq pc 0) (o_const (0) 1) o_bad) (cond (Nat.blt pc 2) (cond (Nat.beq pc 1) (o_istore 1 2) o_bad) (cond (Nat.beq pc 2) (o_const (0) 3) o_bad))) (cond (Nat.blt pc 4) (cond (Nat.beq pc 3) (o_istore 2 4) o_bad) (cond (Nat.blt pc 5) (cond (Nat.beq pc 4) (o_iload 2 5) o_bad) (cond (Nat.beq pc 5) (o_aload 0 6) o_bad)))) (cond (Nat.blt pc 13) (cond (Nat.blt pc 9) (cond (Nat.beq pc 6) (o_getf 2 1 9) o_bad) (cond (Nat.blt pc 12) (cond (Nat.beq pc 9) (o_icmp (fun x y => y ≤ x) 38 12) o_bad) (cond (Nat.beq pc 12) (o_iload 1 13) o_bad))) (cond (Nat.blt pc 14) (cond (Nat.beq pc 13) (o_aload 0 14) o_bad) (cond (Nat.blt pc 17) (cond (Nat.beq pc 14) (o_getf 2 0 17) o_bad) (cond (Nat.beq pc 17) (o_iload 2 18) o_bad))))) (cond (Nat.blt pc 30) (cond (Nat.blt pc 25) (cond (Nat.blt pc 19) (cond (Nat.beq pc 18) (o_aald 19) o_bad) (cond (Nat.blt pc 22) (cond (Nat.beq pc 19) (o_getf 3 2 22) o_bad) (cond (Nat.beq pc 22) (o_if (fun x => x = 0) 29 25) o_bad))) (cond (Nat.blt pc 26) (cond (Nat.beq pc 25) (o_const (1) 26) o_bad) (cond (Nat.blt pc 29) (cond (Nat.beq pc 26) (o_goto 30) o_bad) (cond (Nat.beq pc 29) (o_const (0) 30) o_bad)))) (cond (Nat.blt pc 35) (cond (Nat.blt pc 31) (cond (Nat.beq pc 30) (o_bin (fun x y => x + y) 31) o_bad) (cond (Nat.blt pc 32) (cond (Nat.beq pc 31) (o_istore 1 32) o_bad) (cond (Nat.beq pc 32) (o_iinc 2 (1) 35) o_bad))) (cond (Nat.blt pc 38) (cond (Nat.beq pc 35) (o_goto 4) o_bad) (cond (Nat.blt pc 39) (cond (Nat.beq pc 38) (o_iload 1 39) o_bad) (cond (Nat.beq pc 39) (o_iret) o_bad)))))
set_option maxRecDepth 20000 in
theorem ok_X2_prisonersHere : HOKs cX2_prisonersHere RX2 3 (some .int) 1 ins_X2_prisonersHere := fun _ => hnd (hnd (hnd (hnd (hlf (ok_iconst dX2_prisonersHere_0 (by decide) rfl)) (hnd (hlf (ok_istore_n dX2_prisonersHere_1 rfl (by decide) rfl)) (hlf (ok_iconst dX2_prisonersHere_2 (by decide) rfl)))) (hnd (hlf (ok_istore_n dX2_prisonersHere_3 rfl (by decide) rfl)) (hnd (hlf (ok_iload_n dX2_prisonersHere_4 rfl rfl)) (hlf (ok_aload_n dX2_prisonersHere_5 rfl rfl))))) (hnd (hnd (hlf (ok_getf (C := RX2) (T := TX2) dX2_prisonersHere_6 rfl rfl (by decide) rfl inX2 wd_79 rfl)) (hnd (hlf (ok_icmp_ge dX2_prisonersHere_9 (by decide) rfl)) (hlf (ok_iload_n dX2_prisonersHere_12 rfl rfl)))) (hnd (hlf (ok_aload_n dX2_prisonersHere_13 rfl rfl)) (hnd (hlf (ok_getf (C := RX2) (T := TX2) dX2_prisonersHere_14 rfl rfl (by decide) rfl inX2 wd_78 rfl)) (hlf (ok_iload_n dX2_prisonersHere_17 rfl rfl)))))) (hnd (hnd (hnd (hlf (ok_aald dX2_prisonersHere_18 rfl)) (hnd (hlf (ok_getfN (C := RX3) (T := TX3) dX2_prisonersHere_19 rfl rfl (by decide) rfl inX3 wd_344 rfl)) (hlf (ok_if_eq dX2_prisonersHere_22 (by decide) rfl)))) (hnd (hlf (ok_iconst dX2_prisonersHere_25 (by decide) rfl)) (hnd (hlf (ok_goto dX2_prisonersHere_26 (by decide))) (hlf (ok_iconst dX2_prisonersHere_29 (by decide) rfl))))) (hnd (hnd (hlf (ok_iadd dX2_prisonersHere_30 rfl)) (hnd (hlf (ok_istore_n dX2_prisonersHere_31 rfl (by decide) rfl)) (hlf (ok_iinc dX2_prisonersHere_32 (by decide) (by decide) rfl)))) (hnd (hlf (ok_goto dX2_prisonersHere_35 (by decide))) (hnd (hlf (ok_iload_n dX2_prisonersHere_38 rfl rfl)) (hlf (ok_iret dX2_prisonersHere_39))))))

theorem vc_X2_prisonersHere : MVC ins_X2_prisonersHere 3 1 sp_X2_prisonersHere := by
  refine mvc1 4 60 fun as w σ q hl hs => ?_
  unfold sp_X2_prisonersHere at hs
  split at hs
  rotate_left
  · exact hs.elim
  obtain ⟨n, ⟨hn, hsz, hra⟩, hq⟩ := hs
  refine ⟨fun N ls st w' σ' => ∃ (i : Nat) (u v : Int32), i ≤ n ∧ N = n - i ∧ u = nI (cnt (fun i => decide (¬ σ 3 i 2 = 0)) i) ∧ v = nI i ∧ ls = [some (HR 2 0), some (HI u), some (HI v)] ∧ st = [] ∧ w = w' ∧ σ = σ', ?_, ?_⟩
  · rintro N ls st w' σ' ⟨i, u, v, hi, rfl, rfl, rfl, rfl, rfl, rfl, rfl⟩
    apply br2
    · intro h1
      obtain rfl := lp_end hsz hi h1
      exact hq
    · intro h1
      have hlt := lp_go hsz hi h1
      refine And.intro (vp_in_nI (N := 10) (by omega) (by decide)) (fun o ho => ?_)
      obtain rfl := ra_at ho (hra i hlt)
      apply br2
      · intro h2
        exact ⟨n - (i + 1), by omega, i + 1, _, _, hlt, rfl, by rw [cnt_n (decide_eq_false (not_not_intro h2))]; exact Int32.add_zero _, nI_1 i, rfl, rfl, rfl, rfl⟩
      · intro h2
        exact ⟨n - (i + 1), by omega, i + 1, _, _, hlt, rfl, by rw [cnt_y (decide_eq_true h2)]; exact nI_1 _, nI_1 i, rfl, rfl, rfl, rfl⟩
  · exact ⟨n, 0, 0, 0, Nat.zero_le _, rfl, rfl, rfl, rfl, rfl, rfl, rfl⟩
theorem ct_X2_prisonersHere : Ctr yX2_prisonersHere cX2_prisonersHere 3 (some .int) 1 0 0 1 sp_X2_prisonersHere := ctr_of (by decide +kernel) rfl (by decide) ok_X2_prisonersHere vc_X2_prisonersHere

def sm (f : Nat → Nat) : Nat → Nat
  | 0 => 0
  | n + 1 => sm f n + f n
def sp_X2_orderCount : HSp := fun as w σ K => match as with
  | [.inr (.inl (2, some 0))] => ∃ np, Pk w σ np ∧ K (some (HI (nI (sm (fun p => cnt (fun v => decide (¬ σ 13 (p + 4) v = 401)) 14) np)))) w σ
  | _ => False
theorem dX2_orderCount_0 : decode cX2_orderCount 0 = .ok (.iconst 0, 1) := by decide +kernel
theorem dX2_orderCount_1 : decode cX2_orderCount 1 = .ok (.istore_n 1, 1) := by decide +kernel
theorem dX2_orderCount_2 : decode cX2_orderCount 2 = .ok (.iconst 0, 1) := by decide +kernel
theorem dX2_orderCount_3 : decode cX2_orderCount 3 = .ok (.istore_n 2, 1) := by decide +kernel
theorem dX2_orderCount_4 : decode cX2_orderCount 4 = .ok (.iload_n 2, 1) := by decide +kernel
theorem dX2_orderCount_5 : decode cX2_orderCount 5 = .ok (.aload_n 0, 1) := by decide +kernel
theorem dX2_orderCount_6 : decode cX2_orderCount 6 = .ok (.getfield 27, 3) := by decide +kernel
theorem dX2_orderCount_9 : decode cX2_orderCount 9 = .ok (.if_icmp .ge 21, 3) := by decide +kernel
theorem dX2_orderCount_12 : decode cX2_orderCount 12 = .ok (.iload_n 1, 1) := by decide +kernel
theorem dX2_orderCount_13 : decode cX2_orderCount 13 = .ok (.aload_n 0, 1) := by decide +kernel
theorem dX2_orderCount_14 : decode cX2_orderCount 14 = .ok (.getfield 13, 3) := by decide +kernel
theorem dX2_orderCount_17 : decode cX2_orderCount 17 = .ok (.iload_n 2, 1) := by decide +kernel
theorem dX2_orderCount_18 : decode cX2_orderCount 18 = .ok (.aaload, 1) := by decide +kernel
theorem dX2_orderCount_19 : decode cX2_orderCount 19 = .ok (.invokevirtual 59, 3) := by decide +kernel
theorem dX2_orderCount_22 : decode cX2_orderCount 22 = .ok (.iadd, 1) := by decide +kernel
theorem dX2_orderCount_23 : decode cX2_orderCount 23 = .ok (.istore_n 1, 1) := by decide +kernel
theorem dX2_orderCount_24 : decode cX2_orderCount 24 = .ok (.iinc 2 1, 3) := by decide +kernel
theorem dX2_orderCount_27 : decode cX2_orderCount 27 = .ok (.goto (-23), 3) := by decide +kernel
theorem dX2_orderCount_30 : decode cX2_orderCount 30 = .ok (.iload_n 1, 1) := by decide +kernel
theorem dX2_orderCount_31 : decode cX2_orderCount 31 = .ok (.ireturn, 1) := by decide +kernel
def ins_X2_orderCount (pc : Nat) : HOp := cond (Nat.blt pc 14) (cond (Nat.blt pc 5) (cond (Nat.blt pc 2) (cond (Nat.blt pc 1) (cond (Nat.beq pc 0) (o_const (0) 1) o_bad) (cond (Nat.beq pc 1) (o_istore 1 2) o_bad)) (cond (Nat.blt pc 3) (cond (Nat.beq pc 2) (o_const (0) 3) o_bad) (cond (Nat.blt pc 4) (cond (Nat.beq pc 3) (o_istore 2 4) o_bad) (cond (Nat.beq pc 4) (o_iload 2 5) o_bad)))) (cond (Nat.blt pc 9) (cond (Nat.blt pc 6) (cond (Nat.beq pc 5) (o_aload 0 6) o_bad) (cond (Nat.beq pc 6) (o_getf 2 1 9) o_bad)) (cond (Nat.blt pc 12) (cond (Nat.beq pc 9) (o_icmp (fun x y => y ≤ x) 30 12) o_bad) (cond (Nat.blt pc 13) (cond (Nat.beq pc 12) (o_iload 1 13) o_bad) (cond (Nat.beq pc 13) (o_aload 0 14) o_bad))))) (cond (Nat.blt pc 23) (cond (Nat.blt pc 18) (cond (Nat.blt pc 17) (cond (Nat.beq pc 14) (o_getf 2 0 17) o_bad) (cond (Nat.beq pc 17) (o_iload 2 18) o_bad)) (cond (Nat.blt pc 19) (cond (Nat.beq pc 18) (o_aald 19) o_bad) (cond (Nat.blt pc 22) (cond (Nat.beq pc 19) (o_callV 1 3 sp_X3_orderCount 22) o_bad) (cond (Nat.beq pc 22) (o_bin (fun x y => x + y) 23) o_bad)))) (cond (Nat.blt pc 27) (cond (Nat.blt pc 24) (cond (Nat.beq pc 23) (o_istore 1 24) o_bad) (cond (Nat.beq pc 24) (o_iinc 2 (1) 27) o_bad)) (cond (Nat.blt pc 30) (cond (Nat.beq pc 27) (o_goto 4) o_bad) (cond (Nat.blt pc 31) (cond (Nat.beq pc 30) (o_iload 1 31) o_bad) (cond (Nat.beq pc 31) (o_iret) o_bad)))))
set_option maxRecDepth 20000 in
theorem ok_X2_orderCount : HOKs cX2_orderCount RX2 3 (some .int) 2 ins_X2_orderCount := fun _ => hnd (hnd (hnd (hnd (hlf (ok_iconst dX2_orderCount_0 (by decide) rfl)) (hlf (ok_istore_n dX2_orderCount_1 rfl (by decide) rfl))) (hnd (hlf (ok_iconst dX2_orderCount_2 (by decide) rfl)) (hnd (hlf (ok_istore_n dX2_orderCount_3 rfl (by decide) rfl)) (hlf (ok_iload_n dX2_orderCount_4 rfl rfl))))) (hnd (hnd (hlf (ok_aload_n dX2_orderCount_5 rfl rfl)) (hlf (ok_getf (C := RX2) (T := TX2) dX2_orderCount_6 rfl rfl (by decide) rfl inX2 wd_79 rfl))) (hnd (hlf (ok_icmp_ge dX2_orderCount_9 (by decide) rfl)) (hnd (hlf (ok_iload_n dX2_orderCount_12 rfl rfl)) (hlf (ok_aload_n dX2_orderCount_13 rfl rfl)))))) (hnd (hnd (hnd (hlf (ok_getf (C := RX2) (T := TX2) dX2_orderCount_14 rfl rfl (by decide) rfl inX2 wd_78 rfl)) (hlf (ok_iload_n dX2_orderCount_17 rfl rfl))) (hnd (hlf (ok_aald dX2_orderCount_18 rfl)) (hnd (hlf (ok_callV (y := yX3_orderCount) (n' := 0) (C := RX3) (T := TX3) dX2_orderCount_19 ct_X3_orderCount (by decide) (by decide) wd_871 wd_868 wd_869 wd_870 wd_52 rfl (by decide +kernel) rfl rfl rfl)) (hlf (ok_iadd dX2_orderCount_22 rfl))))) (hnd (hnd (hlf (ok_istore_n dX2_orderCount_23 rfl (by decide) rfl)) (hlf (ok_iinc dX2_orderCount_24 (by decide) (by decide) rfl))) (hnd (hlf (ok_goto dX2_orderCount_27 (by decide))) (hnd (hlf (ok_iload_n dX2_orderCount_30 rfl rfl)) (hlf (ok_iret dX2_orderCount_31))))))

theorem vc_X2_orderCount : MVC ins_X2_orderCount 3 1 sp_X2_orderCount := by
  refine mvc1 4 60 fun as w σ q hl hs => ?_
  unfold sp_X2_orderCount at hs
  split at hs
  rotate_left
  · exact hs.elim
  obtain ⟨n, ⟨hn, hsz, hra⟩, hq⟩ := hs
  refine ⟨fun N ls st w' σ' => ∃ (i : Nat) (u v : Int32), i ≤ n ∧ N = n - i ∧ u = nI (sm (fun p => cnt (fun v => decide (¬ σ 13 (p + 4) v = 401)) 14) i) ∧ v = nI i ∧ ls = [some (HR 2 0), some (HI u), some (HI v)] ∧ st = [] ∧ w = w' ∧ σ = σ', ?_, ?_⟩
  · rintro N ls st w' σ' ⟨i, u, v, hi, rfl, rfl, rfl, rfl, rfl, rfl, rfl⟩
    apply br2
    · intro h1
      obtain rfl := lp_end hsz hi h1
      exact hq
    · intro h1
      have hlt := lp_go hsz hi h1
      refine And.intro (vp_in_nI (N := 10) (by omega) (by decide)) (fun o ho => ?_)
      obtain rfl := ra_at ho (hra i hlt)
      exact ⟨n - (i + 1), by omega, i + 1, _, _, hlt, rfl, nI_add _ _, nI_1 i, rfl, rfl, rfl, rfl⟩
  · exact ⟨n, 0, 0, 0, Nat.zero_le _, rfl, rfl, rfl, rfl, rfl, rfl, rfl⟩
theorem ct_X2_orderCount : Ctr yX2_orderCount cX2_orderCount 3 (some .int) 2 0 0 1 sp_X2_orderCount := ctr_of (by decide +kernel) rfl (by decide) ok_X2_orderCount vc_X2_orderCount

def sp_X2_rivalPairs : HSp := fun as w σ K => match as with
  | [.inr (.inl (2, some 0))] => ∃ f : Nat → Nat, (∀ i, i < 10 → popc (σ 13 2 i) = nI (f i) ∧ f i ≤ 32) ∧ K (some (HI (nI (sm f 10) / 2))) w σ
  | _ => False
theorem dX2_rivalPairs_0 : decode cX2_rivalPairs 0 = .ok (.iconst 0, 1) := by decide +kernel
theorem dX2_rivalPairs_1 : decode cX2_rivalPairs 1 = .ok (.istore_n 1, 1) := by decide +kernel
theorem dX2_rivalPairs_2 : decode cX2_rivalPairs 2 = .ok (.iconst 0, 1) := by decide +kernel
theorem dX2_rivalPairs_3 : decode cX2_rivalPairs 3 = .ok (.istore_n 2, 1) := by decide +kernel
theorem dX2_rivalPairs_4 : decode cX2_rivalPairs 4 = .ok (.iload_n 2, 1) := by decide +kernel
theorem dX2_rivalPairs_5 : decode cX2_rivalPairs 5 = .ok (.bipush 10, 2) := by decide +kernel
theorem dX2_rivalPairs_7 : decode cX2_rivalPairs 7 = .ok (.if_icmp .ge 21, 3) := by decide +kernel
theorem dX2_rivalPairs_10 : decode cX2_rivalPairs 10 = .ok (.iload_n 1, 1) := by decide +kernel
theorem dX2_rivalPairs_11 : decode cX2_rivalPairs 11 = .ok (.aload_n 0, 1) := by decide +kernel
theorem dX2_rivalPairs_12 : decode cX2_rivalPairs 12 = .ok (.getfield 24, 3) := by decide +kernel
theorem dX2_rivalPairs_15 : decode cX2_rivalPairs 15 = .ok (.iload_n 2, 1) := by decide +kernel
theorem dX2_rivalPairs_16 : decode cX2_rivalPairs 16 = .ok (.iaload, 1) := by decide +kernel
theorem dX2_rivalPairs_17 : decode cX2_rivalPairs 17 = .ok (.invokestatic 42, 3) := by decide +kernel
theorem dX2_rivalPairs_20 : decode cX2_rivalPairs 20 = .ok (.iadd, 1) := by decide +kernel
theorem dX2_rivalPairs_21 : decode cX2_rivalPairs 21 = .ok (.istore_n 1, 1) := by decide +kernel
theorem dX2_rivalPairs_22 : decode cX2_rivalPairs 22 = .ok (.iinc 2 1, 3) := by decide +kernel
theorem dX2_rivalPairs_25 : decode cX2_rivalPairs 25 = .ok (.goto (-21), 3) := by decide +kernel
theorem dX2_rivalPairs_28 : decode cX2_rivalPairs 28 = .ok (.iload_n 1, 1) := by decide +kernel
theorem dX2_rivalPairs_29 : decode cX2_rivalPairs 29 = .ok (.iconst 2, 1) := by decide +kernel
theorem dX2_rivalPairs_30 : decode cX2_rivalPairs 30 = .ok (.idiv, 1) := by decide +kernel
theorem dX2_rivalPairs_31 : decode cX2_rivalPairs 31 = .ok (.ireturn, 1) := by decide +kernel
def ins_X2_rivalPairs (pc : Nat) : HOp := cond (Nat.blt pc 15) (cond (Nat.blt pc 5) (cond (Nat.blt pc 2) (cond (Nat.blt pc 1) (cond (Nat.beq pc 0) (o_const (0) 1) o_bad) (cond (Nat.beq pc 1) (o_istore 1 2) o_bad)) (cond (Nat.blt pc 3) (cond (Nat.beq pc 2) (o_const (0) 3) o_bad) (cond (Nat.blt pc 4) (cond (Nat.beq pc 3) (o_istore 2 4) o_bad) (cond (Nat.beq pc 4) (o_iload 2 5) o_bad)))) (cond (Nat.blt pc 10) (cond (Nat.blt pc 7) (cond (Nat.beq pc 5) (o_const (10) 7) o_bad) (cond (Nat.beq pc 7) (o_icmp (fun x y => y ≤ x) 28 10) o_bad)) (cond (Nat.blt pc 11) (cond (Nat.beq pc 10) (o_iload 1 11) o_bad) (cond (Nat.blt pc 12) (cond (Nat.beq pc 11) (o_aload 0 12) o_bad) (cond (Nat.beq pc 12) (o_getf 2 5 15) o_bad))))) (cond (Nat.blt pc 22) (cond (Nat.blt pc 17) (cond (Nat.blt pc 16) (cond (Nat.beq pc 15) (o_iload 2 16) o_bad) (cond (Nat.beq pc 16) (o_iald 17) o_bad)) (cond (Nat.blt pc 20) (cond (Nat.beq pc 17) (o_callS 1 sp_J6_bitCount_0f7a4 20) o_bad) (cond (Nat.blt pc 21) (cond (Nat.beq pc 20) (o_bin (fun x y => x + y) 21) o_bad) (cond (Nat.beq pc 21) (o_istore 1 22) o_bad)))) (cond (Nat.blt pc 29) (cond (Nat.blt pc 25) (cond (Nat.beq pc 22) (o_iinc 2 (1) 25) o_bad) (cond (Nat.blt pc 28) (cond (Nat.beq pc 25) (o_goto 4) o_bad) (cond (Nat.beq pc 28) (o_iload 1 29) o_bad))) (cond (Nat.blt pc 30) (cond (Nat.beq pc 29) (o_const (2) 30) o_bad) (cond (Nat.blt pc 31) (cond (Nat.beq pc 30) (o_dv (fun x y => x / y) 31) o_bad) (cond (Nat.beq pc 31) (o_iret) o_bad)))))
set_option maxRecDepth 20000 in
theorem ok_X2_rivalPairs : HOKs cX2_rivalPairs RX2 3 (some .int) 2 ins_X2_rivalPairs := fun _ => hnd (hnd (hnd (hnd (hlf (ok_iconst dX2_rivalPairs_0 (by decide) rfl)) (hlf (ok_istore_n dX2_rivalPairs_1 rfl (by decide) rfl))) (hnd (hlf (ok_iconst dX2_rivalPairs_2 (by decide) rfl)) (hnd (hlf (ok_istore_n dX2_rivalPairs_3 rfl (by decide) rfl)) (hlf (ok_iload_n dX2_rivalPairs_4 rfl rfl))))) (hnd (hnd (hlf (ok_bipush dX2_rivalPairs_5 (by decide) rfl)) (hlf (ok_icmp_ge dX2_rivalPairs_7 (by decide) rfl))) (hnd (hlf (ok_iload_n dX2_rivalPairs_10 rfl rfl)) (hnd (hlf (ok_aload_n dX2_rivalPairs_11 rfl rfl)) (hlf (ok_getf (C := RX2) (T := TX2) dX2_rivalPairs_12 rfl rfl (by decide) rfl inX2 wd_84 rfl)))))) (hnd (hnd (hnd (hlf (ok_iload_n dX2_rivalPairs_15 rfl rfl)) (hlf (ok_iald dX2_rivalPairs_16 rfl))) (hnd (hlf (ok_callS (y := yJ6_bitCount_0f7a4) dX2_rivalPairs_17 ct_J6_bitCount_0f7a4 (by decide) (by decide) wd_737 wd_735 wd_736 wd_60 (by decide +kernel) rfl)) (hnd (hlf (ok_iadd dX2_rivalPairs_20 rfl)) (hlf (ok_istore_n dX2_rivalPairs_21 rfl (by decide) rfl))))) (hnd (hnd (hlf (ok_iinc dX2_rivalPairs_22 (by decide) (by decide) rfl)) (hnd (hlf (ok_goto dX2_rivalPairs_25 (by decide))) (hlf (ok_iload_n dX2_rivalPairs_28 rfl rfl)))) (hnd (hlf (ok_iconst dX2_rivalPairs_29 (by decide) rfl)) (hnd (hlf (ok_idiv dX2_rivalPairs_30 rfl)) (hlf (ok_iret dX2_rivalPairs_31))))))

theorem vc_X2_rivalPairs : MVC ins_X2_rivalPairs 3 1 sp_X2_rivalPairs := by
  refine mvc1 4 60 fun as w σ q hl hs => ?_
  unfold sp_X2_rivalPairs at hs
  split at hs
  rotate_left
  · exact hs.elim
  obtain ⟨f, hf, hq⟩ := hs
  refine ⟨fun N ls st w' σ' => ∃ (i : Nat) (u v : Int32), i ≤ 10 ∧ N = 10 - i ∧ u = nI (sm f i) ∧ v = nI i ∧ ls = [some (HR 2 0), some (HI u), some (HI v)] ∧ st = [] ∧ w = w' ∧ σ = σ', ?_, ?_⟩
  · rintro N ls st w' σ' ⟨i, u, v, hi, rfl, rfl, rfl, rfl, rfl, rfl, rfl⟩
    apply br2
    · intro h1
      obtain rfl := lp_end (n := 10) rfl hi h1
      exact And.intro (by decide) hq
    · intro h1
      have hlt := lp_go (n := 10) rfl hi h1
      refine And.intro (vp_in_nI (N := 10) (by omega) (by decide)) ?_
      have e : (nI i).toNatClampNeg = i := nI_clamp (by omega)
      refine ⟨10 - (i + 1), by omega, i + 1, _, _, hlt, rfl, ?_, nI_1 i, rfl, rfl, rfl, rfl⟩
      rw [e, (hf i hlt).1]
      exact nI_add _ _
  · exact ⟨10, 0, 0, 0, Nat.zero_le _, rfl, rfl, rfl, rfl, rfl, rfl, rfl⟩
theorem ct_X2_rivalPairs : Ctr yX2_rivalPairs cX2_rivalPairs 3 (some .int) 2 0 0 1 sp_X2_rivalPairs := ctr_of (by decide +kernel) rfl (by decide) ok_X2_rivalPairs vc_X2_rivalPairs

abbrev ptC (σ : HS) (s : Int32) : Prop := s &&& (σ 13 0 0 ^^^ (-1)) = 0 ∧ ¬ popc s < 1 ∧ ¬ 3 < popc s
def sp_X2_isParty : HSp := fun as w σ K => match as with
  | [.inr (.inl (2, some 0)), .inl s] => spZ (ptC σ s) w σ K
  | _ => False
theorem dX2_isParty_0 : decode cX2_isParty 0 = .ok (.iload_n 1, 1) := by decide +kernel
theorem dX2_isParty_1 : decode cX2_isParty 1 = .ok (.invokestatic 42, 3) := by decide +kernel
theorem dX2_isParty_4 : decode cX2_isParty 4 = .ok (.istore_n 2, 1) := by decide +kernel
theorem dX2_isParty_5 : decode cX2_isParty 5 = .ok (.iload_n 1, 1) := by decide +kernel
theorem dX2_isParty_6 : decode cX2_isParty 6 = .ok (.aload_n 0, 1) := by decide +kernel
theorem dX2_isParty_7 : decode cX2_isParty 7 = .ok (.getfield 17, 3) := by decide +kernel
theorem dX2_isParty_10 : decode cX2_isParty 10 = .ok (.iconst 0, 1) := by decide +kernel
theorem dX2_isParty_11 : decode cX2_isParty 11 = .ok (.iaload, 1) := by decide +kernel
theorem dX2_isParty_12 : decode cX2_isParty 12 = .ok (.iconst (-1), 1) := by decide +kernel
theorem dX2_isParty_13 : decode cX2_isParty 13 = .ok (.ixor, 1) := by decide +kernel
theorem dX2_isParty_14 : decode cX2_isParty 14 = .ok (.iand, 1) := by decide +kernel
theorem dX2_isParty_15 : decode cX2_isParty 15 = .ok (.ifCond .ne 17, 3) := by decide +kernel
theorem dX2_isParty_18 : decode cX2_isParty 18 = .ok (.iload_n 2, 1) := by decide +kernel
theorem dX2_isParty_19 : decode cX2_isParty 19 = .ok (.iconst 1, 1) := by decide +kernel
theorem dX2_isParty_20 : decode cX2_isParty 20 = .ok (.if_icmp .lt 12, 3) := by decide +kernel
theorem dX2_isParty_23 : decode cX2_isParty 23 = .ok (.iload_n 2, 1) := by decide +kernel
theorem dX2_isParty_24 : decode cX2_isParty 24 = .ok (.iconst 3, 1) := by decide +kernel
theorem dX2_isParty_25 : decode cX2_isParty 25 = .ok (.if_icmp .gt 7, 3) := by decide +kernel
theorem dX2_isParty_28 : decode cX2_isParty 28 = .ok (.iconst 1, 1) := by decide +kernel
theorem dX2_isParty_29 : decode cX2_isParty 29 = .ok (.goto 4, 3) := by decide +kernel
theorem dX2_isParty_32 : decode cX2_isParty 32 = .ok (.iconst 0, 1) := by decide +kernel
theorem dX2_isParty_33 : decode cX2_isParty 33 = .ok (.ireturn, 1) := by decide +kernel
def ins_X2_isParty (pc : Nat) : HOp := cond (Nat.blt pc 15) (cond (Nat.blt pc 7) (cond (Nat.blt pc 4) (cond (Nat.blt pc 1) (cond (Nat.beq pc 0) (o_iload 1 1) o_bad) (cond (Nat.beq pc 1) (o_callS 1 sp_J6_bitCount_0f7a4 4) o_bad)) (cond (Nat.blt pc 5) (cond (Nat.beq pc 4) (o_istore 2 5) o_bad) (cond (Nat.blt pc 6) (cond (Nat.beq pc 5) (o_iload 1 6) o_bad) (cond (Nat.beq pc 6) (o_aload 0 7) o_bad)))) (cond (Nat.blt pc 12) (cond (Nat.blt pc 10) (cond (Nat.beq pc 7) (o_getf 2 2 10) o_bad) (cond (Nat.blt pc 11) (cond (Nat.beq pc 10) (o_const (0) 11) o_bad) (cond (Nat.beq pc 11) (o_iald 12) o_bad))) (cond (Nat.blt pc 13) (cond (Nat.beq pc 12) (o_const (-1) 13) o_bad) (cond (Nat.blt pc 14) (cond (Nat.beq pc 13) (o_bin (fun x y => x ^^^ y) 14) o_bad) (cond (Nat.beq pc 14) (o_bin (fun x y => x &&& y) 15) o_bad))))) (cond (Nat.blt pc 24) (cond (Nat.blt pc 19) (cond (Nat.blt pc 18) (cond (Nat.beq pc 15) (o_if (fun x => x = 0) 18 32) o_bad) (cond (Nat.beq pc 18) (o_iload 2 19) o_bad)) (cond (Nat.blt pc 20) (cond (Nat.beq pc 19) (o_const (1) 20) o_bad) (cond (Nat.blt pc 23) (cond (Nat.beq pc 20) (o_icmp (fun x y => x < y) 32 23) o_bad) (cond (Nat.beq pc 23) (o_iload 2 24) o_bad)))) (cond (Nat.blt pc 29) (cond (Nat.blt pc 25) (cond (Nat.beq pc 24) (o_const (3) 25) o_bad) (cond (Nat.blt pc 28) (cond (Nat.beq pc 25) (o_icmp (fun x y => y < x) 32 28) o_bad) (cond (Nat.beq pc 28) (o_const (1) 29) o_bad))) (cond (Nat.blt pc 32) (cond (Nat.beq pc 29) (o_goto 33) o_bad) (cond (Nat.blt pc 33) (cond (Nat.beq pc 32) (o_const (0) 33) o_bad) (cond (Nat.beq pc 33) (o_zret) o_bad)))))
set_option maxRecDepth 20000 in
theorem ok_X2_isParty : HOKs cX2_isParty RX2 3 (some .boolean) 2 ins_X2_isParty := fun _ => hnd (hnd (hnd (hnd (hlf (ok_iload_n dX2_isParty_0 rfl rfl)) (hlf (ok_callS (y := yJ6_bitCount_0f7a4) dX2_isParty_1 ct_J6_bitCount_0f7a4 (by decide) (by decide) wd_737 wd_735 wd_736 wd_60 (by decide +kernel) rfl))) (hnd (hlf (ok_istore_n dX2_isParty_4 rfl (by decide) rfl)) (hnd (hlf (ok_iload_n dX2_isParty_5 rfl rfl)) (hlf (ok_aload_n dX2_isParty_6 rfl rfl))))) (hnd (hnd (hlf (ok_getf (C := RX2) (T := TX2) dX2_isParty_7 rfl rfl (by decide) rfl inX2 wd_80 rfl)) (hnd (hlf (ok_iconst dX2_isParty_10 (by decide) rfl)) (hlf (ok_iald dX2_isParty_11 rfl)))) (hnd (hlf (ok_iconst dX2_isParty_12 (by decide) rfl)) (hnd (hlf (ok_ixor dX2_isParty_13 rfl)) (hlf (ok_iand dX2_isParty_14 rfl)))))) (hnd (hnd (hnd (hlf (ok_if_ne dX2_isParty_15 (by decide) rfl)) (hlf (ok_iload_n dX2_isParty_18 rfl rfl))) (hnd (hlf (ok_iconst dX2_isParty_19 (by decide) rfl)) (hnd (hlf (ok_icmp_lt dX2_isParty_20 (by decide) rfl)) (hlf (ok_iload_n dX2_isParty_23 rfl rfl))))) (hnd (hnd (hlf (ok_iconst dX2_isParty_24 (by decide) rfl)) (hnd (hlf (ok_icmp_gt dX2_isParty_25 (by decide) rfl)) (hlf (ok_iconst dX2_isParty_28 (by decide) rfl)))) (hnd (hlf (ok_goto dX2_isParty_29 (by decide))) (hnd (hlf (ok_iconst dX2_isParty_32 (by decide) rfl)) (hlf (ok_zret dX2_isParty_33))))))

theorem vc_X2_isParty : MVC ins_X2_isParty 3 2 sp_X2_isParty := by
  refine mvc0 60 fun as w σ q hl hs => ?_
  unfold sp_X2_isParty at hs
  split at hs
  rotate_left
  · exact hs.elim
  rename_i s
  clear hl
  refine And.intro (vp_in_nI (n := 0) (N := 4) (by decide) (by decide)) ?_
  have e0 : (0 : Int32).toNatClampNeg = 0 := rfl
  repeat' (first | apply br2 | intro _)
  all_goals first | exact ⟨Or.inl rfl, hs.2 (by grind)⟩ | exact ⟨Or.inr rfl, hs.1 (by grind)⟩
theorem ct_X2_isParty : Ctr yX2_isParty cX2_isParty 3 (some .boolean) 2 0 0 2 sp_X2_isParty := ctr_of (by decide +kernel) rfl (by decide) ok_X2_isParty vc_X2_isParty

/-- a visitor more -/
def avS (σ : HS) (k y : Int32) : HS :=
  let b := (1 : Int32) <<< (σ 2 0 4 &&& 31)
  let σ1 := up3 σ 13 0 0 (σ 13 0 0 ||| b)
  let σ2 := up3 σ1 13 0 k.toNatClampNeg (σ1 13 0 k.toNatClampNeg ||| b)
  let σ3 := if k = 3 then up3 σ2 13 0 1 (σ2 13 0 1 ||| b) else σ2
  up3 (up3 σ3 13 1 (σ 2 0 4).toNatClampNeg y) 2 0 4 (σ 2 0 4 + 1)
def sp_X2_addVisitor : HSp := fun as w σ K => match as with
  | [.inr (.inl (2, some 0)), .inl k, .inl y] => ∃ nv kn, nv ≤ 14 ∧ σ 2 0 4 = nI nv ∧ kn < 4 ∧ k = nI kn ∧ (nv < 14 → K (some (HI (σ 2 0 4))) w (avS σ k y)) ∧ (¬ nv < 14 → K (some (HI (-1000000003))) w σ)
  | _ => False
theorem up3_o {σ : HS} {k i f a b c : Nat} {v : Int32} (h : ¬ (a = k ∧ b = i ∧ c = f)) : up3 σ k i f v a b c = σ a b c := if_neg h
theorem dX2_addVisitor_0 : decode cX2_addVisitor 0 = .ok (.aload_n 0, 1) := by decide +kernel
theorem dX2_addVisitor_1 : decode cX2_addVisitor 1 = .ok (.getfield 39, 3) := by decide +kernel
theorem dX2_addVisitor_4 : decode cX2_addVisitor 4 = .ok (.bipush 14, 2) := by decide +kernel
theorem dX2_addVisitor_6 : decode cX2_addVisitor 6 = .ok (.if_icmp .lt 6, 3) := by decide +kernel
theorem dX2_addVisitor_9 : decode cX2_addVisitor 9 = .ok (.ldc 31, 2) := by decide +kernel
theorem dX2_addVisitor_11 : decode cX2_addVisitor 11 = .ok (.ireturn, 1) := by decide +kernel
theorem dX2_addVisitor_12 : decode cX2_addVisitor 12 = .ok (.iconst 1, 1) := by decide +kernel
theorem dX2_addVisitor_13 : decode cX2_addVisitor 13 = .ok (.aload_n 0, 1) := by decide +kernel
theorem dX2_addVisitor_14 : decode cX2_addVisitor 14 = .ok (.getfield 39, 3) := by decide +kernel
theorem dX2_addVisitor_17 : decode cX2_addVisitor 17 = .ok (.ishl, 1) := by decide +kernel
theorem dX2_addVisitor_18 : decode cX2_addVisitor 18 = .ok (.istore_n 3, 1) := by decide +kernel
theorem dX2_addVisitor_19 : decode cX2_addVisitor 19 = .ok (.aload_n 0, 1) := by decide +kernel
theorem dX2_addVisitor_20 : decode cX2_addVisitor 20 = .ok (.getfield 17, 3) := by decide +kernel
theorem dX2_addVisitor_23 : decode cX2_addVisitor 23 = .ok (.iconst 0, 1) := by decide +kernel
theorem dX2_addVisitor_24 : decode cX2_addVisitor 24 = .ok (.dup2, 1) := by decide +kernel
theorem dX2_addVisitor_25 : decode cX2_addVisitor 25 = .ok (.iaload, 1) := by decide +kernel
theorem dX2_addVisitor_26 : decode cX2_addVisitor 26 = .ok (.iload_n 3, 1) := by decide +kernel
theorem dX2_addVisitor_27 : decode cX2_addVisitor 27 = .ok (.ior, 1) := by decide +kernel
theorem dX2_addVisitor_28 : decode cX2_addVisitor 28 = .ok (.iastore, 1) := by decide +kernel
theorem dX2_addVisitor_29 : decode cX2_addVisitor 29 = .ok (.aload_n 0, 1) := by decide +kernel
theorem dX2_addVisitor_30 : decode cX2_addVisitor 30 = .ok (.getfield 17, 3) := by decide +kernel
theorem dX2_addVisitor_33 : decode cX2_addVisitor 33 = .ok (.iload_n 1, 1) := by decide +kernel
theorem dX2_addVisitor_34 : decode cX2_addVisitor 34 = .ok (.dup2, 1) := by decide +kernel
theorem dX2_addVisitor_35 : decode cX2_addVisitor 35 = .ok (.iaload, 1) := by decide +kernel
theorem dX2_addVisitor_36 : decode cX2_addVisitor 36 = .ok (.iload_n 3, 1) := by decide +kernel
theorem dX2_addVisitor_37 : decode cX2_addVisitor 37 = .ok (.ior, 1) := by decide +kernel
theorem dX2_addVisitor_38 : decode cX2_addVisitor 38 = .ok (.iastore, 1) := by decide +kernel
theorem dX2_addVisitor_39 : decode cX2_addVisitor 39 = .ok (.iload_n 1, 1) := by decide +kernel
theorem dX2_addVisitor_40 : decode cX2_addVisitor 40 = .ok (.iconst 3, 1) := by decide +kernel
theorem dX2_addVisitor_41 : decode cX2_addVisitor 41 = .ok (.if_icmp .ne 13, 3) := by decide +kernel
theorem dX2_addVisitor_44 : decode cX2_addVisitor 44 = .ok (.aload_n 0, 1) := by decide +kernel
theorem dX2_addVisitor_45 : decode cX2_addVisitor 45 = .ok (.getfield 17, 3) := by decide +kernel
theorem dX2_addVisitor_48 : decode cX2_addVisitor 48 = .ok (.iconst 1, 1) := by decide +kernel
theorem dX2_addVisitor_49 : decode cX2_addVisitor 49 = .ok (.dup2, 1) := by decide +kernel
theorem dX2_addVisitor_50 : decode cX2_addVisitor 50 = .ok (.iaload, 1) := by decide +kernel
theorem dX2_addVisitor_51 : decode cX2_addVisitor 51 = .ok (.iload_n 3, 1) := by decide +kernel
theorem dX2_addVisitor_52 : decode cX2_addVisitor 52 = .ok (.ior, 1) := by decide +kernel
theorem dX2_addVisitor_53 : decode cX2_addVisitor 53 = .ok (.iastore, 1) := by decide +kernel
theorem dX2_addVisitor_54 : decode cX2_addVisitor 54 = .ok (.aload_n 0, 1) := by decide +kernel
theorem dX2_addVisitor_55 : decode cX2_addVisitor 55 = .ok (.getfield 21, 3) := by decide +kernel
theorem dX2_addVisitor_58 : decode cX2_addVisitor 58 = .ok (.aload_n 0, 1) := by decide +kernel
theorem dX2_addVisitor_59 : decode cX2_addVisitor 59 = .ok (.getfield 39, 3) := by decide +kernel
theorem dX2_addVisitor_62 : decode cX2_addVisitor 62 = .ok (.iload_n 2, 1) := by decide +kernel
theorem dX2_addVisitor_63 : decode cX2_addVisitor 63 = .ok (.iastore, 1) := by decide +kernel
theorem dX2_addVisitor_64 : decode cX2_addVisitor 64 = .ok (.aload_n 0, 1) := by decide +kernel
theorem dX2_addVisitor_65 : decode cX2_addVisitor 65 = .ok (.dup, 1) := by decide +kernel
theorem dX2_addVisitor_66 : decode cX2_addVisitor 66 = .ok (.getfield 39, 3) := by decide +kernel
theorem dX2_addVisitor_69 : decode cX2_addVisitor 69 = .ok (.dup_x1, 1) := by decide +kernel
theorem dX2_addVisitor_70 : decode cX2_addVisitor 70 = .ok (.iconst 1, 1) := by decide +kernel
theorem dX2_addVisitor_71 : decode cX2_addVisitor 71 = .ok (.iadd, 1) := by decide +kernel
theorem dX2_addVisitor_72 : decode cX2_addVisitor 72 = .ok (.putfield 39, 3) := by decide +kernel
theorem dX2_addVisitor_75 : decode cX2_addVisitor 75 = .ok (.ireturn, 1) := by decide +kernel
def ins_X2_addVisitor (pc : Nat) : HOp := cond (Nat.blt pc 38) (cond (Nat.blt pc 23) (cond (Nat.blt pc 12) (cond (Nat.blt pc 6) (cond (Nat.blt pc 1) (cond (Nat.beq pc 0) (o_aload 0 1) o_bad) (cond (Nat.blt pc 4) (cond (Nat.beq pc 1) (o_getf 2 4 4) o_bad) (cond (Nat.beq pc 4) (o_const (14) 6) o_bad))) (cond (Nat.blt pc 9) (cond (Nat.beq pc 6) (o_icmp (fun x y => x < y) 12 9) o_bad) (cond (Nat.blt pc 11) (cond (Nat.beq pc 9) (o_const (-1000000003) 11) o_bad) (cond (Nat.beq pc 11) (o_iret) o_bad)))) (cond (Nat.blt pc 17) (cond (Nat.blt pc 13) (cond (Nat.beq pc 12) (o_const (1) 13) o_bad) (cond (Nat.blt pc 14) (cond (Nat.beq pc 13) (o_aload 0 14) o_bad) (cond (Nat.beq pc 14) (o_getf 2 4 17) o_bad))) (cond (Nat.blt pc 19) (cond (Nat.blt pc 18) (cond (Nat.beq pc 17) (o_bin (fun x y => x <<< (y &&& 31)) 18) o_bad) (cond (Nat.beq pc 18) (o_istore 3 19) o_bad)) (cond (Nat.blt pc 20) (cond (Nat.beq pc 19) (o_aload 0 20) o_bad) (cond (Nat.beq pc 20) (o_getf 2 2 23) o_bad))))) (cond (Nat.blt pc 29) (cond (Nat.blt pc 26) (cond (Nat.blt pc 24) (cond (Nat.beq pc 23) (o_const (0) 24) o_bad) (cond (Nat.blt pc 25) (cond (Nat.beq pc 24) (o_dup2 25) o_bad) (cond (Nat.beq pc 25) (o_iald 26) o_bad))) (cond (Nat.blt pc 27) (cond (Nat.beq pc 26) (o_iload 3 27) o_bad) (cond (Nat.blt pc 28) (cond (Nat.beq pc 27) (o_bin (fun x y => x ||| y) 28) o_bad) (cond (Nat.beq pc 28) (o_iast 29) o_bad)))) (cond (Nat.blt pc 34) (cond (Nat.blt pc 30) (cond (Nat.beq pc 29) (o_aload 0 30) o_bad) (cond (Nat.blt pc 33) (cond (Nat.beq pc 30) (o_getf 2 2 33) o_bad) (cond (Nat.beq pc 33) (o_iload 1 34) o_bad))) (cond (Nat.blt pc 36) (cond (Nat.blt pc 35) (cond (Nat.beq pc 34) (o_dup2 35) o_bad) (cond (Nat.beq pc 35) (o_iald 36) o_bad)) (cond (Nat.blt pc 37) (cond (Nat.beq pc 36) (o_iload 3 37) o_bad) (cond (Nat.beq pc 37) (o_bin (fun x y => x ||| y) 38) o_bad)))))) (cond (Nat.blt pc 55) (cond (Nat.blt pc 48) (cond (Nat.blt pc 41) (cond (Nat.blt pc 39) (cond (Nat.beq pc 38) (o_iast 39) o_bad) (cond (Nat.blt pc 40) (cond (Nat.beq pc 39) (o_iload 1 40) o_bad) (cond (Nat.beq pc 40) (o_const (3) 41) o_bad))) (cond (Nat.blt pc 44) (cond (Nat.beq pc 41) (o_icmp (fun x y => x = y) 44 54) o_bad) (cond (Nat.blt pc 45) (cond (Nat.beq pc 44) (o_aload 0 45) o_bad) (cond (Nat.beq pc 45) (o_getf 2 2 48) o_bad)))) (cond (Nat.blt pc 51) (cond (Nat.blt pc 49) (cond (Nat.beq pc 48) (o_const (1) 49) o_bad) (cond (Nat.blt pc 50) (cond (Nat.beq pc 49) (o_dup2 50) o_bad) (cond (Nat.beq pc 50) (o_iald 51) o_bad))) (cond (Nat.blt pc 53) (cond (Nat.blt pc 52) (cond (Nat.beq pc 51) (o_iload 3 52) o_bad) (cond (Nat.beq pc 52) (o_bin (fun x y => x ||| y) 53) o_bad)) (cond (Nat.blt pc 54) (cond (Nat.beq pc 53) (o_iast 54) o_bad) (cond (Nat.beq pc 54) (o_aload 0 55) o_bad))))) (cond (Nat.blt pc 65) (cond (Nat.blt pc 62) (cond (Nat.blt pc 58) (cond (Nat.beq pc 55) (o_getf 2 3 58) o_bad) (cond (Nat.blt pc 59) (cond (Nat.beq pc 58) (o_aload 0 59) o_bad) (cond (Nat.beq pc 59) (o_getf 2 4 62) o_bad))) (cond (Nat.blt pc 63) (cond (Nat.beq pc 62) (o_iload 2 63) o_bad) (cond (Nat.blt pc 64) (cond (Nat.beq pc 63) (o_iast 64) o_bad) (cond (Nat.beq pc 64) (o_aload 0 65) o_bad)))) (cond (Nat.blt pc 70) (cond (Nat.blt pc 66) (cond (Nat.beq pc 65) (o_dup 66) o_bad) (cond (Nat.blt pc 69) (cond (Nat.beq pc 66) (o_getf 2 4 69) o_bad) (cond (Nat.beq pc 69) (o_dupx1 70) o_bad))) (cond (Nat.blt pc 72) (cond (Nat.blt pc 71) (cond (Nat.beq pc 70) (o_const (1) 71) o_bad) (cond (Nat.beq pc 71) (o_bin (fun x y => x + y) 72) o_bad)) (cond (Nat.blt pc 75) (cond (Nat.beq pc 72) (o_putf 2 4 75) o_bad) (cond (Nat.beq pc 75) (o_iret) o_bad))))))
set_option maxRecDepth 20000 in
theorem ok_X2_addVisitor : HOKs cX2_addVisitor RX2 4 (some .int) 1 ins_X2_addVisitor := fun _ => hnd (hnd (hnd (hnd (hnd (hlf (ok_aload_n dX2_addVisitor_0 rfl rfl)) (hnd (hlf (ok_getf (C := RX2) (T := TX2) dX2_addVisitor_1 rfl rfl (by decide) rfl inX2 wd_82 rfl)) (hlf (ok_bipush dX2_addVisitor_4 (by decide) rfl)))) (hnd (hlf (ok_icmp_lt dX2_addVisitor_6 (by decide) rfl)) (hnd (hlf (ok_ldc dX2_addVisitor_9 wd_326 rfl)) (hlf (ok_iret dX2_addVisitor_11))))) (hnd (hnd (hlf (ok_iconst dX2_addVisitor_12 (by decide) rfl)) (hnd (hlf (ok_aload_n dX2_addVisitor_13 rfl rfl)) (hlf (ok_getf (C := RX2) (T := TX2) dX2_addVisitor_14 rfl rfl (by decide) rfl inX2 wd_82 rfl)))) (hnd (hnd (hlf (ok_ishl dX2_addVisitor_17 rfl)) (hlf (ok_istore_n dX2_addVisitor_18 rfl (by decide) rfl))) (hnd (hlf (ok_aload_n dX2_addVisitor_19 rfl rfl)) (hlf (ok_getf (C := RX2) (T := TX2) dX2_addVisitor_20 rfl rfl (by decide) rfl inX2 wd_80 rfl)))))) (hnd (hnd (hnd (hlf (ok_iconst dX2_addVisitor_23 (by decide) rfl)) (hnd (hlf (ok_dup2 dX2_addVisitor_24 rfl)) (hlf (ok_iald dX2_addVisitor_25 rfl)))) (hnd (hlf (ok_iload_n dX2_addVisitor_26 rfl rfl)) (hnd (hlf (ok_ior dX2_addVisitor_27 rfl)) (hlf (ok_iast dX2_addVisitor_28 rfl))))) (hnd (hnd (hlf (ok_aload_n dX2_addVisitor_29 rfl rfl)) (hnd (hlf (ok_getf (C := RX2) (T := TX2) dX2_addVisitor_30 rfl rfl (by decide) rfl inX2 wd_80 rfl)) (hlf (ok_iload_n dX2_addVisitor_33 rfl rfl)))) (hnd (hnd (hlf (ok_dup2 dX2_addVisitor_34 rfl)) (hlf (ok_iald dX2_addVisitor_35 rfl))) (hnd (hlf (ok_iload_n dX2_addVisitor_36 rfl rfl)) (hlf (ok_ior dX2_addVisitor_37 rfl))))))) (hnd (hnd (hnd (hnd (hlf (ok_iast dX2_addVisitor_38 rfl)) (hnd (hlf (ok_iload_n dX2_addVisitor_39 rfl rfl)) (hlf (ok_iconst dX2_addVisitor_40 (by decide) rfl)))) (hnd (hlf (ok_icmp_ne dX2_addVisitor_41 (by decide) rfl)) (hnd (hlf (ok_aload_n dX2_addVisitor_44 rfl rfl)) (hlf (ok_getf (C := RX2) (T := TX2) dX2_addVisitor_45 rfl rfl (by decide) rfl inX2 wd_80 rfl))))) (hnd (hnd (hlf (ok_iconst dX2_addVisitor_48 (by decide) rfl)) (hnd (hlf (ok_dup2 dX2_addVisitor_49 rfl)) (hlf (ok_iald dX2_addVisitor_50 rfl)))) (hnd (hnd (hlf (ok_iload_n dX2_addVisitor_51 rfl rfl)) (hlf (ok_ior dX2_addVisitor_52 rfl))) (hnd (hlf (ok_iast dX2_addVisitor_53 rfl)) (hlf (ok_aload_n dX2_addVisitor_54 rfl rfl)))))) (hnd (hnd (hnd (hlf (ok_getf (C := RX2) (T := TX2) dX2_addVisitor_55 rfl rfl (by decide) rfl inX2 wd_81 rfl)) (hnd (hlf (ok_aload_n dX2_addVisitor_58 rfl rfl)) (hlf (ok_getf (C := RX2) (T := TX2) dX2_addVisitor_59 rfl rfl (by decide) rfl inX2 wd_82 rfl)))) (hnd (hlf (ok_iload_n dX2_addVisitor_62 rfl rfl)) (hnd (hlf (ok_iast dX2_addVisitor_63 rfl)) (hlf (ok_aload_n dX2_addVisitor_64 rfl rfl))))) (hnd (hnd (hlf (ok_dup dX2_addVisitor_65 rfl)) (hnd (hlf (ok_getf (C := RX2) (T := TX2) dX2_addVisitor_66 rfl rfl (by decide) rfl inX2 wd_82 rfl)) (hlf (ok_dupx1 dX2_addVisitor_69 rfl)))) (hnd (hnd (hlf (ok_iconst dX2_addVisitor_70 (by decide) rfl)) (hlf (ok_iadd dX2_addVisitor_71 rfl))) (hnd (hlf (ok_putf (C := RX2) (T := TX2) dX2_addVisitor_72 rfl rfl (by decide) rfl inX2 tyX2_ok nmX2 rfl rfl (fun _ _ => rfl) wd_82 rfl)) (hlf (ok_iret dX2_addVisitor_75)))))))

set_option maxRecDepth 100000 in
theorem vc_X2_addVisitor : MVC ins_X2_addVisitor 4 3 sp_X2_addVisitor := by
  refine mvc0 90 fun as w σ q hl hs => ?_
  unfold sp_X2_addVisitor at hs
  split at hs
  rotate_left
  · exact hs.elim
  rename_i k y
  obtain ⟨nv, kn, hn, hsz, hk, rfl, h1, h2⟩ := hs
  have ik : vp_in (nI kn) 4 := vp_in_nI hk (by decide)
  have i0 : vp_in (0 : Int32) 4 := vp_in_nI (n := 0) (N := 4) (by decide) (by decide)
  have i1 : vp_in (1 : Int32) 4 := vp_in_nI (n := 1) (N := 4) (by decide) (by decide)
  apply br2
  · intro h
    have hlt : nv < 14 := by
      have h : σ 2 0 4 < 14 := h
      rw [hsz] at h
      exact (nI_ltI (by omega) (by decide)).mp h
    have h1 := h1 hlt
    have iv : vp_in (σ 2 0 4) 14 := by rw [hsz]; exact vp_in_nI hlt (by decide)
    refine And.intro i0 (And.intro i0 (And.intro ik (And.intro ik ?_)))
    apply br2
    · intro h3
      have e : nI kn = 3 := h3
      dsimp only [avS] at h1
      rw [if_pos e] at h1
      exact And.intro i1 (And.intro i1 (And.intro iv h1))
    · intro h3
      have e : ¬ nI kn = 3 := h3
      dsimp only [avS] at h1
      rw [if_neg e] at h1
      exact And.intro iv h1
  · intro h
    have hlt : ¬ nv < 14 := fun q => h (by show σ 2 0 4 < 14; rw [hsz]; exact (nI_ltI (by omega) (by decide)).mpr q)
    exact h2 hlt
theorem ct_X2_addVisitor : Ctr yX2_addVisitor cX2_addVisitor 4 (some .int) 1 0 0 3 sp_X2_addVisitor := ctr_of (by decide +kernel) rfl (by decide) ok_X2_addVisitor vc_X2_addVisitor
end
section
/-! VisitHall.Gate, 1 -/
noncomputable def cif {α : Type} (c : Prop) (a b : α) : α := @ite α c (Classical.propDecidable c) a b
theorem cif_p {α : Type} {c : Prop} {a b : α} (h : c) : cif c a b = a := by unfold cif; exact if_pos h
theorem cif_n {α : Type} {c : Prop} {a b : α} (h : ¬ c) : cif c a b = b := by unfold cif; exact if_neg h
theorem cif_cg {α : Type} {c d : Prop} {a b a' b' : α} (h : c ↔ d) (ha : a = a') (hb : b = b') : cif c a b = cif d a' b' := by
  subst ha hb
  by_cases q : c
  · rw [cif_p q, cif_p (h.mp q)]
  · rw [cif_n q, cif_n (fun z => q (h.mpr z))]
def tbC (σ : HS) (day : Int32) : Int32 := if 0 ≤ day ∧ day < σ 7 0 1 then (if 0 ≤ σ 12 1 day.toNatClampNeg ∧ σ 12 1 day.toNatClampNeg < 7 then σ 12 1 day.toNatClampNeg else 0) else σ 1 0 4
def sp_X1_tablesOn : HSp := fun as w σ K => match as with
  | [.inr (.inl (1, some 0)), .inl day] => σ 7 0 1 ≤ 60 ∧ K (some (HI (tbC σ day))) w σ
  | _ => False
theorem in60 {x z : Int32} (h : 0 ≤ x ∧ x < z) (hz : z ≤ 60) : vp_in x 60 := by
  obtain ⟨i, hi, rfl⟩ := in_of (x := x) (n := 60) ⟨h.1, Int32.lt_of_lt_of_le h.2 hz⟩
  exact vp_in_nI hi (by decide)
theorem dX1_tablesOn_0 : decode cX1_tablesOn 0 = .ok (.aload_n 0, 1) := by decide +kernel
theorem dX1_tablesOn_1 : decode cX1_tablesOn 1 = .ok (.getfield 33, 3) := by decide +kernel
theorem dX1_tablesOn_4 : decode cX1_tablesOn 4 = .ok (.iload_n 1, 1) := by decide +kernel
theorem dX1_tablesOn_5 : decode cX1_tablesOn 5 = .ok (.invokevirtual 37, 3) := by decide +kernel
theorem dX1_tablesOn_8 : decode cX1_tablesOn 8 = .ok (.ifCond .ne 8, 3) := by decide +kernel
theorem dX1_tablesOn_11 : decode cX1_tablesOn 11 = .ok (.aload_n 0, 1) := by decide +kernel
theorem dX1_tablesOn_12 : decode cX1_tablesOn 12 = .ok (.getfield 11, 3) := by decide +kernel
theorem dX1_tablesOn_15 : decode cX1_tablesOn 15 = .ok (.ireturn, 1) := by decide +kernel
theorem dX1_tablesOn_16 : decode cX1_tablesOn 16 = .ok (.aload_n 0, 1) := by decide +kernel
theorem dX1_tablesOn_17 : decode cX1_tablesOn 17 = .ok (.getfield 33, 3) := by decide +kernel
theorem dX1_tablesOn_20 : decode cX1_tablesOn 20 = .ok (.getfield 43, 3) := by decide +kernel
theorem dX1_tablesOn_23 : decode cX1_tablesOn 23 = .ok (.iload_n 1, 1) := by decide +kernel
theorem dX1_tablesOn_24 : decode cX1_tablesOn 24 = .ok (.baload, 1) := by decide +kernel
theorem dX1_tablesOn_25 : decode cX1_tablesOn 25 = .ok (.istore_n 2, 1) := by decide +kernel
theorem dX1_tablesOn_26 : decode cX1_tablesOn 26 = .ok (.iload_n 2, 1) := by decide +kernel
theorem dX1_tablesOn_27 : decode cX1_tablesOn 27 = .ok (.bipush 7, 2) := by decide +kernel
theorem dX1_tablesOn_29 : decode cX1_tablesOn 29 = .ok (.invokestatic 47, 3) := by decide +kernel
theorem dX1_tablesOn_32 : decode cX1_tablesOn 32 = .ok (.ifCond .eq 7, 3) := by decide +kernel
theorem dX1_tablesOn_35 : decode cX1_tablesOn 35 = .ok (.iload_n 2, 1) := by decide +kernel
theorem dX1_tablesOn_36 : decode cX1_tablesOn 36 = .ok (.goto 4, 3) := by decide +kernel
theorem dX1_tablesOn_39 : decode cX1_tablesOn 39 = .ok (.iconst 0, 1) := by decide +kernel
theorem dX1_tablesOn_40 : decode cX1_tablesOn 40 = .ok (.ireturn, 1) := by decide +kernel
def ins_X1_tablesOn (pc : Nat) : HOp := cond (Nat.blt pc 23) (cond (Nat.blt pc 11) (cond (Nat.blt pc 4) (cond (Nat.blt pc 1) (cond (Nat.beq pc 0) (o_aload 0 1) o_bad) (cond (Nat.beq pc 1) (o_getf 1 3 4) o_bad)) (cond (Nat.blt pc 5) (cond (Nat.beq pc 4) (o_iload 1 5) o_bad) (cond (Nat.blt pc 8) (cond (Nat.beq pc 5) (o_callV 2 7 sp_X7_has 8) o_bad) (cond (Nat.beq pc 8) (o_if (fun x => x = 0) 11 16) o_bad)))) (cond (Nat.blt pc 16) (cond (Nat.blt pc 12) (cond (Nat.beq pc 11) (o_aload 0 12) o_bad) (cond (Nat.blt pc 15) (cond (Nat.beq pc 12) (o_getf 1 4 15) o_bad) (cond (Nat.beq pc 15) (o_iret) o_bad))) (cond (Nat.blt pc 17) (cond (Nat.beq pc 16) (o_aload 0 17) o_bad) (cond (Nat.blt pc 20) (cond (Nat.beq pc 17) (o_getf 1 3 20) o_bad) (cond (Nat.beq pc 20) (o_getf 7 0 23) o_bad))))) (cond (Nat.blt pc 29) (cond (Nat.blt pc 25) (cond (Nat.blt pc 24) (cond (Nat.beq pc 23) (o_iload 1 24) o_bad) (cond (Nat.beq pc 24) (o_bald 25) o_bad)) (cond (Nat.blt pc 26) (cond (Nat.beq pc 25) (o_istore 2 26) o_bad) (cond (Nat.blt pc 27) (cond (Nat.beq pc 26) (o_iload 2 27) o_bad) (cond (Nat.beq pc 27) (o_const (7) 29) o_bad)))) (cond (Nat.blt pc 36) (cond (Nat.blt pc 32) (cond (Nat.beq pc 29) (o_callS 2 sp_X10_isBelow 32) o_bad) (cond (Nat.blt pc 35) (cond (Nat.beq pc 32) (o_if (fun x => x = 0) 39 35) o_bad) (cond (Nat.beq pc 35) (o_iload 2 36) o_bad))) (cond (Nat.blt pc 39) (cond (Nat.beq pc 36) (o_goto 40) o_bad) (cond (Nat.blt pc 40) (cond (Nat.beq pc 39) (o_const (0) 40) o_bad) (cond (Nat.beq pc 40) (o_iret) o_bad)))))
set_option maxRecDepth 20000 in
theorem ok_X1_tablesOn : HOKs cX1_tablesOn RX1 3 (some .int) 3 ins_X1_tablesOn := fun _ => hnd (hnd (hnd (hnd (hlf (ok_aload_n dX1_tablesOn_0 rfl rfl)) (hlf (ok_getf (C := RX1) (T := TX1) dX1_tablesOn_1 rfl rfl (by decide) rfl inX1 wd_189 rfl))) (hnd (hlf (ok_iload_n dX1_tablesOn_4 rfl rfl)) (hnd (hlf (ok_callV (y := yX7_has) (n' := 1) (C := RX7) (T := TX7) dX1_tablesOn_5 ct_X7_has (by decide) (by decide) wd_504 wd_501 wd_502 wd_503 wd_47 rfl (by decide +kernel) rfl rfl rfl)) (hlf (ok_if_ne dX1_tablesOn_8 (by decide) rfl))))) (hnd (hnd (hlf (ok_aload_n dX1_tablesOn_11 rfl rfl)) (hnd (hlf (ok_getf (C := RX1) (T := TX1) dX1_tablesOn_12 rfl rfl (by decide) rfl inX1 wd_190 rfl)) (hlf (ok_iret dX1_tablesOn_15)))) (hnd (hlf (ok_aload_n dX1_tablesOn_16 rfl rfl)) (hnd (hlf (ok_getf (C := RX1) (T := TX1) dX1_tablesOn_17 rfl rfl (by decide) rfl inX1 wd_189 rfl)) (hlf (ok_getfN (C := RX7) (T := TX7) dX1_tablesOn_20 rfl rfl (by decide) rfl inX7 wd_171 rfl)))))) (hnd (hnd (hnd (hlf (ok_iload_n dX1_tablesOn_23 rfl rfl)) (hlf (ok_bald dX1_tablesOn_24 rfl))) (hnd (hlf (ok_istore_n dX1_tablesOn_25 rfl (by decide) rfl)) (hnd (hlf (ok_iload_n dX1_tablesOn_26 rfl rfl)) (hlf (ok_bipush dX1_tablesOn_27 (by decide) rfl))))) (hnd (hnd (hlf (ok_callSN (y := yX10_isBelow) dX1_tablesOn_29 ct_X10_isBelow (by decide) (by decide) wd_320 wd_442 wd_319 wd_42 (by decide +kernel) rfl)) (hnd (hlf (ok_if_eq dX1_tablesOn_32 (by decide) rfl)) (hlf (ok_iload_n dX1_tablesOn_35 rfl rfl)))) (hnd (hlf (ok_goto dX1_tablesOn_36 (by decide))) (hnd (hlf (ok_iconst dX1_tablesOn_39 (by decide) rfl)) (hlf (ok_iret dX1_tablesOn_40))))))

theorem vc_X1_tablesOn : MVC ins_X1_tablesOn 3 2 sp_X1_tablesOn := by
  refine mvc0 60 fun as w σ q hl hs => ?_
  unfold sp_X1_tablesOn at hs
  split at hs
  rotate_left
  · exact hs.elim
  rename_i day
  obtain ⟨hz, hs⟩ := hs
  unfold tbC at hs
  apply br2
  · intro h
    have h : 0 ≤ day ∧ day < σ 7 0 1 := h
    rw [if_pos h] at hs
    refine And.intro (fun h => absurd h (by decide)) (fun _ => ?_)
    refine And.intro (in60 h hz) ?_
    apply br2
    · intro h2
      have h2 : 0 ≤ σ 12 1 day.toNatClampNeg ∧ σ 12 1 day.toNatClampNeg < 7 := h2
      rw [if_pos h2] at hs
      exact And.intro (fun h => absurd h (by decide)) (fun _ => hs)
    · intro h2
      have h2 : ¬ (0 ≤ σ 12 1 day.toNatClampNeg ∧ σ 12 1 day.toNatClampNeg < 7) := h2
      rw [if_neg h2] at hs
      exact And.intro (fun _ => hs) (fun h => absurd rfl h)
  · intro h
    have h : ¬ (0 ≤ day ∧ day < σ 7 0 1) := h
    rw [if_neg h] at hs
    exact And.intro (fun _ => hs) (fun h => absurd rfl h)
theorem ct_X1_tablesOn : Ctr yX1_tablesOn cX1_tablesOn 3 (some .int) 3 0 0 2 sp_X1_tablesOn := ctr_of (by decide +kernel) rfl (by decide) ok_X1_tablesOn vc_X1_tablesOn

theorem nI_inj {a b : Nat} (h : nI a = nI b) (ha : a < 2 ^ 31 := by omega) (hb : b < 2 ^ 31 := by omega) : a = b := (nI_eq ha hb).mp h
theorem pa_in {w : HW} {σ : HS} {np p : Nat} {x : Int32} (hP : Pk w σ np) (hp : p < np) (hx : x = nI p) : 0 ≤ x ∧ x < nI np := by
  have h10 := hP.1
  rw [hx]
  exact ⟨nI_pos' (by omega), nI_lt hp (by omega)⟩
theorem pa_eq {w : HW} {σ : HS} {np p i : Nat} {x : Int32} (hP : Pk w σ np) (hp : p < np) (hx : x = nI p) (hi : i < np) (e : x = nI i) : i = p := by
  have h10 := hP.1
  exact nI_inj (e.symm.trans hx)
abbrev baC (σ : HS) (v p : Nat) : Prop := ∃ u, u < 14 ∧ bt1 (σ 9 v 1) u ∧ ¬ σ 9 v 2 < σ 13 (p + 4) u
noncomputable def rpC (σ : HS) (v p : Nat) : Int32 := cif (σ 3 p 2 = 0) 1 (cif (¬ liC σ p (σ 9 v 1)) 2 (cif (baC σ v p) 3 (cif (nkC σ (σ 9 v 1)) 4 0)))
def sp_X1_reasonOfPeople : HSp := fun as w σ K => match as with
  | [.inr (.inl (1, some 0)), .inr (.inl (9, some v))] => ∃ np p, Pk w σ np ∧ p < np ∧ σ 9 v 0 = nI p ∧ K (some (HI (rpC σ v p))) w σ
  | _ => False
theorem dX1_reasonOfPeople_0 : decode cX1_reasonOfPeople 0 = .ok (.aload_n 0, 1) := by decide +kernel
theorem dX1_reasonOfPeople_1 : decode cX1_reasonOfPeople 1 = .ok (.getfield 21, 3) := by decide +kernel
theorem dX1_reasonOfPeople_4 : decode cX1_reasonOfPeople 4 = .ok (.aload_n 1, 1) := by decide +kernel
theorem dX1_reasonOfPeople_5 : decode cX1_reasonOfPeople 5 = .ok (.getfield 102, 3) := by decide +kernel
theorem dX1_reasonOfPeople_8 : decode cX1_reasonOfPeople 8 = .ok (.invokevirtual 105, 3) := by decide +kernel
theorem dX1_reasonOfPeople_11 : decode cX1_reasonOfPeople 11 = .ok (.astore_n 2, 1) := by decide +kernel
theorem dX1_reasonOfPeople_12 : decode cX1_reasonOfPeople 12 = .ok (.aload_n 2, 1) := by decide +kernel
theorem dX1_reasonOfPeople_13 : decode cX1_reasonOfPeople 13 = .ok (.ifnull 10, 3) := by decide +kernel
theorem dX1_reasonOfPeople_16 : decode cX1_reasonOfPeople 16 = .ok (.aload_n 2, 1) := by decide +kernel
theorem dX1_reasonOfPeople_17 : decode cX1_reasonOfPeople 17 = .ok (.getfield 111, 3) := by decide +kernel
theorem dX1_reasonOfPeople_20 : decode cX1_reasonOfPeople 20 = .ok (.ifCond .ne 5, 3) := by decide +kernel
theorem dX1_reasonOfPeople_23 : decode cX1_reasonOfPeople 23 = .ok (.iconst 1, 1) := by decide +kernel
theorem dX1_reasonOfPeople_24 : decode cX1_reasonOfPeople 24 = .ok (.ireturn, 1) := by decide +kernel
theorem dX1_reasonOfPeople_25 : decode cX1_reasonOfPeople 25 = .ok (.aload_n 0, 1) := by decide +kernel
theorem dX1_reasonOfPeople_26 : decode cX1_reasonOfPeople 26 = .ok (.getfield 21, 3) := by decide +kernel
theorem dX1_reasonOfPeople_29 : decode cX1_reasonOfPeople 29 = .ok (.aload_n 2, 1) := by decide +kernel
theorem dX1_reasonOfPeople_30 : decode cX1_reasonOfPeople 30 = .ok (.aload_n 1, 1) := by decide +kernel
theorem dX1_reasonOfPeople_31 : decode cX1_reasonOfPeople 31 = .ok (.getfield 116, 3) := by decide +kernel
theorem dX1_reasonOfPeople_34 : decode cX1_reasonOfPeople 34 = .ok (.invokevirtual 119, 3) := by decide +kernel
theorem dX1_reasonOfPeople_37 : decode cX1_reasonOfPeople 37 = .ok (.ifCond .ne 5, 3) := by decide +kernel
theorem dX1_reasonOfPeople_40 : decode cX1_reasonOfPeople 40 = .ok (.iconst 2, 1) := by decide +kernel
theorem dX1_reasonOfPeople_41 : decode cX1_reasonOfPeople 41 = .ok (.ireturn, 1) := by decide +kernel
theorem dX1_reasonOfPeople_42 : decode cX1_reasonOfPeople 42 = .ok (.aload_n 2, 1) := by decide +kernel
theorem dX1_reasonOfPeople_43 : decode cX1_reasonOfPeople 43 = .ok (.aload_n 1, 1) := by decide +kernel
theorem dX1_reasonOfPeople_44 : decode cX1_reasonOfPeople 44 = .ok (.getfield 116, 3) := by decide +kernel
theorem dX1_reasonOfPeople_47 : decode cX1_reasonOfPeople 47 = .ok (.aload_n 1, 1) := by decide +kernel
theorem dX1_reasonOfPeople_48 : decode cX1_reasonOfPeople 48 = .ok (.getfield 89, 3) := by decide +kernel
theorem dX1_reasonOfPeople_51 : decode cX1_reasonOfPeople 51 = .ok (.invokevirtual 123, 3) := by decide +kernel
theorem dX1_reasonOfPeople_54 : decode cX1_reasonOfPeople 54 = .ok (.ifCond .eq 5, 3) := by decide +kernel
theorem dX1_reasonOfPeople_57 : decode cX1_reasonOfPeople 57 = .ok (.iconst 3, 1) := by decide +kernel
theorem dX1_reasonOfPeople_58 : decode cX1_reasonOfPeople 58 = .ok (.ireturn, 1) := by decide +kernel
theorem dX1_reasonOfPeople_59 : decode cX1_reasonOfPeople 59 = .ok (.aload_n 0, 1) := by decide +kernel
theorem dX1_reasonOfPeople_60 : decode cX1_reasonOfPeople 60 = .ok (.getfield 21, 3) := by decide +kernel
theorem dX1_reasonOfPeople_63 : decode cX1_reasonOfPeople 63 = .ok (.aload_n 1, 1) := by decide +kernel
theorem dX1_reasonOfPeople_64 : decode cX1_reasonOfPeople 64 = .ok (.getfield 116, 3) := by decide +kernel
theorem dX1_reasonOfPeople_67 : decode cX1_reasonOfPeople 67 = .ok (.invokevirtual 126, 3) := by decide +kernel
theorem dX1_reasonOfPeople_70 : decode cX1_reasonOfPeople 70 = .ok (.ifCond .eq 7, 3) := by decide +kernel
theorem dX1_reasonOfPeople_73 : decode cX1_reasonOfPeople 73 = .ok (.iconst 4, 1) := by decide +kernel
theorem dX1_reasonOfPeople_74 : decode cX1_reasonOfPeople 74 = .ok (.goto 4, 3) := by decide +kernel
theorem dX1_reasonOfPeople_77 : decode cX1_reasonOfPeople 77 = .ok (.iconst 0, 1) := by decide +kernel
theorem dX1_reasonOfPeople_78 : decode cX1_reasonOfPeople 78 = .ok (.ireturn, 1) := by decide +kernel
def ins_X1_reasonOfPeople (pc : Nat) : HOp := cond (Nat.blt pc 40) (cond (Nat.blt pc 20) (cond (Nat.blt pc 11) (cond (Nat.blt pc 4) (cond (Nat.blt pc 1) (cond (Nat.beq pc 0) (o_aload 0 1) o_bad) (cond (Nat.beq pc 1) (o_getf 1 0 4) o_bad)) (cond (Nat.blt pc 5) (cond (Nat.beq pc 4) (o_aload 1 5) o_bad) (cond (Nat.blt pc 8) (cond (Nat.beq pc 5) (o_getf 9 0 8) o_bad) (cond (Nat.beq pc 8) (o_callV 2 2 sp_X2_prisonerAt 11) o_bad)))) (cond (Nat.blt pc 13) (cond (Nat.blt pc 12) (cond (Nat.beq pc 11) (o_astore 2 12) o_bad) (cond (Nat.beq pc 12) (o_aload 2 13) o_bad)) (cond (Nat.blt pc 16) (cond (Nat.beq pc 13) (o_ifnull 23 16) o_bad) (cond (Nat.blt pc 17) (cond (Nat.beq pc 16) (o_aload 2 17) o_bad) (cond (Nat.beq pc 17) (o_getf 3 2 20) o_bad))))) (cond (Nat.blt pc 29) (cond (Nat.blt pc 24) (cond (Nat.blt pc 23) (cond (Nat.beq pc 20) (o_if (fun x => x = 0) 23 25) o_bad) (cond (Nat.beq pc 23) (o_const (1) 24) o_bad)) (cond (Nat.blt pc 25) (cond (Nat.beq pc 24) (o_iret) o_bad) (cond (Nat.blt pc 26) (cond (Nat.beq pc 25) (o_aload 0 26) o_bad) (cond (Nat.beq pc 26) (o_getf 1 0 29) o_bad)))) (cond (Nat.blt pc 31) (cond (Nat.blt pc 30) (cond (Nat.beq pc 29) (o_aload 2 30) o_bad) (cond (Nat.beq pc 30) (o_aload 1 31) o_bad)) (cond (Nat.blt pc 34) (cond (Nat.beq pc 31) (o_getf 9 1 34) o_bad) (cond (Nat.blt pc 37) (cond (Nat.beq pc 34) (o_callV 3 2 sp_X2_areListed 37) o_bad) (cond (Nat.beq pc 37) (o_if (fun x => x = 0) 40 42) o_bad)))))) (cond (Nat.blt pc 58) (cond (Nat.blt pc 47) (cond (Nat.blt pc 42) (cond (Nat.blt pc 41) (cond (Nat.beq pc 40) (o_const (2) 41) o_bad) (cond (Nat.beq pc 41) (o_iret) o_bad)) (cond (Nat.blt pc 43) (cond (Nat.beq pc 42) (o_aload 2 43) o_bad) (cond (Nat.blt pc 44) (cond (Nat.beq pc 43) (o_aload 1 44) o_bad) (cond (Nat.beq pc 44) (o_getf 9 1 47) o_bad)))) (cond (Nat.blt pc 51) (cond (Nat.blt pc 48) (cond (Nat.beq pc 47) (o_aload 1 48) o_bad) (cond (Nat.beq pc 48) (o_getf 9 2 51) o_bad)) (cond (Nat.blt pc 54) (cond (Nat.beq pc 51) (o_callV 3 3 sp_X3_isBarred 54) o_bad) (cond (Nat.blt pc 57) (cond (Nat.beq pc 54) (o_if (fun x => x = 0) 59 57) o_bad) (cond (Nat.beq pc 57) (o_const (3) 58) o_bad))))) (cond (Nat.blt pc 67) (cond (Nat.blt pc 60) (cond (Nat.blt pc 59) (cond (Nat.beq pc 58) (o_iret) o_bad) (cond (Nat.beq pc 59) (o_aload 0 60) o_bad)) (cond (Nat.blt pc 63) (cond (Nat.beq pc 60) (o_getf 1 0 63) o_bad) (cond (Nat.blt pc 64) (cond (Nat.beq pc 63) (o_aload 1 64) o_bad) (cond (Nat.beq pc 64) (o_getf 9 1 67) o_bad)))) (cond (Nat.blt pc 74) (cond (Nat.blt pc 70) (cond (Nat.beq pc 67) (o_callV 2 2 sp_X2_needsKin 70) o_bad) (cond (Nat.blt pc 73) (cond (Nat.beq pc 70) (o_if (fun x => x = 0) 77 73) o_bad) (cond (Nat.beq pc 73) (o_const (4) 74) o_bad))) (cond (Nat.blt pc 77) (cond (Nat.beq pc 74) (o_goto 78) o_bad) (cond (Nat.blt pc 78) (cond (Nat.beq pc 77) (o_const (0) 78) o_bad) (cond (Nat.beq pc 78) (o_iret) o_bad))))))
set_option maxRecDepth 20000 in
theorem ok_X1_reasonOfPeople : HOKs cX1_reasonOfPeople RX1 3 (some .int) 3 ins_X1_reasonOfPeople := fun _ => hnd (hnd (hnd (hnd (hnd (hlf (ok_aload_n dX1_reasonOfPeople_0 rfl rfl)) (hlf (ok_getf (C := RX1) (T := TX1) dX1_reasonOfPeople_1 rfl rfl (by decide) rfl inX1 wd_186 rfl))) (hnd (hlf (ok_aload_n dX1_reasonOfPeople_4 rfl rfl)) (hnd (hlf (ok_getfN (C := RX9) (T := TX9) dX1_reasonOfPeople_5 rfl rfl (by decide) rfl inX9 wd_236 rfl)) (hlf (ok_callV (y := yX2_prisonerAt) (n' := 1) (C := RX2) (T := TX2) dX1_reasonOfPeople_8 ct_X2_prisonerAt (by decide) (by decide) wd_387 wd_425 wd_385 wd_386 wd_43 rfl (by decide +kernel) rfl rfl rfl))))) (hnd (hnd (hlf (ok_astore_n dX1_reasonOfPeople_11 rfl (by decide) rfl)) (hlf (ok_aload_n dX1_reasonOfPeople_12 rfl rfl))) (hnd (hlf (ok_ifnull dX1_reasonOfPeople_13 (by decide) rfl)) (hnd (hlf (ok_aload_n dX1_reasonOfPeople_16 rfl rfl)) (hlf (ok_getfN (C := RX3) (T := TX3) dX1_reasonOfPeople_17 rfl rfl (by decide) rfl inX3 wd_342 rfl)))))) (hnd (hnd (hnd (hlf (ok_if_ne dX1_reasonOfPeople_20 (by decide) rfl)) (hlf (ok_iconst dX1_reasonOfPeople_23 (by decide) rfl))) (hnd (hlf (ok_iret dX1_reasonOfPeople_24)) (hnd (hlf (ok_aload_n dX1_reasonOfPeople_25 rfl rfl)) (hlf (ok_getf (C := RX1) (T := TX1) dX1_reasonOfPeople_26 rfl rfl (by decide) rfl inX1 wd_186 rfl))))) (hnd (hnd (hlf (ok_aload_n dX1_reasonOfPeople_29 rfl rfl)) (hlf (ok_aload_n dX1_reasonOfPeople_30 rfl rfl))) (hnd (hlf (ok_getfN (C := RX9) (T := TX9) dX1_reasonOfPeople_31 rfl rfl (by decide) rfl inX9 wd_241 rfl)) (hnd (hlf (ok_callV (y := yX2_areListed) (n' := 2) (C := RX2) (T := TX2) dX1_reasonOfPeople_34 ct_X2_areListed (by decide) (by decide) wd_429 wd_426 wd_427 wd_428 wd_43 rfl (by decide +kernel) rfl rfl rfl)) (hlf (ok_if_ne dX1_reasonOfPeople_37 (by decide) rfl))))))) (hnd (hnd (hnd (hnd (hlf (ok_iconst dX1_reasonOfPeople_40 (by decide) rfl)) (hlf (ok_iret dX1_reasonOfPeople_41))) (hnd (hlf (ok_aload_n dX1_reasonOfPeople_42 rfl rfl)) (hnd (hlf (ok_aload_n dX1_reasonOfPeople_43 rfl rfl)) (hlf (ok_getfN (C := RX9) (T := TX9) dX1_reasonOfPeople_44 rfl rfl (by decide) rfl inX9 wd_241 rfl))))) (hnd (hnd (hlf (ok_aload_n dX1_reasonOfPeople_47 rfl rfl)) (hlf (ok_getfN (C := RX9) (T := TX9) dX1_reasonOfPeople_48 rfl rfl (by decide) rfl inX9 wd_247 rfl))) (hnd (hlf (ok_callV (y := yX3_isBarred) (n' := 2) (C := RX3) (T := TX3) dX1_reasonOfPeople_51 ct_X3_isBarred (by decide) (by decide) wd_433 wd_430 wd_431 wd_432 wd_52 rfl (by decide +kernel) rfl rfl rfl)) (hnd (hlf (ok_if_eq dX1_reasonOfPeople_54 (by decide) rfl)) (hlf (ok_iconst dX1_reasonOfPeople_57 (by decide) rfl)))))) (hnd (hnd (hnd (hlf (ok_iret dX1_reasonOfPeople_58)) (hlf (ok_aload_n dX1_reasonOfPeople_59 rfl rfl))) (hnd (hlf (ok_getf (C := RX1) (T := TX1) dX1_reasonOfPeople_60 rfl rfl (by decide) rfl inX1 wd_186 rfl)) (hnd (hlf (ok_aload_n dX1_reasonOfPeople_63 rfl rfl)) (hlf (ok_getfN (C := RX9) (T := TX9) dX1_reasonOfPeople_64 rfl rfl (by decide) rfl inX9 wd_241 rfl))))) (hnd (hnd (hlf (ok_callV (y := yX2_needsKin) (n' := 1) (C := RX2) (T := TX2) dX1_reasonOfPeople_67 ct_X2_needsKin (by decide) (by decide) wd_437 wd_434 wd_435 wd_436 wd_43 rfl (by decide +kernel) rfl rfl rfl)) (hnd (hlf (ok_if_eq dX1_reasonOfPeople_70 (by decide) rfl)) (hlf (ok_iconst dX1_reasonOfPeople_73 (by decide) rfl)))) (hnd (hlf (ok_goto dX1_reasonOfPeople_74 (by decide))) (hnd (hlf (ok_iconst dX1_reasonOfPeople_77 (by decide) rfl)) (hlf (ok_iret dX1_reasonOfPeople_78)))))))

theorem vc_X1_reasonOfPeople : MVC ins_X1_reasonOfPeople 3 2 sp_X1_reasonOfPeople := by
  refine mvc0 80 fun as w σ q hl hs => ?_
  unfold sp_X1_reasonOfPeople at hs
  split at hs
  rotate_left
  · exact hs.elim
  rename_i v
  obtain ⟨np, p, hP, hp, hv, hs⟩ := hs
  unfold rpC at hs
  refine ⟨np, hP, fun i hi e => ?_, fun h => absurd (pa_in hP hp hv) h⟩
  obtain rfl := pa_eq hP hp hv hi e
  apply br2
  · intro h1
    rw [cif_p h1] at hs
    exact hs
  intro h1
  rw [cif_n h1] at hs
  apply br2
  rotate_left
  · intro h2
    rw [cif_p h2] at hs
    exact And.intro (fun _ => hs) (fun h => absurd rfl h)
  intro h2
  rw [cif_n (not_not_intro h2)] at hs
  refine And.intro (fun h => absurd h (by decide)) (fun _ => ?_)
  apply br2
  · intro h3
    rw [cif_p h3] at hs
    exact And.intro (fun h => absurd h (by decide)) (fun _ => hs)
  intro h3
  rw [cif_n h3] at hs
  refine And.intro (fun _ => ?_) (fun h => absurd rfl h)
  apply br2
  · intro h4
    rw [cif_p h4] at hs
    exact And.intro (fun h => absurd h (by decide)) (fun _ => hs)
  · intro h4
    rw [cif_n h4] at hs
    exact And.intro (fun _ => hs) (fun h => absurd rfl h)
theorem ct_X1_reasonOfPeople : Ctr yX1_reasonOfPeople cX1_reasonOfPeople 3 (some .int) 3 0 0 2 sp_X1_reasonOfPeople := ctr_of (by decide +kernel) rfl (by decide) ok_X1_reasonOfPeople vc_X1_reasonOfPeople

/-- rivals: the families of prisoner p and of visit i's prisoner -/
abbrev rvI (σ : HS) (p i : Nat) : Prop := σ 13 2 (σ 3 p 1).toNatClampNeg >>> (σ 3 (σ 9 i 0).toNatClampNeg 1 &&& 31) &&& 1 = 1
def sp_X1_areOfRivals : HSp := fun as w σ K => match as with
  | [.inr (.inl (1, some 0)), .inr (.inl (9, some v)), .inr (.inl (9, some u))] => ∃ np p q f, Pk w σ np ∧ p < np ∧ q < np ∧ σ 9 v 0 = nI p ∧ σ 9 u 0 = nI q ∧ f < 10 ∧ σ 3 p 1 = nI f ∧ spZ (rvI σ p u) w σ K
  | _ => False
theorem dX1_areOfRivals_0 : decode cX1_areOfRivals 0 = .ok (.aload_n 0, 1) := by decide +kernel
theorem dX1_areOfRivals_1 : decode cX1_areOfRivals 1 = .ok (.getfield 21, 3) := by decide +kernel
theorem dX1_areOfRivals_4 : decode cX1_areOfRivals 4 = .ok (.aload_n 1, 1) := by decide +kernel
theorem dX1_areOfRivals_5 : decode cX1_areOfRivals 5 = .ok (.getfield 102, 3) := by decide +kernel
theorem dX1_areOfRivals_8 : decode cX1_areOfRivals 8 = .ok (.invokevirtual 105, 3) := by decide +kernel
theorem dX1_areOfRivals_11 : decode cX1_areOfRivals 11 = .ok (.astore_n 3, 1) := by decide +kernel
theorem dX1_areOfRivals_12 : decode cX1_areOfRivals 12 = .ok (.aload_n 0, 1) := by decide +kernel
theorem dX1_areOfRivals_13 : decode cX1_areOfRivals 13 = .ok (.getfield 21, 3) := by decide +kernel
theorem dX1_areOfRivals_16 : decode cX1_areOfRivals 16 = .ok (.aload_n 2, 1) := by decide +kernel
theorem dX1_areOfRivals_17 : decode cX1_areOfRivals 17 = .ok (.getfield 102, 3) := by decide +kernel
theorem dX1_areOfRivals_20 : decode cX1_areOfRivals 20 = .ok (.invokevirtual 105, 3) := by decide +kernel
theorem dX1_areOfRivals_23 : decode cX1_areOfRivals 23 = .ok (.astore 4, 2) := by decide +kernel
theorem dX1_areOfRivals_25 : decode cX1_areOfRivals 25 = .ok (.aload_n 3, 1) := by decide +kernel
theorem dX1_areOfRivals_26 : decode cX1_areOfRivals 26 = .ok (.ifnull 31, 3) := by decide +kernel
theorem dX1_areOfRivals_29 : decode cX1_areOfRivals 29 = .ok (.aload 4, 2) := by decide +kernel
theorem dX1_areOfRivals_31 : decode cX1_areOfRivals 31 = .ok (.ifnull 26, 3) := by decide +kernel
theorem dX1_areOfRivals_34 : decode cX1_areOfRivals 34 = .ok (.aload_n 0, 1) := by decide +kernel
theorem dX1_areOfRivals_35 : decode cX1_areOfRivals 35 = .ok (.getfield 21, 3) := by decide +kernel
theorem dX1_areOfRivals_38 : decode cX1_areOfRivals 38 = .ok (.aload_n 3, 1) := by decide +kernel
theorem dX1_areOfRivals_39 : decode cX1_areOfRivals 39 = .ok (.getfield 197, 3) := by decide +kernel
theorem dX1_areOfRivals_42 : decode cX1_areOfRivals 42 = .ok (.aload 4, 2) := by decide +kernel
theorem dX1_areOfRivals_44 : decode cX1_areOfRivals 44 = .ok (.getfield 197, 3) := by decide +kernel
theorem dX1_areOfRivals_47 : decode cX1_areOfRivals 47 = .ok (.invokevirtual 200, 3) := by decide +kernel
theorem dX1_areOfRivals_50 : decode cX1_areOfRivals 50 = .ok (.ifCond .eq 7, 3) := by decide +kernel
theorem dX1_areOfRivals_53 : decode cX1_areOfRivals 53 = .ok (.iconst 1, 1) := by decide +kernel
theorem dX1_areOfRivals_54 : decode cX1_areOfRivals 54 = .ok (.goto 4, 3) := by decide +kernel
theorem dX1_areOfRivals_57 : decode cX1_areOfRivals 57 = .ok (.iconst 0, 1) := by decide +kernel
theorem dX1_areOfRivals_58 : decode cX1_areOfRivals 58 = .ok (.ireturn, 1) := by decide +kernel
def ins_X1_areOfRivals (pc : Nat) : HOp := cond (Nat.blt pc 29) (cond (Nat.blt pc 13) (cond (Nat.blt pc 5) (cond (Nat.blt pc 1) (cond (Nat.beq pc 0) (o_aload 0 1) o_bad) (cond (Nat.blt pc 4) (cond (Nat.beq pc 1) (o_getf 1 0 4) o_bad) (cond (Nat.beq pc 4) (o_aload 1 5) o_bad))) (cond (Nat.blt pc 11) (cond (Nat.blt pc 8) (cond (Nat.beq pc 5) (o_getf 9 0 8) o_bad) (cond (Nat.beq pc 8) (o_callV 2 2 sp_X2_prisonerAt 11) o_bad)) (cond (Nat.blt pc 12) (cond (Nat.beq pc 11) (o_astore 3 12) o_bad) (cond (Nat.beq pc 12) (o_aload 0 13) o_bad)))) (cond (Nat.blt pc 20) (cond (Nat.blt pc 16) (cond (Nat.beq pc 13) (o_getf 1 0 16) o_bad) (cond (Nat.blt pc 17) (cond (Nat.beq pc 16) (o_aload 2 17) o_bad) (cond (Nat.beq pc 17) (o_getf 9 0 20) o_bad))) (cond (Nat.blt pc 25) (cond (Nat.blt pc 23) (cond (Nat.beq pc 20) (o_callV 2 2 sp_X2_prisonerAt 23) o_bad) (cond (Nat.beq pc 23) (o_astore 4 25) o_bad)) (cond (Nat.blt pc 26) (cond (Nat.beq pc 25) (o_aload 3 26) o_bad) (cond (Nat.beq pc 26) (o_ifnull 57 29) o_bad))))) (cond (Nat.blt pc 44) (cond (Nat.blt pc 35) (cond (Nat.blt pc 31) (cond (Nat.beq pc 29) (o_aload 4 31) o_bad) (cond (Nat.blt pc 34) (cond (Nat.beq pc 31) (o_ifnull 57 34) o_bad) (cond (Nat.beq pc 34) (o_aload 0 35) o_bad))) (cond (Nat.blt pc 39) (cond (Nat.blt pc 38) (cond (Nat.beq pc 35) (o_getf 1 0 38) o_bad) (cond (Nat.beq pc 38) (o_aload 3 39) o_bad)) (cond (Nat.blt pc 42) (cond (Nat.beq pc 39) (o_getf 3 1 42) o_bad) (cond (Nat.beq pc 42) (o_aload 4 44) o_bad)))) (cond (Nat.blt pc 53) (cond (Nat.blt pc 47) (cond (Nat.beq pc 44) (o_getf 3 1 47) o_bad) (cond (Nat.blt pc 50) (cond (Nat.beq pc 47) (o_callV 3 2 sp_X2_areRivals 50) o_bad) (cond (Nat.beq pc 50) (o_if (fun x => x = 0) 57 53) o_bad))) (cond (Nat.blt pc 57) (cond (Nat.blt pc 54) (cond (Nat.beq pc 53) (o_const (1) 54) o_bad) (cond (Nat.beq pc 54) (o_goto 58) o_bad)) (cond (Nat.blt pc 58) (cond (Nat.beq pc 57) (o_const (0) 58) o_bad) (cond (Nat.beq pc 58) (o_zret) o_bad)))))
set_option maxRecDepth 20000 in
theorem ok_X1_areOfRivals : HOKs cX1_areOfRivals RX1 5 (some .boolean) 3 ins_X1_areOfRivals := fun _ => hnd (hnd (hnd (hnd (hlf (ok_aload_n dX1_areOfRivals_0 rfl rfl)) (hnd (hlf (ok_getf (C := RX1) (T := TX1) dX1_areOfRivals_1 rfl rfl (by decide) rfl inX1 wd_186 rfl)) (hlf (ok_aload_n dX1_areOfRivals_4 rfl rfl)))) (hnd (hnd (hlf (ok_getfN (C := RX9) (T := TX9) dX1_areOfRivals_5 rfl rfl (by decide) rfl inX9 wd_236 rfl)) (hlf (ok_callV (y := yX2_prisonerAt) (n' := 1) (C := RX2) (T := TX2) dX1_areOfRivals_8 ct_X2_prisonerAt (by decide) (by decide) wd_387 wd_425 wd_385 wd_386 wd_43 rfl (by decide +kernel) rfl rfl rfl))) (hnd (hlf (ok_astore_n dX1_areOfRivals_11 rfl (by decide) rfl)) (hlf (ok_aload_n dX1_areOfRivals_12 rfl rfl))))) (hnd (hnd (hlf (ok_getf (C := RX1) (T := TX1) dX1_areOfRivals_13 rfl rfl (by decide) rfl inX1 wd_186 rfl)) (hnd (hlf (ok_aload_n dX1_areOfRivals_16 rfl rfl)) (hlf (ok_getfN (C := RX9) (T := TX9) dX1_areOfRivals_17 rfl rfl (by decide) rfl inX9 wd_236 rfl)))) (hnd (hnd (hlf (ok_callV (y := yX2_prisonerAt) (n' := 1) (C := RX2) (T := TX2) dX1_areOfRivals_20 ct_X2_prisonerAt (by decide) (by decide) wd_387 wd_425 wd_385 wd_386 wd_43 rfl (by decide +kernel) rfl rfl rfl)) (hlf (ok_astore dX1_areOfRivals_23 (by decide) rfl))) (hnd (hlf (ok_aload_n dX1_areOfRivals_25 rfl rfl)) (hlf (ok_ifnull dX1_areOfRivals_26 (by decide) rfl)))))) (hnd (hnd (hnd (hlf (ok_aload dX1_areOfRivals_29 rfl)) (hnd (hlf (ok_ifnull dX1_areOfRivals_31 (by decide) rfl)) (hlf (ok_aload_n dX1_areOfRivals_34 rfl rfl)))) (hnd (hnd (hlf (ok_getf (C := RX1) (T := TX1) dX1_areOfRivals_35 rfl rfl (by decide) rfl inX1 wd_186 rfl)) (hlf (ok_aload_n dX1_areOfRivals_38 rfl rfl))) (hnd (hlf (ok_getfN (C := RX3) (T := TX3) dX1_areOfRivals_39 rfl rfl (by decide) rfl inX3 wd_340 rfl)) (hlf (ok_aload dX1_areOfRivals_42 rfl))))) (hnd (hnd (hlf (ok_getfN (C := RX3) (T := TX3) dX1_areOfRivals_44 rfl rfl (by decide) rfl inX3 wd_340 rfl)) (hnd (hlf (ok_callV (y := yX2_areRivals) (n' := 2) (C := RX2) (T := TX2) dX1_areOfRivals_47 ct_X2_areRivals (by decide) (by decide) wd_496 wd_493 wd_494 wd_495 wd_43 rfl (by decide +kernel) rfl rfl rfl)) (hlf (ok_if_eq dX1_areOfRivals_50 (by decide) rfl)))) (hnd (hnd (hlf (ok_iconst dX1_areOfRivals_53 (by decide) rfl)) (hlf (ok_goto dX1_areOfRivals_54 (by decide)))) (hnd (hlf (ok_iconst dX1_areOfRivals_57 (by decide) rfl)) (hlf (ok_zret dX1_areOfRivals_58))))))

theorem vc_X1_areOfRivals : MVC ins_X1_areOfRivals 5 3 sp_X1_areOfRivals := by
  refine mvc0 80 fun as w σ q hl hs => ?_
  unfold sp_X1_areOfRivals at hs
  split at hs
  rotate_left
  · exact hs.elim
  rename_i v u
  obtain ⟨np, p, q', f, hP, hp, hq, hv, hu, hf, hf2, hs⟩ := hs
  have h10 := hP.1
  have e1 : (σ 9 u 0).toNatClampNeg = q' := by rw [hu]; exact nI_clamp (by omega)
  have e2 : (σ 3 p 1).toNatClampNeg = f := by rw [hf2]; exact nI_clamp (by omega)
  unfold rvI at hs
  rw [e1, e2] at hs
  refine ⟨np, hP, fun i hi e => ?_, fun h => absurd (pa_in hP hp hv) h⟩
  obtain rfl := pa_eq hP hp hv hi e
  refine ⟨np, hP, fun j hj e => ?_, fun h => absurd (pa_in hP hq hu) h⟩
  obtain rfl := pa_eq hP hq hu hj e
  refine ⟨f, hf, hf2, ?_⟩
  apply br2
  · intro h
    exact And.intro (fun h => absurd h (by decide)) (fun _ => ⟨Or.inr rfl, hs.1 h⟩)
  · intro h
    exact And.intro (fun _ => ⟨Or.inl rfl, hs.2 h⟩) (fun h => absurd rfl h)
theorem ct_X1_areOfRivals : Ctr yX1_areOfRivals cX1_areOfRivals 5 (some .boolean) 3 0 0 3 sp_X1_areOfRivals := ctr_of (by decide +kernel) rfl (by decide) ok_X1_areOfRivals vc_X1_areOfRivals

/-- every visit's prisoner is known, every prisoner's family -/
abbrev Vp (σ : HS) (np n : Nat) : Prop := ∀ i, i < n → ∃ q, q < np ∧ σ 9 i 0 = nI q
abbrev Fp (σ : HS) (np : Nat) : Prop := ∀ p, p < np → ∃ f, f < 10 ∧ σ 3 p 1 = nI f
abbrev mrC (σ : HS) (n v : Nat) : Prop := ∃ i, i < n ∧ σ 9 i 6 = 0 ∧ shH σ i v ∧ rvI σ (σ 9 v 0).toNatClampNeg i
abbrev hmC (σ : HS) (n v : Nat) : Prop := ∃ i, i < n ∧ σ 9 i 6 = 0 ∧ shH σ i v ∧ shP σ i v
def sp_X1_meetsRivals : HSp := fun as w σ K => match as with
  | [.inr (.inl (1, some 0)), .inr (.inl (9, some v))] => ∃ n np p, Bk w σ n ∧ Pk w σ np ∧ p < np ∧ σ 9 v 0 = nI p ∧ Vp σ np n ∧ Fp σ np ∧ spZ (mrC σ n v) w σ K
  | _ => False
theorem dX1_meetsRivals_0 : decode cX1_meetsRivals 0 = .ok (.iconst 0, 1) := by decide +kernel
theorem dX1_meetsRivals_1 : decode cX1_meetsRivals 1 = .ok (.istore_n 2, 1) := by decide +kernel
theorem dX1_meetsRivals_2 : decode cX1_meetsRivals 2 = .ok (.iload_n 2, 1) := by decide +kernel
theorem dX1_meetsRivals_3 : decode cX1_meetsRivals 3 = .ok (.aload_n 0, 1) := by decide +kernel
theorem dX1_meetsRivals_4 : decode cX1_meetsRivals 4 = .ok (.getfield 29, 3) := by decide +kernel
theorem dX1_meetsRivals_7 : decode cX1_meetsRivals 7 = .ok (.getfield 82, 3) := by decide +kernel
theorem dX1_meetsRivals_10 : decode cX1_meetsRivals 10 = .ok (.if_icmp .ge 45, 3) := by decide +kernel
theorem dX1_meetsRivals_13 : decode cX1_meetsRivals 13 = .ok (.aload_n 0, 1) := by decide +kernel
theorem dX1_meetsRivals_14 : decode cX1_meetsRivals 14 = .ok (.getfield 29, 3) := by decide +kernel
theorem dX1_meetsRivals_17 : decode cX1_meetsRivals 17 = .ok (.getfield 85, 3) := by decide +kernel
theorem dX1_meetsRivals_20 : decode cX1_meetsRivals 20 = .ok (.iload_n 2, 1) := by decide +kernel
theorem dX1_meetsRivals_21 : decode cX1_meetsRivals 21 = .ok (.aaload, 1) := by decide +kernel
theorem dX1_meetsRivals_22 : decode cX1_meetsRivals 22 = .ok (.astore_n 3, 1) := by decide +kernel
theorem dX1_meetsRivals_23 : decode cX1_meetsRivals 23 = .ok (.aload_n 3, 1) := by decide +kernel
theorem dX1_meetsRivals_24 : decode cX1_meetsRivals 24 = .ok (.getfield 79, 3) := by decide +kernel
theorem dX1_meetsRivals_27 : decode cX1_meetsRivals 27 = .ok (.ifCond .ne 22, 3) := by decide +kernel
theorem dX1_meetsRivals_30 : decode cX1_meetsRivals 30 = .ok (.aload_n 3, 1) := by decide +kernel
theorem dX1_meetsRivals_31 : decode cX1_meetsRivals 31 = .ok (.aload_n 1, 1) := by decide +kernel
theorem dX1_meetsRivals_32 : decode cX1_meetsRivals 32 = .ok (.invokevirtual 190, 3) := by decide +kernel
theorem dX1_meetsRivals_35 : decode cX1_meetsRivals 35 = .ok (.ifCond .eq 14, 3) := by decide +kernel
theorem dX1_meetsRivals_38 : decode cX1_meetsRivals 38 = .ok (.aload_n 0, 1) := by decide +kernel
theorem dX1_meetsRivals_39 : decode cX1_meetsRivals 39 = .ok (.aload_n 1, 1) := by decide +kernel
theorem dX1_meetsRivals_40 : decode cX1_meetsRivals 40 = .ok (.aload_n 3, 1) := by decide +kernel
theorem dX1_meetsRivals_41 : decode cX1_meetsRivals 41 = .ok (.invokevirtual 193, 3) := by decide +kernel
theorem dX1_meetsRivals_44 : decode cX1_meetsRivals 44 = .ok (.ifCond .eq 5, 3) := by decide +kernel
theorem dX1_meetsRivals_47 : decode cX1_meetsRivals 47 = .ok (.iconst 1, 1) := by decide +kernel
theorem dX1_meetsRivals_48 : decode cX1_meetsRivals 48 = .ok (.ireturn, 1) := by decide +kernel
theorem dX1_meetsRivals_49 : decode cX1_meetsRivals 49 = .ok (.iinc 2 1, 3) := by decide +kernel
theorem dX1_meetsRivals_52 : decode cX1_meetsRivals 52 = .ok (.goto (-50), 3) := by decide +kernel
theorem dX1_meetsRivals_55 : decode cX1_meetsRivals 55 = .ok (.iconst 0, 1) := by decide +kernel
theorem dX1_meetsRivals_56 : decode cX1_meetsRivals 56 = .ok (.ireturn, 1) := by decide +kernel
def ins_X1_meetsRivals (pc : Nat) : HOp := cond (Nat.blt pc 27) (cond (Nat.blt pc 13) (cond (Nat.blt pc 3) (cond (Nat.blt pc 1) (cond (Nat.beq pc 0) (o_const (0) 1) o_bad) (cond (Nat.blt pc 2) (cond (Nat.beq pc 1) (o_istore 2 2) o_bad) (cond (Nat.beq pc 2) (o_iload 2 3) o_bad))) (cond (Nat.blt pc 7) (cond (Nat.blt pc 4) (cond (Nat.beq pc 3) (o_aload 0 4) o_bad) (cond (Nat.beq pc 4) (o_getf 1 2 7) o_bad)) (cond (Nat.blt pc 10) (cond (Nat.beq pc 7) (o_getf 0 1 10) o_bad) (cond (Nat.beq pc 10) (o_icmp (fun x y => y ≤ x) 55 13) o_bad)))) (cond (Nat.blt pc 21) (cond (Nat.blt pc 17) (cond (Nat.blt pc 14) (cond (Nat.beq pc 13) (o_aload 0 14) o_bad) (cond (Nat.beq pc 14) (o_getf 1 2 17) o_bad)) (cond (Nat.blt pc 20) (cond (Nat.beq pc 17) (o_getf 0 0 20) o_bad) (cond (Nat.beq pc 20) (o_iload 2 21) o_bad))) (cond (Nat.blt pc 23) (cond (Nat.blt pc 22) (cond (Nat.beq pc 21) (o_aald 22) o_bad) (cond (Nat.beq pc 22) (o_astore 3 23) o_bad)) (cond (Nat.blt pc 24) (cond (Nat.beq pc 23) (o_aload 3 24) o_bad) (cond (Nat.beq pc 24) (o_getf 9 6 27) o_bad))))) (cond (Nat.blt pc 41) (cond (Nat.blt pc 35) (cond (Nat.blt pc 31) (cond (Nat.blt pc 30) (cond (Nat.beq pc 27) (o_if (fun x => x = 0) 30 49) o_bad) (cond (Nat.beq pc 30) (o_aload 3 31) o_bad)) (cond (Nat.blt pc 32) (cond (Nat.beq pc 31) (o_aload 1 32) o_bad) (cond (Nat.beq pc 32) (o_callV 2 9 sp_X9_sharesHalfWith 35) o_bad))) (cond (Nat.blt pc 39) (cond (Nat.blt pc 38) (cond (Nat.beq pc 35) (o_if (fun x => x = 0) 49 38) o_bad) (cond (Nat.beq pc 38) (o_aload 0 39) o_bad)) (cond (Nat.blt pc 40) (cond (Nat.beq pc 39) (o_aload 1 40) o_bad) (cond (Nat.beq pc 40) (o_aload 3 41) o_bad)))) (cond (Nat.blt pc 49) (cond (Nat.blt pc 47) (cond (Nat.blt pc 44) (cond (Nat.beq pc 41) (o_callV 3 1 sp_X1_areOfRivals 44) o_bad) (cond (Nat.beq pc 44) (o_if (fun x => x = 0) 49 47) o_bad)) (cond (Nat.blt pc 48) (cond (Nat.beq pc 47) (o_const (1) 48) o_bad) (cond (Nat.beq pc 48) (o_zret) o_bad))) (cond (Nat.blt pc 55) (cond (Nat.blt pc 52) (cond (Nat.beq pc 49) (o_iinc 2 (1) 52) o_bad) (cond (Nat.beq pc 52) (o_goto 2) o_bad)) (cond (Nat.blt pc 56) (cond (Nat.beq pc 55) (o_const (0) 56) o_bad) (cond (Nat.beq pc 56) (o_zret) o_bad)))))
set_option maxRecDepth 20000 in
theorem ok_X1_meetsRivals : HOKs cX1_meetsRivals RX1 4 (some .boolean) 4 ins_X1_meetsRivals := fun _ => hnd (hnd (hnd (hnd (hlf (ok_iconst dX1_meetsRivals_0 (by decide) rfl)) (hnd (hlf (ok_istore_n dX1_meetsRivals_1 rfl (by decide) rfl)) (hlf (ok_iload_n dX1_meetsRivals_2 rfl rfl)))) (hnd (hnd (hlf (ok_aload_n dX1_meetsRivals_3 rfl rfl)) (hlf (ok_getf (C := RX1) (T := TX1) dX1_meetsRivals_4 rfl rfl (by decide) rfl inX1 wd_188 rfl))) (hnd (hlf (ok_getfN (C := RX0) (T := TX0) dX1_meetsRivals_7 rfl rfl (by decide) rfl inX0 wd_151 rfl)) (hlf (ok_icmp_ge dX1_meetsRivals_10 (by decide) rfl))))) (hnd (hnd (hnd (hlf (ok_aload_n dX1_meetsRivals_13 rfl rfl)) (hlf (ok_getf (C := RX1) (T := TX1) dX1_meetsRivals_14 rfl rfl (by decide) rfl inX1 wd_188 rfl))) (hnd (hlf (ok_getfN (C := RX0) (T := TX0) dX1_meetsRivals_17 rfl rfl (by decide) rfl inX0 wd_148 rfl)) (hlf (ok_iload_n dX1_meetsRivals_20 rfl rfl)))) (hnd (hnd (hlf (ok_aald dX1_meetsRivals_21 rfl)) (hlf (ok_astore_n dX1_meetsRivals_22 rfl (by decide) rfl))) (hnd (hlf (ok_aload_n dX1_meetsRivals_23 rfl rfl)) (hlf (ok_getfN (C := RX9) (T := TX9) dX1_meetsRivals_24 rfl rfl (by decide) rfl inX9 wd_263 rfl)))))) (hnd (hnd (hnd (hnd (hlf (ok_if_ne dX1_meetsRivals_27 (by decide) rfl)) (hlf (ok_aload_n dX1_meetsRivals_30 rfl rfl))) (hnd (hlf (ok_aload_n dX1_meetsRivals_31 rfl rfl)) (hlf (ok_callV (y := yX9_sharesHalfWith) (n' := 1) (C := RX9) (T := TX9) dX1_meetsRivals_32 ct_X9_sharesHalfWith (by decide) (by decide) wd_479 wd_488 wd_477 wd_478 wd_50 rfl (by decide +kernel) rfl rfl rfl)))) (hnd (hnd (hlf (ok_if_eq dX1_meetsRivals_35 (by decide) rfl)) (hlf (ok_aload_n dX1_meetsRivals_38 rfl rfl))) (hnd (hlf (ok_aload_n dX1_meetsRivals_39 rfl rfl)) (hlf (ok_aload_n dX1_meetsRivals_40 rfl rfl))))) (hnd (hnd (hnd (hlf (ok_callV (y := yX1_areOfRivals) (n' := 2) (C := RX1) (T := TX1) dX1_meetsRivals_41 ct_X1_areOfRivals (by decide) (by decide) wd_492 wd_489 wd_491 wd_6 wd_48 rfl (by decide +kernel) rfl rfl rfl)) (hlf (ok_if_eq dX1_meetsRivals_44 (by decide) rfl))) (hnd (hlf (ok_iconst dX1_meetsRivals_47 (by decide) rfl)) (hlf (ok_zret dX1_meetsRivals_48)))) (hnd (hnd (hlf (ok_iinc dX1_meetsRivals_49 (by decide) (by decide) rfl)) (hlf (ok_goto dX1_meetsRivals_52 (by decide)))) (hnd (hlf (ok_iconst dX1_meetsRivals_55 (by decide) rfl)) (hlf (ok_zret dX1_meetsRivals_56))))))

theorem vc_X1_meetsRivals : MVC ins_X1_meetsRivals 4 2 sp_X1_meetsRivals := by
  refine mvc1 2 60 fun as w σ q hl hs => ?_
  unfold sp_X1_meetsRivals at hs
  split at hs
  rotate_left
  · exact hs.elim
  rename_i v
  obtain ⟨n, np, p, ⟨hn, hsz, hra⟩, hP, hp, hv, hV, hF, hq⟩ := hs
  have h10 := hP.1
  have ep : (σ 9 v 0).toNatClampNeg = p := by rw [hv]; exact nI_clamp (by omega)
  refine ⟨fun N ls st w' σ' => ∃ (i : Nat) (u : Int32) (x : Option HV), i ≤ n ∧ N = n - i ∧ u = nI i ∧ (∀ j, j < i → ¬ (σ 9 j 6 = 0 ∧ shH σ j v ∧ rvI σ (σ 9 v 0).toNatClampNeg j)) ∧ ls = [some (HR 1 0), some (HR 9 v), some (HI u), x] ∧ st = [] ∧ w = w' ∧ σ = σ', ?_, ?_⟩
  · rintro N ls st w' σ' ⟨i, u, x, hi, rfl, rfl, hno, rfl, rfl, rfl, rfl⟩
    apply br2
    · intro h1
      obtain rfl := lp_end hsz hi h1
      exact ⟨Or.inl rfl, hq.2 fun ⟨j, h1, h2⟩ => hno j h1 h2⟩
    · intro h1
      have hlt := lp_go hsz hi h1
      refine And.intro (vp_in_nI (N := 100) (by omega) (by decide)) (fun o ho => ?_)
      obtain rfl := ra_at ho (hra i hlt)
      have no : ¬ (σ 9 i 6 = 0 ∧ shH σ i v ∧ rvI σ (σ 9 v 0).toNatClampNeg i) → ∃ N', N' < n - i ∧ ∃ (i' : Nat) (u : Int32) (x : Option HV), i' ≤ n ∧ N' = n - i' ∧ u = nI i' ∧ (∀ j, j < i' → ¬ (σ 9 j 6 = 0 ∧ shH σ j v ∧ rvI σ (σ 9 v 0).toNatClampNeg j)) ∧ [some (HR 1 0), some (HR 9 v), some (HI (nI i + 1)), some (HR 9 i)] = [some (HR 1 0), some (HR 9 v), some (HI u), x] ∧ ([] : List HV) = [] ∧ w = w ∧ σ = σ := fun h =>
        ⟨n - (i + 1), by omega, i + 1, _, _, hlt, rfl, nI_1 i, fun j hj => (Nat.lt_succ_iff_lt_or_eq.mp hj).elim (hno j) (fun e => e ▸ h), rfl, rfl, rfl, rfl⟩
      apply br2
      rotate_left
      · intro h2
        exact no fun h => h2 h.1
      intro h2
      apply br2
      rotate_left
      · intro h3
        exact And.intro (fun _ => no fun h => h3 h.2.1) (fun h => absurd rfl h)
      intro h3
      refine And.intro (fun h => absurd h (by decide)) (fun _ => ?_)
      obtain ⟨f, hf, hf2⟩ := hF p hp
      obtain ⟨q', hq1, hq2⟩ := hV i hlt
      refine ⟨np, p, q', f, hP, hp, hq1, hv, hq2, hf, hf2, ?_⟩
      apply br2
      · intro h4
        refine And.intro (fun h => absurd h (by decide)) (fun _ => ⟨Or.inr rfl, hq.1 ⟨i, hlt, h2, h3, ?_⟩⟩)
        rw [ep]
        exact h4
      · intro h4
        refine And.intro (fun _ => no fun h => h4 ?_) (fun h => absurd rfl h)
        have := h.2.2
        rw [ep] at this
        exact this
  · exact ⟨n, 0, 0, none, Nat.zero_le _, rfl, rfl, fun j hj => absurd hj (by omega), rfl, rfl, rfl, rfl⟩
theorem ct_X1_meetsRivals : Ctr yX1_meetsRivals cX1_meetsRivals 4 (some .boolean) 4 0 0 2 sp_X1_meetsRivals := ctr_of (by decide +kernel) rfl (by decide) ok_X1_meetsRivals vc_X1_meetsRivals

abbrev ntC (σ : HS) (n v a b : Nat) : Prop := ∃ h, a ≤ h ∧ h < a + b ∧ ¬ nI (cnt (fun i => decide (atL σ i (σ 9 v 2) (nI h))) n) < tbC σ (σ 9 v 2)
noncomputable def rhC (σ : HS) (n v a b : Nat) : Int32 := cif (hmC σ n v) 7 (cif (mrC σ n v) 8 (cif (ntC σ n v a b) 9 0))
def sp_X1_reasonOfHall : HSp := fun as w σ K => match as with
  | [.inr (.inl (1, some 0)), .inr (.inl (9, some v))] => ∃ n np p a b, Bk w σ n ∧ Pk w σ np ∧ p < np ∧ σ 9 v 0 = nI p ∧ Vp σ np n ∧ Fp σ np ∧ σ 7 0 1 ≤ 60 ∧ σ 9 v 3 = nI a ∧ σ 9 v 4 = nI b ∧ a + b ≤ 12 ∧ K (some (HI (rhC σ n v a b))) w σ
  | _ => False
theorem dX1_reasonOfHall_0 : decode cX1_reasonOfHall 0 = .ok (.aload_n 0, 1) := by decide +kernel
theorem dX1_reasonOfHall_1 : decode cX1_reasonOfHall 1 = .ok (.getfield 29, 3) := by decide +kernel
theorem dX1_reasonOfHall_4 : decode cX1_reasonOfHall 4 = .ok (.aload_n 1, 1) := by decide +kernel
theorem dX1_reasonOfHall_5 : decode cX1_reasonOfHall 5 = .ok (.invokevirtual 171, 3) := by decide +kernel
theorem dX1_reasonOfHall_8 : decode cX1_reasonOfHall 8 = .ok (.ifCond .eq 6, 3) := by decide +kernel
theorem dX1_reasonOfHall_11 : decode cX1_reasonOfHall 11 = .ok (.bipush 7, 2) := by decide +kernel
theorem dX1_reasonOfHall_13 : decode cX1_reasonOfHall 13 = .ok (.ireturn, 1) := by decide +kernel
theorem dX1_reasonOfHall_14 : decode cX1_reasonOfHall 14 = .ok (.aload_n 0, 1) := by decide +kernel
theorem dX1_reasonOfHall_15 : decode cX1_reasonOfHall 15 = .ok (.aload_n 1, 1) := by decide +kernel
theorem dX1_reasonOfHall_16 : decode cX1_reasonOfHall 16 = .ok (.invokevirtual 174, 3) := by decide +kernel
theorem dX1_reasonOfHall_19 : decode cX1_reasonOfHall 19 = .ok (.ifCond .eq 6, 3) := by decide +kernel
theorem dX1_reasonOfHall_22 : decode cX1_reasonOfHall 22 = .ok (.bipush 8, 2) := by decide +kernel
theorem dX1_reasonOfHall_24 : decode cX1_reasonOfHall 24 = .ok (.ireturn, 1) := by decide +kernel
theorem dX1_reasonOfHall_25 : decode cX1_reasonOfHall 25 = .ok (.aload_n 0, 1) := by decide +kernel
theorem dX1_reasonOfHall_26 : decode cX1_reasonOfHall 26 = .ok (.aload_n 1, 1) := by decide +kernel
theorem dX1_reasonOfHall_27 : decode cX1_reasonOfHall 27 = .ok (.getfield 89, 3) := by decide +kernel
theorem dX1_reasonOfHall_30 : decode cX1_reasonOfHall 30 = .ok (.invokevirtual 177, 3) := by decide +kernel
theorem dX1_reasonOfHall_33 : decode cX1_reasonOfHall 33 = .ok (.istore_n 2, 1) := by decide +kernel
theorem dX1_reasonOfHall_34 : decode cX1_reasonOfHall 34 = .ok (.aload_n 1, 1) := by decide +kernel
theorem dX1_reasonOfHall_35 : decode cX1_reasonOfHall 35 = .ok (.getfield 181, 3) := by decide +kernel
theorem dX1_reasonOfHall_38 : decode cX1_reasonOfHall 38 = .ok (.istore_n 3, 1) := by decide +kernel
theorem dX1_reasonOfHall_39 : decode cX1_reasonOfHall 39 = .ok (.iload_n 3, 1) := by decide +kernel
theorem dX1_reasonOfHall_40 : decode cX1_reasonOfHall 40 = .ok (.aload_n 1, 1) := by decide +kernel
theorem dX1_reasonOfHall_41 : decode cX1_reasonOfHall 41 = .ok (.getfield 181, 3) := by decide +kernel
theorem dX1_reasonOfHall_44 : decode cX1_reasonOfHall 44 = .ok (.aload_n 1, 1) := by decide +kernel
theorem dX1_reasonOfHall_45 : decode cX1_reasonOfHall 45 = .ok (.getfield 184, 3) := by decide +kernel
theorem dX1_reasonOfHall_48 : decode cX1_reasonOfHall 48 = .ok (.iadd, 1) := by decide +kernel
theorem dX1_reasonOfHall_49 : decode cX1_reasonOfHall 49 = .ok (.if_icmp .ge 28, 3) := by decide +kernel
theorem dX1_reasonOfHall_52 : decode cX1_reasonOfHall 52 = .ok (.aload_n 0, 1) := by decide +kernel
theorem dX1_reasonOfHall_53 : decode cX1_reasonOfHall 53 = .ok (.getfield 29, 3) := by decide +kernel
theorem dX1_reasonOfHall_56 : decode cX1_reasonOfHall 56 = .ok (.aload_n 1, 1) := by decide +kernel
theorem dX1_reasonOfHall_57 : decode cX1_reasonOfHall 57 = .ok (.getfield 89, 3) := by decide +kernel
theorem dX1_reasonOfHall_60 : decode cX1_reasonOfHall 60 = .ok (.iload_n 3, 1) := by decide +kernel
theorem dX1_reasonOfHall_61 : decode cX1_reasonOfHall 61 = .ok (.invokevirtual 187, 3) := by decide +kernel
theorem dX1_reasonOfHall_64 : decode cX1_reasonOfHall 64 = .ok (.iload_n 2, 1) := by decide +kernel
theorem dX1_reasonOfHall_65 : decode cX1_reasonOfHall 65 = .ok (.if_icmp .lt 6, 3) := by decide +kernel
theorem dX1_reasonOfHall_68 : decode cX1_reasonOfHall 68 = .ok (.bipush 9, 2) := by decide +kernel
theorem dX1_reasonOfHall_70 : decode cX1_reasonOfHall 70 = .ok (.ireturn, 1) := by decide +kernel
theorem dX1_reasonOfHall_71 : decode cX1_reasonOfHall 71 = .ok (.iinc 3 1, 3) := by decide +kernel
theorem dX1_reasonOfHall_74 : decode cX1_reasonOfHall 74 = .ok (.goto (-35), 3) := by decide +kernel
theorem dX1_reasonOfHall_77 : decode cX1_reasonOfHall 77 = .ok (.iconst 0, 1) := by decide +kernel
theorem dX1_reasonOfHall_78 : decode cX1_reasonOfHall 78 = .ok (.ireturn, 1) := by decide +kernel
def ins_X1_reasonOfHall (pc : Nat) : HOp := cond (Nat.blt pc 39) (cond (Nat.blt pc 19) (cond (Nat.blt pc 11) (cond (Nat.blt pc 4) (cond (Nat.blt pc 1) (cond (Nat.beq pc 0) (o_aload 0 1) o_bad) (cond (Nat.beq pc 1) (o_getf 1 2 4) o_bad)) (cond (Nat.blt pc 5) (cond (Nat.beq pc 4) (o_aload 1 5) o_bad) (cond (Nat.blt pc 8) (cond (Nat.beq pc 5) (o_callV 2 0 sp_X0_hasMeetingOfSamePeople 8) o_bad) (cond (Nat.beq pc 8) (o_if (fun x => x = 0) 14 11) o_bad)))) (cond (Nat.blt pc 14) (cond (Nat.blt pc 13) (cond (Nat.beq pc 11) (o_const (7) 13) o_bad) (cond (Nat.beq pc 13) (o_iret) o_bad)) (cond (Nat.blt pc 15) (cond (Nat.beq pc 14) (o_aload 0 15) o_bad) (cond (Nat.blt pc 16) (cond (Nat.beq pc 15) (o_aload 1 16) o_bad) (cond (Nat.beq pc 16) (o_callV 2 1 sp_X1_meetsRivals 19) o_bad))))) (cond (Nat.blt pc 27) (cond (Nat.blt pc 24) (cond (Nat.blt pc 22) (cond (Nat.beq pc 19) (o_if (fun x => x = 0) 25 22) o_bad) (cond (Nat.beq pc 22) (o_const (8) 24) o_bad)) (cond (Nat.blt pc 25) (cond (Nat.beq pc 24) (o_iret) o_bad) (cond (Nat.blt pc 26) (cond (Nat.beq pc 25) (o_aload 0 26) o_bad) (cond (Nat.beq pc 26) (o_aload 1 27) o_bad)))) (cond (Nat.blt pc 34) (cond (Nat.blt pc 30) (cond (Nat.beq pc 27) (o_getf 9 2 30) o_bad) (cond (Nat.blt pc 33) (cond (Nat.beq pc 30) (o_callV 2 1 sp_X1_tablesOn 33) o_bad) (cond (Nat.beq pc 33) (o_istore 2 34) o_bad))) (cond (Nat.blt pc 35) (cond (Nat.beq pc 34) (o_aload 1 35) o_bad) (cond (Nat.blt pc 38) (cond (Nat.beq pc 35) (o_getf 9 3 38) o_bad) (cond (Nat.beq pc 38) (o_istore 3 39) o_bad)))))) (cond (Nat.blt pc 57) (cond (Nat.blt pc 48) (cond (Nat.blt pc 41) (cond (Nat.blt pc 40) (cond (Nat.beq pc 39) (o_iload 3 40) o_bad) (cond (Nat.beq pc 40) (o_aload 1 41) o_bad)) (cond (Nat.blt pc 44) (cond (Nat.beq pc 41) (o_getf 9 3 44) o_bad) (cond (Nat.blt pc 45) (cond (Nat.beq pc 44) (o_aload 1 45) o_bad) (cond (Nat.beq pc 45) (o_getf 9 4 48) o_bad)))) (cond (Nat.blt pc 52) (cond (Nat.blt pc 49) (cond (Nat.beq pc 48) (o_bin (fun x y => x + y) 49) o_bad) (cond (Nat.beq pc 49) (o_icmp (fun x y => y ≤ x) 77 52) o_bad)) (cond (Nat.blt pc 53) (cond (Nat.beq pc 52) (o_aload 0 53) o_bad) (cond (Nat.blt pc 56) (cond (Nat.beq pc 53) (o_getf 1 2 56) o_bad) (cond (Nat.beq pc 56) (o_aload 1 57) o_bad))))) (cond (Nat.blt pc 68) (cond (Nat.blt pc 61) (cond (Nat.blt pc 60) (cond (Nat.beq pc 57) (o_getf 9 2 60) o_bad) (cond (Nat.beq pc 60) (o_iload 3 61) o_bad)) (cond (Nat.blt pc 64) (cond (Nat.beq pc 61) (o_callV 3 0 sp_X0_letAt 64) o_bad) (cond (Nat.blt pc 65) (cond (Nat.beq pc 64) (o_iload 2 65) o_bad) (cond (Nat.beq pc 65) (o_icmp (fun x y => x < y) 71 68) o_bad)))) (cond (Nat.blt pc 74) (cond (Nat.blt pc 70) (cond (Nat.beq pc 68) (o_const (9) 70) o_bad) (cond (Nat.blt pc 71) (cond (Nat.beq pc 70) (o_iret) o_bad) (cond (Nat.beq pc 71) (o_iinc 3 (1) 74) o_bad))) (cond (Nat.blt pc 77) (cond (Nat.beq pc 74) (o_goto 39) o_bad) (cond (Nat.blt pc 78) (cond (Nat.beq pc 77) (o_const (0) 78) o_bad) (cond (Nat.beq pc 78) (o_iret) o_bad))))))
set_option maxRecDepth 20000 in
theorem ok_X1_reasonOfHall : HOKs cX1_reasonOfHall RX1 4 (some .int) 5 ins_X1_reasonOfHall := fun _ => hnd (hnd (hnd (hnd (hnd (hlf (ok_aload_n dX1_reasonOfHall_0 rfl rfl)) (hlf (ok_getf (C := RX1) (T := TX1) dX1_reasonOfHall_1 rfl rfl (by decide) rfl inX1 wd_188 rfl))) (hnd (hlf (ok_aload_n dX1_reasonOfHall_4 rfl rfl)) (hnd (hlf (ok_callV (y := yX0_hasMeetingOfSamePeople) (n' := 1) (C := RX0) (T := TX0) dX1_reasonOfHall_5 ct_X0_hasMeetingOfSamePeople (by decide) (by decide) wd_475 wd_472 wd_473 wd_474 wd_46 rfl (by decide +kernel) rfl rfl rfl)) (hlf (ok_if_eq dX1_reasonOfHall_8 (by decide) rfl))))) (hnd (hnd (hlf (ok_bipush dX1_reasonOfHall_11 (by decide) rfl)) (hlf (ok_iret dX1_reasonOfHall_13))) (hnd (hlf (ok_aload_n dX1_reasonOfHall_14 rfl rfl)) (hnd (hlf (ok_aload_n dX1_reasonOfHall_15 rfl rfl)) (hlf (ok_callV (y := yX1_meetsRivals) (n' := 1) (C := RX1) (T := TX1) dX1_reasonOfHall_16 ct_X1_meetsRivals (by decide) (by decide) wd_487 wd_484 wd_486 wd_5 wd_48 rfl (by decide +kernel) rfl rfl rfl)))))) (hnd (hnd (hnd (hlf (ok_if_eq dX1_reasonOfHall_19 (by decide) rfl)) (hlf (ok_bipush dX1_reasonOfHall_22 (by decide) rfl))) (hnd (hlf (ok_iret dX1_reasonOfHall_24)) (hnd (hlf (ok_aload_n dX1_reasonOfHall_25 rfl rfl)) (hlf (ok_aload_n dX1_reasonOfHall_26 rfl rfl))))) (hnd (hnd (hlf (ok_getfN (C := RX9) (T := TX9) dX1_reasonOfHall_27 rfl rfl (by decide) rfl inX9 wd_247 rfl)) (hnd (hlf (ok_callV (y := yX1_tablesOn) (n' := 1) (C := RX1) (T := TX1) dX1_reasonOfHall_30 ct_X1_tablesOn (by decide) (by decide) wd_500 wd_497 wd_498 wd_499 wd_48 rfl (by decide +kernel) rfl rfl rfl)) (hlf (ok_istore_n dX1_reasonOfHall_33 rfl (by decide) rfl)))) (hnd (hlf (ok_aload_n dX1_reasonOfHall_34 rfl rfl)) (hnd (hlf (ok_getfN (C := RX9) (T := TX9) dX1_reasonOfHall_35 rfl rfl (by decide) rfl inX9 wd_251 rfl)) (hlf (ok_istore_n dX1_reasonOfHall_38 rfl (by decide) rfl))))))) (hnd (hnd (hnd (hnd (hlf (ok_iload_n dX1_reasonOfHall_39 rfl rfl)) (hlf (ok_aload_n dX1_reasonOfHall_40 rfl rfl))) (hnd (hlf (ok_getfN (C := RX9) (T := TX9) dX1_reasonOfHall_41 rfl rfl (by decide) rfl inX9 wd_251 rfl)) (hnd (hlf (ok_aload_n dX1_reasonOfHall_44 rfl rfl)) (hlf (ok_getfN (C := RX9) (T := TX9) dX1_reasonOfHall_45 rfl rfl (by decide) rfl inX9 wd_255 rfl))))) (hnd (hnd (hlf (ok_iadd dX1_reasonOfHall_48 rfl)) (hlf (ok_icmp_ge dX1_reasonOfHall_49 (by decide) rfl))) (hnd (hlf (ok_aload_n dX1_reasonOfHall_52 rfl rfl)) (hnd (hlf (ok_getf (C := RX1) (T := TX1) dX1_reasonOfHall_53 rfl rfl (by decide) rfl inX1 wd_188 rfl)) (hlf (ok_aload_n dX1_reasonOfHall_56 rfl rfl)))))) (hnd (hnd (hnd (hlf (ok_getfN (C := RX9) (T := TX9) dX1_reasonOfHall_57 rfl rfl (by decide) rfl inX9 wd_247 rfl)) (hlf (ok_iload_n dX1_reasonOfHall_60 rfl rfl))) (hnd (hlf (ok_callV (y := yX0_letAt) (n' := 2) (C := RX0) (T := TX0) dX1_reasonOfHall_61 ct_X0_letAt (by decide) (by decide) wd_509 wd_506 wd_507 wd_508 wd_46 rfl (by decide +kernel) rfl rfl rfl)) (hnd (hlf (ok_iload_n dX1_reasonOfHall_64 rfl rfl)) (hlf (ok_icmp_lt dX1_reasonOfHall_65 (by decide) rfl))))) (hnd (hnd (hlf (ok_bipush dX1_reasonOfHall_68 (by decide) rfl)) (hnd (hlf (ok_iret dX1_reasonOfHall_70)) (hlf (ok_iinc dX1_reasonOfHall_71 (by decide) (by decide) rfl)))) (hnd (hlf (ok_goto dX1_reasonOfHall_74 (by decide))) (hnd (hlf (ok_iconst dX1_reasonOfHall_77 (by decide) rfl)) (hlf (ok_iret dX1_reasonOfHall_78)))))))

theorem vc_X1_reasonOfHall : MVC ins_X1_reasonOfHall 4 2 sp_X1_reasonOfHall := by
  refine mvc1 39 60 fun as w σ q hl hs => ?_
  unfold sp_X1_reasonOfHall at hs
  split at hs
  rotate_left
  · exact hs.elim
  rename_i v
  obtain ⟨n, np, p, a, b, hB, hP, hp, hv, hV, hF, hz, ha, hb, hab, hq⟩ := hs
  unfold rhC at hq
  refine ⟨fun N ls st w' σ' => ¬ hmC σ n v ∧ ¬ mrC σ n v ∧ ∃ (i : Nat) (u : Int32), a ≤ i ∧ i ≤ a + b ∧ N = a + b - i ∧ u = nI i ∧ (∀ j, a ≤ j → j < i → nI (cnt (fun i => decide (atL σ i (σ 9 v 2) (nI j))) n) < tbC σ (σ 9 v 2)) ∧ ls = [some (HR 1 0), some (HR 9 v), some (HI (tbC σ (σ 9 v 2))), some (HI u)] ∧ st = [] ∧ w = w' ∧ σ = σ', ?_, ?_⟩
  · rintro N ls st w' σ' ⟨h7, h8, i, u, hai, hi, rfl, rfl, hno, rfl, rfl, rfl, rfl⟩
    rw [cif_n h7, cif_n h8] at hq
    have e : σ 9 v 3 + σ 9 v 4 = nI (a + b) := by rw [ha, hb]; exact nI_add a b
    apply br2
    · intro h1
      obtain rfl := lp_end e hi h1
      rw [cif_n fun ⟨h, h2, h3, h4⟩ => h4 (hno h h2 h3)] at hq
      exact hq
    · intro h1
      have hlt := lp_go e hi h1
      refine ⟨n, hB, ?_⟩
      apply br2
      · intro h2
        exact ⟨a + b - (i + 1), by omega, h7, h8, i + 1, _, by omega, hlt, rfl, nI_1 i, fun j hj1 hj => (Nat.lt_succ_iff_lt_or_eq.mp hj).elim (hno j hj1) (fun e => e ▸ h2), rfl, rfl, rfl, rfl⟩
      · intro h2
        rw [cif_p ⟨i, hai, hlt, h2⟩] at hq
        exact hq
  · refine ⟨n, hB, ?_⟩
    apply br2
    · intro h7
      rw [cif_p h7] at hq
      exact And.intro (fun h => absurd h (by decide)) (fun _ => hq)
    intro h7
    rw [cif_n h7] at hq
    refine And.intro (fun _ => ?_) (fun h => absurd rfl h)
    refine ⟨n, np, p, hB, hP, hp, hv, hV, hF, ?_⟩
    apply br2
    · intro h8
      rw [cif_p h8] at hq
      exact And.intro (fun h => absurd h (by decide)) (fun _ => hq)
    intro h8
    refine And.intro (fun _ => ?_) (fun h => absurd rfl h)
    refine ⟨hz, ?_⟩
    exact ⟨b, h7, h8, a, _, Nat.le_refl _, by omega, by omega, ha, fun j h1 h2 => absurd h1 (by omega), rfl, rfl, rfl, rfl⟩
theorem ct_X1_reasonOfHall : Ctr yX1_reasonOfHall cX1_reasonOfHall 4 (some .int) 5 0 0 2 sp_X1_reasonOfHall := ctr_of (by decide +kernel) rfl (by decide) ok_X1_reasonOfHall vc_X1_reasonOfHall
end
section
/-! VisitHall.Gate, 2: visits in a span of days -/
abbrev tyP (σ : HS) (v m i f : Nat) : Prop := σ 9 i 6 = 0 ∧ σ 9 i 5 = 0 ∧ σ 9 i 0 = σ 9 v 0 ∧ σ 9 i 2 - (σ 9 v 2 - nI m + 1) = nI f ∧ f < 2 * m - 1
def tyS (σ : HS) (v m n : Nat) : HS := fun k i f => if k = 13 ∧ i = 3 ∧ f < 119 then nI (cnt (fun j => decide (tyP σ v m j f)) n) else σ k i f
def sp_X1_tallyAround : HSp := fun as w σ K => match as with
  | [.inr (.inl (1, some 0)), .inr (.inl (9, some v)), .inl x] => ∃ n m, Bk w σ n ∧ 1 ≤ m ∧ m ≤ 60 ∧ x = nI m ∧ K none w (tyS σ v m n)
  | _ => False
theorem tyS_o {σ : HS} {v m n k i f : Nat} (h : k ≠ 13) : tyS σ v m n k i f = σ k i f := by simp [tyS, h]
theorem tyS_0 (σ : HS) (v m : Nat) : fiS σ 13 3 119 0 = tyS σ v m 0 := by
  funext a b c
  simp only [fiS, tyS, cnt, nI_0]
theorem tyS_n {σ : HS} {v m i : Nat} (h : ∀ f, ¬ tyP σ v m i f) : tyS σ v m i = tyS σ v m (i + 1) := by
  funext a b c
  simp only [tyS]
  rw [cnt_n (decide_eq_false (h c))]
theorem tyS_y {σ : HS} {v m i f : Nat} (h : tyP σ v m i f) (hm : m ≤ 60) : up3 (tyS σ v m i) 13 3 f (tyS σ v m i 13 3 f + 1) = tyS σ v m (i + 1) := by
  have hf : f < 119 := by omega
  funext a b c
  by_cases e : a = 13 ∧ b = 3 ∧ c = f
  · obtain ⟨rfl, rfl, rfl⟩ := e
    simp only [up3, tyS, and_self, if_true, hf]
    rw [cnt_y (decide_eq_true h)]
    exact nI_1 _
  · rw [up3_o e]
    simp only [tyS]
    by_cases q : a = 13 ∧ b = 3 ∧ c < 119
    · have hz : ¬ tyP σ v m i c := fun z => e ⟨q.1, q.2.1, nI_inj (z.2.2.2.1.symm.trans h.2.2.2.1)⟩
      rw [if_pos q, if_pos q, cnt_n (decide_eq_false hz)]
    · rw [if_neg q, if_neg q]
theorem two_m (m : Nat) (h : 1 ≤ m) : 2 * nI m - 1 = nI (2 * m - 1) := by
  rw [show (2 : Int32) = nI 2 from rfl, pk_mul, show (1 : Int32) = nI 1 from rfl, pk_sub (by omega)]
theorem dX1_tallyAround_0 : decode cX1_tallyAround 0 = .ok (.aload_n 0, 1) := by decide +kernel
theorem dX1_tallyAround_1 : decode cX1_tallyAround 1 = .ok (.getfield 17, 3) := by decide +kernel
theorem dX1_tallyAround_4 : decode cX1_tallyAround 4 = .ok (.iconst 0, 1) := by decide +kernel
theorem dX1_tallyAround_5 : decode cX1_tallyAround 5 = .ok (.invokestatic 165, 3) := by decide +kernel
theorem dX1_tallyAround_8 : decode cX1_tallyAround 8 = .ok (.aload_n 1, 1) := by decide +kernel
theorem dX1_tallyAround_9 : decode cX1_tallyAround 9 = .ok (.getfield 89, 3) := by decide +kernel
theorem dX1_tallyAround_12 : decode cX1_tallyAround 12 = .ok (.iload_n 2, 1) := by decide +kernel
theorem dX1_tallyAround_13 : decode cX1_tallyAround 13 = .ok (.isub, 1) := by decide +kernel
theorem dX1_tallyAround_14 : decode cX1_tallyAround 14 = .ok (.iconst 1, 1) := by decide +kernel
theorem dX1_tallyAround_15 : decode cX1_tallyAround 15 = .ok (.iadd, 1) := by decide +kernel
theorem dX1_tallyAround_16 : decode cX1_tallyAround 16 = .ok (.istore_n 3, 1) := by decide +kernel
theorem dX1_tallyAround_17 : decode cX1_tallyAround 17 = .ok (.iconst 0, 1) := by decide +kernel
theorem dX1_tallyAround_18 : decode cX1_tallyAround 18 = .ok (.istore 4, 2) := by decide +kernel
theorem dX1_tallyAround_20 : decode cX1_tallyAround 20 = .ok (.iload 4, 2) := by decide +kernel
theorem dX1_tallyAround_22 : decode cX1_tallyAround 22 = .ok (.aload_n 0, 1) := by decide +kernel
theorem dX1_tallyAround_23 : decode cX1_tallyAround 23 = .ok (.getfield 29, 3) := by decide +kernel
theorem dX1_tallyAround_26 : decode cX1_tallyAround 26 = .ok (.getfield 82, 3) := by decide +kernel
theorem dX1_tallyAround_29 : decode cX1_tallyAround 29 = .ok (.if_icmp .ge 82, 3) := by decide +kernel
theorem dX1_tallyAround_32 : decode cX1_tallyAround 32 = .ok (.aload_n 0, 1) := by decide +kernel
theorem dX1_tallyAround_33 : decode cX1_tallyAround 33 = .ok (.getfield 29, 3) := by decide +kernel
theorem dX1_tallyAround_36 : decode cX1_tallyAround 36 = .ok (.getfield 85, 3) := by decide +kernel
theorem dX1_tallyAround_39 : decode cX1_tallyAround 39 = .ok (.iload 4, 2) := by decide +kernel
theorem dX1_tallyAround_41 : decode cX1_tallyAround 41 = .ok (.aaload, 1) := by decide +kernel
theorem dX1_tallyAround_42 : decode cX1_tallyAround 42 = .ok (.astore 5, 2) := by decide +kernel
theorem dX1_tallyAround_44 : decode cX1_tallyAround 44 = .ok (.aload 5, 2) := by decide +kernel
theorem dX1_tallyAround_46 : decode cX1_tallyAround 46 = .ok (.getfield 89, 3) := by decide +kernel
theorem dX1_tallyAround_49 : decode cX1_tallyAround 49 = .ok (.iload_n 3, 1) := by decide +kernel
theorem dX1_tallyAround_50 : decode cX1_tallyAround 50 = .ok (.isub, 1) := by decide +kernel
theorem dX1_tallyAround_51 : decode cX1_tallyAround 51 = .ok (.istore 6, 2) := by decide +kernel
theorem dX1_tallyAround_53 : decode cX1_tallyAround 53 = .ok (.aload 5, 2) := by decide +kernel
theorem dX1_tallyAround_55 : decode cX1_tallyAround 55 = .ok (.getfield 79, 3) := by decide +kernel
theorem dX1_tallyAround_58 : decode cX1_tallyAround 58 = .ok (.ifCond .ne 47, 3) := by decide +kernel
theorem dX1_tallyAround_61 : decode cX1_tallyAround 61 = .ok (.aload 5, 2) := by decide +kernel
theorem dX1_tallyAround_63 : decode cX1_tallyAround 63 = .ok (.getfield 55, 3) := by decide +kernel
theorem dX1_tallyAround_66 : decode cX1_tallyAround 66 = .ok (.ifCond .ne 39, 3) := by decide +kernel
theorem dX1_tallyAround_69 : decode cX1_tallyAround 69 = .ok (.aload 5, 2) := by decide +kernel
theorem dX1_tallyAround_71 : decode cX1_tallyAround 71 = .ok (.getfield 102, 3) := by decide +kernel
theorem dX1_tallyAround_74 : decode cX1_tallyAround 74 = .ok (.aload_n 1, 1) := by decide +kernel
theorem dX1_tallyAround_75 : decode cX1_tallyAround 75 = .ok (.getfield 102, 3) := by decide +kernel
theorem dX1_tallyAround_78 : decode cX1_tallyAround 78 = .ok (.if_icmp .ne 27, 3) := by decide +kernel
theorem dX1_tallyAround_81 : decode cX1_tallyAround 81 = .ok (.iload 6, 2) := by decide +kernel
theorem dX1_tallyAround_83 : decode cX1_tallyAround 83 = .ok (.iconst 2, 1) := by decide +kernel
theorem dX1_tallyAround_84 : decode cX1_tallyAround 84 = .ok (.iload_n 2, 1) := by decide +kernel
theorem dX1_tallyAround_85 : decode cX1_tallyAround 85 = .ok (.imul, 1) := by decide +kernel
theorem dX1_tallyAround_86 : decode cX1_tallyAround 86 = .ok (.iconst 1, 1) := by decide +kernel
theorem dX1_tallyAround_87 : decode cX1_tallyAround 87 = .ok (.isub, 1) := by decide +kernel
theorem dX1_tallyAround_88 : decode cX1_tallyAround 88 = .ok (.invokestatic 47, 3) := by decide +kernel
theorem dX1_tallyAround_91 : decode cX1_tallyAround 91 = .ok (.ifCond .eq 14, 3) := by decide +kernel
theorem dX1_tallyAround_94 : decode cX1_tallyAround 94 = .ok (.aload_n 0, 1) := by decide +kernel
theorem dX1_tallyAround_95 : decode cX1_tallyAround 95 = .ok (.getfield 17, 3) := by decide +kernel
theorem dX1_tallyAround_98 : decode cX1_tallyAround 98 = .ok (.iload 6, 2) := by decide +kernel
theorem dX1_tallyAround_100 : decode cX1_tallyAround 100 = .ok (.dup2, 1) := by decide +kernel
theorem dX1_tallyAround_101 : decode cX1_tallyAround 101 = .ok (.iaload, 1) := by decide +kernel
theorem dX1_tallyAround_102 : decode cX1_tallyAround 102 = .ok (.iconst 1, 1) := by decide +kernel
theorem dX1_tallyAround_103 : decode cX1_tallyAround 103 = .ok (.iadd, 1) := by decide +kernel
theorem dX1_tallyAround_104 : decode cX1_tallyAround 104 = .ok (.iastore, 1) := by decide +kernel
theorem dX1_tallyAround_105 : decode cX1_tallyAround 105 = .ok (.iinc 4 1, 3) := by decide +kernel
theorem dX1_tallyAround_108 : decode cX1_tallyAround 108 = .ok (.goto (-88), 3) := by decide +kernel
theorem dX1_tallyAround_111 : decode cX1_tallyAround 111 = .ok (.return_, 1) := by decide +kernel
def ins_X1_tallyAround (pc : Nat) : HOp := cond (Nat.blt pc 53) (cond (Nat.blt pc 22) (cond (Nat.blt pc 13) (cond (Nat.blt pc 5) (cond (Nat.blt pc 1) (cond (Nat.beq pc 0) (o_aload 0 1) o_bad) (cond (Nat.blt pc 4) (cond (Nat.beq pc 1) (o_getf 1 5 4) o_bad) (cond (Nat.beq pc 4) (o_const (0) 5) o_bad))) (cond (Nat.blt pc 9) (cond (Nat.blt pc 8) (cond (Nat.beq pc 5) (o_callS 2 sp_J7_fill_53178 8) o_bad) (cond (Nat.beq pc 8) (o_aload 1 9) o_bad)) (cond (Nat.blt pc 12) (cond (Nat.beq pc 9) (o_getf 9 2 12) o_bad) (cond (Nat.beq pc 12) (o_iload 2 13) o_bad)))) (cond (Nat.blt pc 16) (cond (Nat.blt pc 14) (cond (Nat.beq pc 13) (o_bin (fun x y => x - y) 14) o_bad) (cond (Nat.blt pc 15) (cond (Nat.beq pc 14) (o_const (1) 15) o_bad) (cond (Nat.beq pc 15) (o_bin (fun x y => x + y) 16) o_bad))) (cond (Nat.blt pc 18) (cond (Nat.blt pc 17) (cond (Nat.beq pc 16) (o_istore 3 17) o_bad) (cond (Nat.beq pc 17) (o_const (0) 18) o_bad)) (cond (Nat.blt pc 20) (cond (Nat.beq pc 18) (o_istore 4 20) o_bad) (cond (Nat.beq pc 20) (o_iload 4 22) o_bad))))) (cond (Nat.blt pc 39) (cond (Nat.blt pc 29) (cond (Nat.blt pc 23) (cond (Nat.beq pc 22) (o_aload 0 23) o_bad) (cond (Nat.blt pc 26) (cond (Nat.beq pc 23) (o_getf 1 2 26) o_bad) (cond (Nat.beq pc 26) (o_getf 0 1 29) o_bad))) (cond (Nat.blt pc 33) (cond (Nat.blt pc 32) (cond (Nat.beq pc 29) (o_icmp (fun x y => y ≤ x) 111 32) o_bad) (cond (Nat.beq pc 32) (o_aload 0 33) o_bad)) (cond (Nat.blt pc 36) (cond (Nat.beq pc 33) (o_getf 1 2 36) o_bad) (cond (Nat.beq pc 36) (o_getf 0 0 39) o_bad)))) (cond (Nat.blt pc 46) (cond (Nat.blt pc 42) (cond (Nat.blt pc 41) (cond (Nat.beq pc 39) (o_iload 4 41) o_bad) (cond (Nat.beq pc 41) (o_aald 42) o_bad)) (cond (Nat.blt pc 44) (cond (Nat.beq pc 42) (o_astore 5 44) o_bad) (cond (Nat.beq pc 44) (o_aload 5 46) o_bad))) (cond (Nat.blt pc 50) (cond (Nat.blt pc 49) (cond (Nat.beq pc 46) (o_getf 9 2 49) o_bad) (cond (Nat.beq pc 49) (o_iload 3 50) o_bad)) (cond (Nat.blt pc 51) (cond (Nat.beq pc 50) (o_bin (fun x y => x - y) 51) o_bad) (cond (Nat.beq pc 51) (o_istore 6 53) o_bad)))))) (cond (Nat.blt pc 86) (cond (Nat.blt pc 71) (cond (Nat.blt pc 61) (cond (Nat.blt pc 55) (cond (Nat.beq pc 53) (o_aload 5 55) o_bad) (cond (Nat.blt pc 58) (cond (Nat.beq pc 55) (o_getf 9 6 58) o_bad) (cond (Nat.beq pc 58) (o_if (fun x => x = 0) 61 105) o_bad))) (cond (Nat.blt pc 66) (cond (Nat.blt pc 63) (cond (Nat.beq pc 61) (o_aload 5 63) o_bad) (cond (Nat.beq pc 63) (o_getf 9 5 66) o_bad)) (cond (Nat.blt pc 69) (cond (Nat.beq pc 66) (o_if (fun x => x = 0) 69 105) o_bad) (cond (Nat.beq pc 69) (o_aload 5 71) o_bad)))) (cond (Nat.blt pc 81) (cond (Nat.blt pc 75) (cond (Nat.blt pc 74) (cond (Nat.beq pc 71) (o_getf 9 0 74) o_bad) (cond (Nat.beq pc 74) (o_aload 1 75) o_bad)) (cond (Nat.blt pc 78) (cond (Nat.beq pc 75) (o_getf 9 0 78) o_bad) (cond (Nat.beq pc 78) (o_icmp (fun x y => x = y) 81 105) o_bad))) (cond (Nat.blt pc 84) (cond (Nat.blt pc 83) (cond (Nat.beq pc 81) (o_iload 6 83) o_bad) (cond (Nat.beq pc 83) (o_const (2) 84) o_bad)) (cond (Nat.blt pc 85) (cond (Nat.beq pc 84) (o_iload 2 85) o_bad) (cond (Nat.beq pc 85) (o_bin (fun x y => x * y) 86) o_bad))))) (cond (Nat.blt pc 100) (cond (Nat.blt pc 91) (cond (Nat.blt pc 87) (cond (Nat.beq pc 86) (o_const (1) 87) o_bad) (cond (Nat.blt pc 88) (cond (Nat.beq pc 87) (o_bin (fun x y => x - y) 88) o_bad) (cond (Nat.beq pc 88) (o_callS 2 sp_X10_isBelow 91) o_bad))) (cond (Nat.blt pc 95) (cond (Nat.blt pc 94) (cond (Nat.beq pc 91) (o_if (fun x => x = 0) 105 94) o_bad) (cond (Nat.beq pc 94) (o_aload 0 95) o_bad)) (cond (Nat.blt pc 98) (cond (Nat.beq pc 95) (o_getf 1 5 98) o_bad) (cond (Nat.beq pc 98) (o_iload 6 100) o_bad)))) (cond (Nat.blt pc 104) (cond (Nat.blt pc 102) (cond (Nat.blt pc 101) (cond (Nat.beq pc 100) (o_dup2 101) o_bad) (cond (Nat.beq pc 101) (o_iald 102) o_bad)) (cond (Nat.blt pc 103) (cond (Nat.beq pc 102) (o_const (1) 103) o_bad) (cond (Nat.beq pc 103) (o_bin (fun x y => x + y) 104) o_bad))) (cond (Nat.blt pc 108) (cond (Nat.blt pc 105) (cond (Nat.beq pc 104) (o_iast 105) o_bad) (cond (Nat.beq pc 105) (o_iinc 4 (1) 108) o_bad)) (cond (Nat.blt pc 111) (cond (Nat.beq pc 108) (o_goto 20) o_bad) (cond (Nat.beq pc 111) (o_vret) o_bad))))))
set_option maxRecDepth 20000 in
theorem ok_X1_tallyAround : HOKs cX1_tallyAround RX1 7 none 2 ins_X1_tallyAround := fun _ => hnd (hnd (hnd (hnd (hnd (hlf (ok_aload_n dX1_tallyAround_0 rfl rfl)) (hnd (hlf (ok_getf (C := RX1) (T := TX1) dX1_tallyAround_1 rfl rfl (by decide) rfl inX1 wd_192 rfl)) (hlf (ok_iconst dX1_tallyAround_4 (by decide) rfl)))) (hnd (hnd (hlf (ok_callS (y := yJ7_fill_53178) dX1_tallyAround_5 ct_J7_fill_53178 (by decide) (by decide) wd_334 wd_460 wd_333 wd_53 (by decide +kernel) rfl)) (hlf (ok_aload_n dX1_tallyAround_8 rfl rfl))) (hnd (hlf (ok_getfN (C := RX9) (T := TX9) dX1_tallyAround_9 rfl rfl (by decide) rfl inX9 wd_247 rfl)) (hlf (ok_iload_n dX1_tallyAround_12 rfl rfl))))) (hnd (hnd (hlf (ok_isub dX1_tallyAround_13 rfl)) (hnd (hlf (ok_iconst dX1_tallyAround_14 (by decide) rfl)) (hlf (ok_iadd dX1_tallyAround_15 rfl)))) (hnd (hnd (hlf (ok_istore_n dX1_tallyAround_16 rfl (by decide) rfl)) (hlf (ok_iconst dX1_tallyAround_17 (by decide) rfl))) (hnd (hlf (ok_istore dX1_tallyAround_18 (by decide) rfl)) (hlf (ok_iload dX1_tallyAround_20 rfl)))))) (hnd (hnd (hnd (hlf (ok_aload_n dX1_tallyAround_22 rfl rfl)) (hnd (hlf (ok_getf (C := RX1) (T := TX1) dX1_tallyAround_23 rfl rfl (by decide) rfl inX1 wd_188 rfl)) (hlf (ok_getfN (C := RX0) (T := TX0) dX1_tallyAround_26 rfl rfl (by decide) rfl inX0 wd_151 rfl)))) (hnd (hnd (hlf (ok_icmp_ge dX1_tallyAround_29 (by decide) rfl)) (hlf (ok_aload_n dX1_tallyAround_32 rfl rfl))) (hnd (hlf (ok_getf (C := RX1) (T := TX1) dX1_tallyAround_33 rfl rfl (by decide) rfl inX1 wd_188 rfl)) (hlf (ok_getfN (C := RX0) (T := TX0) dX1_tallyAround_36 rfl rfl (by decide) rfl inX0 wd_148 rfl))))) (hnd (hnd (hnd (hlf (ok_iload dX1_tallyAround_39 rfl)) (hlf (ok_aald dX1_tallyAround_41 rfl))) (hnd (hlf (ok_astore dX1_tallyAround_42 (by decide) rfl)) (hlf (ok_aload dX1_tallyAround_44 rfl)))) (hnd (hnd (hlf (ok_getfN (C := RX9) (T := TX9) dX1_tallyAround_46 rfl rfl (by decide) rfl inX9 wd_247 rfl)) (hlf (ok_iload_n dX1_tallyAround_49 rfl rfl))) (hnd (hlf (ok_isub dX1_tallyAround_50 rfl)) (hlf (ok_istore dX1_tallyAround_51 (by decide) rfl))))))) (hnd (hnd (hnd (hnd (hlf (ok_aload dX1_tallyAround_53 rfl)) (hnd (hlf (ok_getfN (C := RX9) (T := TX9) dX1_tallyAround_55 rfl rfl (by decide) rfl inX9 wd_263 rfl)) (hlf (ok_if_ne dX1_tallyAround_58 (by decide) rfl)))) (hnd (hnd (hlf (ok_aload dX1_tallyAround_61 rfl)) (hlf (ok_getfN (C := RX9) (T := TX9) dX1_tallyAround_63 rfl rfl (by decide) rfl inX9 wd_258 rfl))) (hnd (hlf (ok_if_ne dX1_tallyAround_66 (by decide) rfl)) (hlf (ok_aload dX1_tallyAround_69 rfl))))) (hnd (hnd (hnd (hlf (ok_getfN (C := RX9) (T := TX9) dX1_tallyAround_71 rfl rfl (by decide) rfl inX9 wd_236 rfl)) (hlf (ok_aload_n dX1_tallyAround_74 rfl rfl))) (hnd (hlf (ok_getfN (C := RX9) (T := TX9) dX1_tallyAround_75 rfl rfl (by decide) rfl inX9 wd_236 rfl)) (hlf (ok_icmp_ne dX1_tallyAround_78 (by decide) rfl)))) (hnd (hnd (hlf (ok_iload dX1_tallyAround_81 rfl)) (hlf (ok_iconst dX1_tallyAround_83 (by decide) rfl))) (hnd (hlf (ok_iload_n dX1_tallyAround_84 rfl rfl)) (hlf (ok_imul dX1_tallyAround_85 rfl)))))) (hnd (hnd (hnd (hlf (ok_iconst dX1_tallyAround_86 (by decide) rfl)) (hnd (hlf (ok_isub dX1_tallyAround_87 rfl)) (hlf (ok_callSN (y := yX10_isBelow) dX1_tallyAround_88 ct_X10_isBelow (by decide) (by decide) wd_320 wd_442 wd_319 wd_42 (by decide +kernel) rfl)))) (hnd (hnd (hlf (ok_if_eq dX1_tallyAround_91 (by decide) rfl)) (hlf (ok_aload_n dX1_tallyAround_94 rfl rfl))) (hnd (hlf (ok_getf (C := RX1) (T := TX1) dX1_tallyAround_95 rfl rfl (by decide) rfl inX1 wd_192 rfl)) (hlf (ok_iload dX1_tallyAround_98 rfl))))) (hnd (hnd (hnd (hlf (ok_dup2 dX1_tallyAround_100 rfl)) (hlf (ok_iald dX1_tallyAround_101 rfl))) (hnd (hlf (ok_iconst dX1_tallyAround_102 (by decide) rfl)) (hlf (ok_iadd dX1_tallyAround_103 rfl)))) (hnd (hnd (hlf (ok_iast dX1_tallyAround_104 rfl)) (hlf (ok_iinc dX1_tallyAround_105 (by decide) (by decide) rfl))) (hnd (hlf (ok_goto dX1_tallyAround_108 (by decide))) (hlf (ok_vret dX1_tallyAround_111)))))))

theorem vc_X1_tallyAround : MVC ins_X1_tallyAround 7 3 sp_X1_tallyAround := by
  refine mvc1 20 70 fun as w σ q hl hs => ?_
  unfold sp_X1_tallyAround at hs
  split at hs
  rotate_left
  · exact hs.elim
  rename_i v x
  obtain ⟨n, m, ⟨hn, hsz, hra⟩, hm1, hm2, rfl, hq⟩ := hs
  refine ⟨fun N ls st w' σ' => ∃ (i : Nat) (u : Int32) (x y : Option HV), i ≤ n ∧ N = n - i ∧ u = nI i ∧ ls = [some (HR 1 0), some (HR 9 v), some (HI (nI m)), some (HI (σ 9 v 2 - nI m + 1)), some (HI u), x, y] ∧ st = [] ∧ w = w' ∧ σ' = tyS σ v m i, ?_, ?_⟩
  · rintro N ls st w' σ' ⟨i, u, x, y, hi, rfl, rfl, rfl, rfl, rfl, rfl⟩
    have e1 : tyS σ v m i 0 0 1 = nI n := by rw [tyS_o (by decide)]; exact hsz
    have e9 : ∀ j f, tyS σ v m i 9 j f = σ 9 j f := fun j f => tyS_o (by decide)
    apply br2
    · intro h1
      obtain rfl := lp_end e1 hi h1
      exact hq
    · intro h1
      have hlt := lp_go e1 hi h1
      refine And.intro (vp_in_nI (N := 100) (by omega) (by decide)) (fun o ho => ?_)
      obtain rfl := ra_at ho (hra i hlt)
      have no : (∀ f, ¬ tyP σ v m i f) → ∃ N', N' < n - i ∧ ∃ (i' : Nat) (u : Int32) (x y : Option HV), i' ≤ n ∧ N' = n - i' ∧ u = nI i' ∧ [some (HR 1 0), some (HR 9 v), some (HI (nI m)), some (HI (σ 9 v 2 - nI m + 1)), some (HI (nI i + 1)), some (HR 9 i), some (HI (tyS σ v m i 9 i 2 - (σ 9 v 2 - nI m + 1)))] = [some (HR 1 0), some (HR 9 v), some (HI (nI m)), some (HI (σ 9 v 2 - nI m + 1)), some (HI u), x, y] ∧ ([] : List HV) = [] ∧ w = w ∧ tyS σ v m i = tyS σ v m i' := fun h =>
        ⟨n - (i + 1), by omega, i + 1, _, _, _, hlt, rfl, nI_1 i, rfl, rfl, rfl, tyS_n h⟩
      apply br2
      rotate_left
      · intro h2
        exact no fun f h => h2 (by show tyS σ v m i 9 i 6 = 0; rw [e9]; exact h.1)
      intro h2
      apply br2
      rotate_left
      · intro h3
        exact no fun f h => h3 (by show tyS σ v m i 9 i 5 = 0; rw [e9]; exact h.2.1)
      intro h3
      apply br2
      rotate_left
      · intro h4
        exact no fun f h => h4 (by show tyS σ v m i 9 i 0 = tyS σ v m i 9 v 0; rw [e9, e9]; exact h.2.2.1)
      intro h4
      have h2 : tyS σ v m i 9 i 6 = 0 := h2
      have h3 : tyS σ v m i 9 i 5 = 0 := h3
      have h4 : tyS σ v m i 9 i 0 = tyS σ v m i 9 v 0 := h4
      rw [e9] at h2 h3
      rw [e9, e9] at h4
      apply br2
      · intro h5
        have h5 : 0 ≤ tyS σ v m i 9 i 2 - (σ 9 v 2 - nI m + 1) ∧ tyS σ v m i 9 i 2 - (σ 9 v 2 - nI m + 1) < 2 * nI m - 1 := h5
        rw [two_m m hm1] at h5
        obtain ⟨j, hj, ej⟩ := in_of h5
        have hy : tyP σ v m i j := ⟨h2, h3, h4, by rw [← e9 i 2]; exact ej, hj⟩
        refine And.intro (fun h => absurd h (by decide)) (fun _ => ?_)
        have ec : (tyS σ v m i 9 i 2 - (σ 9 v 2 - nI m + 1)).toNatClampNeg = j := by rw [ej]; exact nI_clamp (by omega)
        have hin : vp_in (tyS σ v m i 9 i 2 - (σ 9 v 2 - nI m + 1)) 119 := by rw [ej]; exact vp_in_nI (by omega) (by decide)
        refine And.intro hin (And.intro hin ?_)
        refine ⟨n - (i + 1), by omega, i + 1, _, _, _, hlt, rfl, nI_1 i, rfl, rfl, rfl, ?_⟩
        rw [ec]
        exact tyS_y hy hm2
      · intro h5
        refine And.intro (fun _ => no fun f h => h5 ?_) (fun h => absurd rfl h)
        show 0 ≤ tyS σ v m i 9 i 2 - (σ 9 v 2 - nI m + 1) ∧ tyS σ v m i 9 i 2 - (σ 9 v 2 - nI m + 1) < 2 * nI m - 1
        rw [e9, h.2.2.2.1, two_m m hm1]
        exact ⟨nI_pos' (by omega), nI_lt h.2.2.2.2 (by omega)⟩
  · exact ⟨n, 0, 0, none, none, Nat.zero_le _, rfl, rfl, rfl, rfl, rfl, tyS_0 σ v m⟩
theorem ct_X1_tallyAround : Ctr yX1_tallyAround cX1_tallyAround 7 none 2 0 0 3 sp_X1_tallyAround := ctr_of (by decide +kernel) rfl (by decide) ok_X1_tallyAround vc_X1_tallyAround

def eqT (σ σ' : HS) : Prop := ∀ k i f, ¬ (k = 13 ∧ i = 3) → σ' k i f = σ k i f
theorem eqT_ty (σ : HS) (v m n : Nat) : eqT σ (tyS σ v m n) := fun k i f h => by
  simp only [tyS]
  rw [if_neg fun q => h ⟨q.1, q.2.1⟩]
/-- visits of a span that begins at place k -/
def winC (σ : HS) (v m n k : Nat) : Nat := sm (fun j => cnt (fun i => decide (tyP σ v m i (k + j))) n) m
def mostP (σ : HS) (v m n M : Nat) : Prop := (∀ k, k < m → winC σ v m n k ≤ M) ∧ ∃ k, k < m ∧ winC σ v m n k = M
theorem sm_shift (f : Nat → Nat) (k : Nat) : ∀ m, sm (fun j => f (k + 1 + j)) m + f k = sm (fun j => f (k + j)) m + f (k + m)
  | 0 => by simp [sm]
  | m + 1 => by
    have h := sm_shift f k m
    simp only [sm]
    have e : k + 1 + m = k + (m + 1) := by omega
    rw [e]
    omega
theorem sm_le {f : Nat → Nat} {c : Nat} (h : ∀ j, f j ≤ c) : ∀ m, sm f m ≤ m * c
  | 0 => by simp [sm]
  | m + 1 => by
    have h1 := sm_le h m
    have h2 := h m
    simp only [sm, Nat.succ_mul]
    omega
def sp_X1_mostInSpan : HSp := fun as w σ K => match as with
  | [.inr (.inl (1, some 0)), .inr (.inl (9, some v)), .inl x] => ∃ n m, Bk w σ n ∧ 1 ≤ m ∧ m ≤ 60 ∧ x = nI m ∧ ∀ σ' M, eqT σ σ' → mostP σ v m n M → M ≤ 6000 → K (some (HI (nI M))) w σ'
  | _ => False
theorem dX1_mostInSpan_0 : decode cX1_mostInSpan 0 = .ok (.iload_n 2, 1) := by decide +kernel
theorem dX1_mostInSpan_1 : decode cX1_mostInSpan 1 = .ok (.iconst 1, 1) := by decide +kernel
theorem dX1_mostInSpan_2 : decode cX1_mostInSpan 2 = .ok (.if_icmp .lt 9, 3) := by decide +kernel
theorem dX1_mostInSpan_5 : decode cX1_mostInSpan 5 = .ok (.iload_n 2, 1) := by decide +kernel
theorem dX1_mostInSpan_6 : decode cX1_mostInSpan 6 = .ok (.bipush 60, 2) := by decide +kernel
theorem dX1_mostInSpan_8 : decode cX1_mostInSpan 8 = .ok (.if_icmp .le 5, 3) := by decide +kernel
theorem dX1_mostInSpan_11 : decode cX1_mostInSpan 11 = .ok (.iconst 0, 1) := by decide +kernel
theorem dX1_mostInSpan_12 : decode cX1_mostInSpan 12 = .ok (.ireturn, 1) := by decide +kernel
theorem dX1_mostInSpan_13 : decode cX1_mostInSpan 13 = .ok (.aload_n 0, 1) := by decide +kernel
theorem dX1_mostInSpan_14 : decode cX1_mostInSpan 14 = .ok (.aload_n 1, 1) := by decide +kernel
theorem dX1_mostInSpan_15 : decode cX1_mostInSpan 15 = .ok (.iload_n 2, 1) := by decide +kernel
theorem dX1_mostInSpan_16 : decode cX1_mostInSpan 16 = .ok (.invokevirtual 155, 3) := by decide +kernel
theorem dX1_mostInSpan_19 : decode cX1_mostInSpan 19 = .ok (.iconst 0, 1) := by decide +kernel
theorem dX1_mostInSpan_20 : decode cX1_mostInSpan 20 = .ok (.istore_n 3, 1) := by decide +kernel
theorem dX1_mostInSpan_21 : decode cX1_mostInSpan 21 = .ok (.iconst 0, 1) := by decide +kernel
theorem dX1_mostInSpan_22 : decode cX1_mostInSpan 22 = .ok (.istore 4, 2) := by decide +kernel
theorem dX1_mostInSpan_24 : decode cX1_mostInSpan 24 = .ok (.iload 4, 2) := by decide +kernel
theorem dX1_mostInSpan_26 : decode cX1_mostInSpan 26 = .ok (.iload_n 2, 1) := by decide +kernel
theorem dX1_mostInSpan_27 : decode cX1_mostInSpan 27 = .ok (.if_icmp .ge 19, 3) := by decide +kernel
theorem dX1_mostInSpan_30 : decode cX1_mostInSpan 30 = .ok (.iload_n 3, 1) := by decide +kernel
theorem dX1_mostInSpan_31 : decode cX1_mostInSpan 31 = .ok (.aload_n 0, 1) := by decide +kernel
theorem dX1_mostInSpan_32 : decode cX1_mostInSpan 32 = .ok (.getfield 17, 3) := by decide +kernel
theorem dX1_mostInSpan_35 : decode cX1_mostInSpan 35 = .ok (.iload 4, 2) := by decide +kernel
theorem dX1_mostInSpan_37 : decode cX1_mostInSpan 37 = .ok (.iaload, 1) := by decide +kernel
theorem dX1_mostInSpan_38 : decode cX1_mostInSpan 38 = .ok (.iadd, 1) := by decide +kernel
theorem dX1_mostInSpan_39 : decode cX1_mostInSpan 39 = .ok (.istore_n 3, 1) := by decide +kernel
theorem dX1_mostInSpan_40 : decode cX1_mostInSpan 40 = .ok (.iinc 4 1, 3) := by decide +kernel
theorem dX1_mostInSpan_43 : decode cX1_mostInSpan 43 = .ok (.goto (-19), 3) := by decide +kernel
theorem dX1_mostInSpan_46 : decode cX1_mostInSpan 46 = .ok (.iload_n 3, 1) := by decide +kernel
theorem dX1_mostInSpan_47 : decode cX1_mostInSpan 47 = .ok (.istore 4, 2) := by decide +kernel
theorem dX1_mostInSpan_49 : decode cX1_mostInSpan 49 = .ok (.iload_n 2, 1) := by decide +kernel
theorem dX1_mostInSpan_50 : decode cX1_mostInSpan 50 = .ok (.istore 5, 2) := by decide +kernel
theorem dX1_mostInSpan_52 : decode cX1_mostInSpan 52 = .ok (.iload 5, 2) := by decide +kernel
theorem dX1_mostInSpan_54 : decode cX1_mostInSpan 54 = .ok (.iconst 2, 1) := by decide +kernel
theorem dX1_mostInSpan_55 : decode cX1_mostInSpan 55 = .ok (.iload_n 2, 1) := by decide +kernel
theorem dX1_mostInSpan_56 : decode cX1_mostInSpan 56 = .ok (.imul, 1) := by decide +kernel
theorem dX1_mostInSpan_57 : decode cX1_mostInSpan 57 = .ok (.iconst 1, 1) := by decide +kernel
theorem dX1_mostInSpan_58 : decode cX1_mostInSpan 58 = .ok (.isub, 1) := by decide +kernel
theorem dX1_mostInSpan_59 : decode cX1_mostInSpan 59 = .ok (.if_icmp .ge 37, 3) := by decide +kernel
theorem dX1_mostInSpan_62 : decode cX1_mostInSpan 62 = .ok (.iload_n 3, 1) := by decide +kernel
theorem dX1_mostInSpan_63 : decode cX1_mostInSpan 63 = .ok (.aload_n 0, 1) := by decide +kernel
theorem dX1_mostInSpan_64 : decode cX1_mostInSpan 64 = .ok (.getfield 17, 3) := by decide +kernel
theorem dX1_mostInSpan_67 : decode cX1_mostInSpan 67 = .ok (.iload 5, 2) := by decide +kernel
theorem dX1_mostInSpan_69 : decode cX1_mostInSpan 69 = .ok (.iaload, 1) := by decide +kernel
theorem dX1_mostInSpan_70 : decode cX1_mostInSpan 70 = .ok (.aload_n 0, 1) := by decide +kernel
theorem dX1_mostInSpan_71 : decode cX1_mostInSpan 71 = .ok (.getfield 17, 3) := by decide +kernel
theorem dX1_mostInSpan_74 : decode cX1_mostInSpan 74 = .ok (.iload 5, 2) := by decide +kernel
theorem dX1_mostInSpan_76 : decode cX1_mostInSpan 76 = .ok (.iload_n 2, 1) := by decide +kernel
theorem dX1_mostInSpan_77 : decode cX1_mostInSpan 77 = .ok (.isub, 1) := by decide +kernel
theorem dX1_mostInSpan_78 : decode cX1_mostInSpan 78 = .ok (.iaload, 1) := by decide +kernel
theorem dX1_mostInSpan_79 : decode cX1_mostInSpan 79 = .ok (.isub, 1) := by decide +kernel
theorem dX1_mostInSpan_80 : decode cX1_mostInSpan 80 = .ok (.iadd, 1) := by decide +kernel
theorem dX1_mostInSpan_81 : decode cX1_mostInSpan 81 = .ok (.istore_n 3, 1) := by decide +kernel
theorem dX1_mostInSpan_82 : decode cX1_mostInSpan 82 = .ok (.iload 4, 2) := by decide +kernel
theorem dX1_mostInSpan_84 : decode cX1_mostInSpan 84 = .ok (.iload_n 3, 1) := by decide +kernel
theorem dX1_mostInSpan_85 : decode cX1_mostInSpan 85 = .ok (.invokestatic 159, 3) := by decide +kernel
theorem dX1_mostInSpan_88 : decode cX1_mostInSpan 88 = .ok (.istore 4, 2) := by decide +kernel
theorem dX1_mostInSpan_90 : decode cX1_mostInSpan 90 = .ok (.iinc 5 1, 3) := by decide +kernel
theorem dX1_mostInSpan_93 : decode cX1_mostInSpan 93 = .ok (.goto (-41), 3) := by decide +kernel
theorem dX1_mostInSpan_96 : decode cX1_mostInSpan 96 = .ok (.iload 4, 2) := by decide +kernel
theorem dX1_mostInSpan_98 : decode cX1_mostInSpan 98 = .ok (.ireturn, 1) := by decide +kernel
def ins_X1_mostInSpan (pc : Nat) : HOp := cond (Nat.blt pc 49) (cond (Nat.blt pc 22) (cond (Nat.blt pc 12) (cond (Nat.blt pc 5) (cond (Nat.blt pc 1) (cond (Nat.beq pc 0) (o_iload 2 1) o_bad) (cond (Nat.blt pc 2) (cond (Nat.beq pc 1) (o_const (1) 2) o_bad) (cond (Nat.beq pc 2) (o_icmp (fun x y => x < y) 11 5) o_bad))) (cond (Nat.blt pc 8) (cond (Nat.blt pc 6) (cond (Nat.beq pc 5) (o_iload 2 6) o_bad) (cond (Nat.beq pc 6) (o_const (60) 8) o_bad)) (cond (Nat.blt pc 11) (cond (Nat.beq pc 8) (o_icmp (fun x y => x ≤ y) 13 11) o_bad) (cond (Nat.beq pc 11) (o_const (0) 12) o_bad)))) (cond (Nat.blt pc 16) (cond (Nat.blt pc 14) (cond (Nat.blt pc 13) (cond (Nat.beq pc 12) (o_iret) o_bad) (cond (Nat.beq pc 13) (o_aload 0 14) o_bad)) (cond (Nat.blt pc 15) (cond (Nat.beq pc 14) (o_aload 1 15) o_bad) (cond (Nat.beq pc 15) (o_iload 2 16) o_bad))) (cond (Nat.blt pc 20) (cond (Nat.blt pc 19) (cond (Nat.beq pc 16) (o_callV 3 1 sp_X1_tallyAround 19) o_bad) (cond (Nat.beq pc 19) (o_const (0) 20) o_bad)) (cond (Nat.blt pc 21) (cond (Nat.beq pc 20) (o_istore 3 21) o_bad) (cond (Nat.beq pc 21) (o_const (0) 22) o_bad))))) (cond (Nat.blt pc 35) (cond (Nat.blt pc 27) (cond (Nat.blt pc 24) (cond (Nat.beq pc 22) (o_istore 4 24) o_bad) (cond (Nat.blt pc 26) (cond (Nat.beq pc 24) (o_iload 4 26) o_bad) (cond (Nat.beq pc 26) (o_iload 2 27) o_bad))) (cond (Nat.blt pc 31) (cond (Nat.blt pc 30) (cond (Nat.beq pc 27) (o_icmp (fun x y => y ≤ x) 46 30) o_bad) (cond (Nat.beq pc 30) (o_iload 3 31) o_bad)) (cond (Nat.blt pc 32) (cond (Nat.beq pc 31) (o_aload 0 32) o_bad) (cond (Nat.beq pc 32) (o_getf 1 5 35) o_bad)))) (cond (Nat.blt pc 40) (cond (Nat.blt pc 38) (cond (Nat.blt pc 37) (cond (Nat.beq pc 35) (o_iload 4 37) o_bad) (cond (Nat.beq pc 37) (o_iald 38) o_bad)) (cond (Nat.blt pc 39) (cond (Nat.beq pc 38) (o_bin (fun x y => x + y) 39) o_bad) (cond (Nat.beq pc 39) (o_istore 3 40) o_bad))) (cond (Nat.blt pc 46) (cond (Nat.blt pc 43) (cond (Nat.beq pc 40) (o_iinc 4 (1) 43) o_bad) (cond (Nat.beq pc 43) (o_goto 24) o_bad)) (cond (Nat.blt pc 47) (cond (Nat.beq pc 46) (o_iload 3 47) o_bad) (cond (Nat.beq pc 47) (o_istore 4 49) o_bad)))))) (cond (Nat.blt pc 71) (cond (Nat.blt pc 58) (cond (Nat.blt pc 54) (cond (Nat.blt pc 50) (cond (Nat.beq pc 49) (o_iload 2 50) o_bad) (cond (Nat.blt pc 52) (cond (Nat.beq pc 50) (o_istore 5 52) o_bad) (cond (Nat.beq pc 52) (o_iload 5 54) o_bad))) (cond (Nat.blt pc 56) (cond (Nat.blt pc 55) (cond (Nat.beq pc 54) (o_const (2) 55) o_bad) (cond (Nat.beq pc 55) (o_iload 2 56) o_bad)) (cond (Nat.blt pc 57) (cond (Nat.beq pc 56) (o_bin (fun x y => x * y) 57) o_bad) (cond (Nat.beq pc 57) (o_const (1) 58) o_bad)))) (cond (Nat.blt pc 64) (cond (Nat.blt pc 62) (cond (Nat.blt pc 59) (cond (Nat.beq pc 58) (o_bin (fun x y => x - y) 59) o_bad) (cond (Nat.beq pc 59) (o_icmp (fun x y => y ≤ x) 96 62) o_bad)) (cond (Nat.blt pc 63) (cond (Nat.beq pc 62) (o_iload 3 63) o_bad) (cond (Nat.beq pc 63) (o_aload 0 64) o_bad))) (cond (Nat.blt pc 69) (cond (Nat.blt pc 67) (cond (Nat.beq pc 64) (o_getf 1 5 67) o_bad) (cond (Nat.beq pc 67) (o_iload 5 69) o_bad)) (cond (Nat.blt pc 70) (cond (Nat.beq pc 69) (o_iald 70) o_bad) (cond (Nat.beq pc 70) (o_aload 0 71) o_bad))))) (cond (Nat.blt pc 82) (cond (Nat.blt pc 78) (cond (Nat.blt pc 76) (cond (Nat.blt pc 74) (cond (Nat.beq pc 71) (o_getf 1 5 74) o_bad) (cond (Nat.beq pc 74) (o_iload 5 76) o_bad)) (cond (Nat.blt pc 77) (cond (Nat.beq pc 76) (o_iload 2 77) o_bad) (cond (Nat.beq pc 77) (o_bin (fun x y => x - y) 78) o_bad))) (cond (Nat.blt pc 80) (cond (Nat.blt pc 79) (cond (Nat.beq pc 78) (o_iald 79) o_bad) (cond (Nat.beq pc 79) (o_bin (fun x y => x - y) 80) o_bad)) (cond (Nat.blt pc 81) (cond (Nat.beq pc 80) (o_bin (fun x y => x + y) 81) o_bad) (cond (Nat.beq pc 81) (o_istore 3 82) o_bad)))) (cond (Nat.blt pc 90) (cond (Nat.blt pc 85) (cond (Nat.blt pc 84) (cond (Nat.beq pc 82) (o_iload 4 84) o_bad) (cond (Nat.beq pc 84) (o_iload 3 85) o_bad)) (cond (Nat.blt pc 88) (cond (Nat.beq pc 85) (o_max 88) o_bad) (cond (Nat.beq pc 88) (o_istore 4 90) o_bad))) (cond (Nat.blt pc 96) (cond (Nat.blt pc 93) (cond (Nat.beq pc 90) (o_iinc 5 (1) 93) o_bad) (cond (Nat.beq pc 93) (o_goto 52) o_bad)) (cond (Nat.blt pc 98) (cond (Nat.beq pc 96) (o_iload 4 98) o_bad) (cond (Nat.beq pc 98) (o_iret) o_bad))))))
set_option maxRecDepth 20000 in
theorem ok_X1_mostInSpan : HOKs cX1_mostInSpan RX1 6 (some .int) 3 ins_X1_mostInSpan := fun _ => hnd (hnd (hnd (hnd (hnd (hlf (ok_iload_n dX1_mostInSpan_0 rfl rfl)) (hnd (hlf (ok_iconst dX1_mostInSpan_1 (by decide) rfl)) (hlf (ok_icmp_lt dX1_mostInSpan_2 (by decide) rfl)))) (hnd (hnd (hlf (ok_iload_n dX1_mostInSpan_5 rfl rfl)) (hlf (ok_bipush dX1_mostInSpan_6 (by decide) rfl))) (hnd (hlf (ok_icmp_le dX1_mostInSpan_8 (by decide) rfl)) (hlf (ok_iconst dX1_mostInSpan_11 (by decide) rfl))))) (hnd (hnd (hnd (hlf (ok_iret dX1_mostInSpan_12)) (hlf (ok_aload_n dX1_mostInSpan_13 rfl rfl))) (hnd (hlf (ok_aload_n dX1_mostInSpan_14 rfl rfl)) (hlf (ok_iload_n dX1_mostInSpan_15 rfl rfl)))) (hnd (hnd (hlf (ok_callV (y := yX1_tallyAround) (n' := 2) (C := RX1) (T := TX1) dX1_mostInSpan_16 ct_X1_tallyAround (by decide) (by decide) wd_459 wd_456 wd_458 wd_3 wd_48 rfl (by decide +kernel) rfl rfl rfl)) (hlf (ok_iconst dX1_mostInSpan_19 (by decide) rfl))) (hnd (hlf (ok_istore_n dX1_mostInSpan_20 rfl (by decide) rfl)) (hlf (ok_iconst dX1_mostInSpan_21 (by decide) rfl)))))) (hnd (hnd (hnd (hlf (ok_istore dX1_mostInSpan_22 (by decide) rfl)) (hnd (hlf (ok_iload dX1_mostInSpan_24 rfl)) (hlf (ok_iload_n dX1_mostInSpan_26 rfl rfl)))) (hnd (hnd (hlf (ok_icmp_ge dX1_mostInSpan_27 (by decide) rfl)) (hlf (ok_iload_n dX1_mostInSpan_30 rfl rfl))) (hnd (hlf (ok_aload_n dX1_mostInSpan_31 rfl rfl)) (hlf (ok_getf (C := RX1) (T := TX1) dX1_mostInSpan_32 rfl rfl (by decide) rfl inX1 wd_192 rfl))))) (hnd (hnd (hnd (hlf (ok_iload dX1_mostInSpan_35 rfl)) (hlf (ok_iald dX1_mostInSpan_37 rfl))) (hnd (hlf (ok_iadd dX1_mostInSpan_38 rfl)) (hlf (ok_istore_n dX1_mostInSpan_39 rfl (by decide) rfl)))) (hnd (hnd (hlf (ok_iinc dX1_mostInSpan_40 (by decide) (by decide) rfl)) (hlf (ok_goto dX1_mostInSpan_43 (by decide)))) (hnd (hlf (ok_iload_n dX1_mostInSpan_46 rfl rfl)) (hlf (ok_istore dX1_mostInSpan_47 (by decide) rfl))))))) (hnd (hnd (hnd (hnd (hlf (ok_iload_n dX1_mostInSpan_49 rfl rfl)) (hnd (hlf (ok_istore dX1_mostInSpan_50 (by decide) rfl)) (hlf (ok_iload dX1_mostInSpan_52 rfl)))) (hnd (hnd (hlf (ok_iconst dX1_mostInSpan_54 (by decide) rfl)) (hlf (ok_iload_n dX1_mostInSpan_55 rfl rfl))) (hnd (hlf (ok_imul dX1_mostInSpan_56 rfl)) (hlf (ok_iconst dX1_mostInSpan_57 (by decide) rfl))))) (hnd (hnd (hnd (hlf (ok_isub dX1_mostInSpan_58 rfl)) (hlf (ok_icmp_ge dX1_mostInSpan_59 (by decide) rfl))) (hnd (hlf (ok_iload_n dX1_mostInSpan_62 rfl rfl)) (hlf (ok_aload_n dX1_mostInSpan_63 rfl rfl)))) (hnd (hnd (hlf (ok_getf (C := RX1) (T := TX1) dX1_mostInSpan_64 rfl rfl (by decide) rfl inX1 wd_192 rfl)) (hlf (ok_iload dX1_mostInSpan_67 rfl))) (hnd (hlf (ok_iald dX1_mostInSpan_69 rfl)) (hlf (ok_aload_n dX1_mostInSpan_70 rfl rfl)))))) (hnd (hnd (hnd (hnd (hlf (ok_getf (C := RX1) (T := TX1) dX1_mostInSpan_71 rfl rfl (by decide) rfl inX1 wd_192 rfl)) (hlf (ok_iload dX1_mostInSpan_74 rfl))) (hnd (hlf (ok_iload_n dX1_mostInSpan_76 rfl rfl)) (hlf (ok_isub dX1_mostInSpan_77 rfl)))) (hnd (hnd (hlf (ok_iald dX1_mostInSpan_78 rfl)) (hlf (ok_isub dX1_mostInSpan_79 rfl))) (hnd (hlf (ok_iadd dX1_mostInSpan_80 rfl)) (hlf (ok_istore_n dX1_mostInSpan_81 rfl (by decide) rfl))))) (hnd (hnd (hnd (hlf (ok_iload dX1_mostInSpan_82 rfl)) (hlf (ok_iload_n dX1_mostInSpan_84 rfl rfl))) (hnd (hlf (ok_max dX1_mostInSpan_85 wd_461 wd_462 wd_54 wd_463 (by decide) rfl)) (hlf (ok_istore dX1_mostInSpan_88 (by decide) rfl)))) (hnd (hnd (hlf (ok_iinc dX1_mostInSpan_90 (by decide) (by decide) rfl)) (hlf (ok_goto dX1_mostInSpan_93 (by decide)))) (hnd (hlf (ok_iload dX1_mostInSpan_96 rfl)) (hlf (ok_iret dX1_mostInSpan_98)))))))

theorem vc_X1_mostInSpan : MVC ins_X1_mostInSpan 6 3 sp_X1_mostInSpan := by
  intro as w σ q hl hs
  unfold sp_X1_mostInSpan at hs
  split at hs
  rotate_left
  · exact hs.elim
  rename_i v x
  obtain ⟨n, m, hB, hm1, hm2, rfl, hq⟩ := hs
  have hn := hB.1
  obtain ⟨T, hT⟩ : ∃ T : Nat → Nat, T = fun j => cnt (fun i => decide (tyP σ v m i j)) n := ⟨_, rfl⟩
  have hTn : ∀ j, T j ≤ n := fun j => by rw [hT]; exact cnt_le _ _
  have hTv : ∀ j, j < 119 → tyS σ v m n 13 3 j = nI (T j) := fun j hj => by simp [tyS, hj, hT]
  have hW : ∀ k, winC σ v m n k = sm (fun j => T (k + j)) m := fun k => by rw [hT]; rfl
  have hWb : ∀ k, winC σ v m n k ≤ 6000 := fun k => by
    rw [hW]
    have h1 := sm_le (f := fun j => T (k + j)) (c := 100) (fun j => Nat.le_trans (hTn _) hn) m
    omega
  refine ⟨fun pc => Nat.beq pc 24 || Nat.beq pc 52, fun pc N ls st w' σ' =>
    (pc = 24 ∧ ∃ (i : Nat) (u z : Int32) (o : Option HV), i ≤ m ∧ N = 1000 + (m - i) ∧ u = nI (sm T i) ∧ z = nI i ∧ ls = [some (HR 1 0), some (HR 9 v), some (HI (nI m)), some (HI u), some (HI z), o] ∧ st = [] ∧ w = w' ∧ σ' = tyS σ v m n) ∨
    (pc = 52 ∧ ∃ (k M : Nat) (u z y : Int32), k < m ∧ N = m - 1 - k ∧ u = nI (winC σ v m n k) ∧ z = nI M ∧ y = nI (m + k) ∧ (∀ j, j ≤ k → winC σ v m n j ≤ M) ∧ (∃ j, j ≤ k ∧ winC σ v m n j = M) ∧ ls = [some (HR 1 0), some (HR 9 v), some (HI (nI m)), some (HI u), some (HI z), some (HI y)] ∧ st = [] ∧ w = w' ∧ σ' = tyS σ v m n), 80, 80, ?_, ?_⟩
  · rintro N pc ls st w' σ' hh (⟨rfl, i, u, z, o, hi, rfl, rfl, rfl, rfl, rfl, rfl, rfl⟩ | ⟨rfl, k, M, u, z, y, hk, rfl, rfl, rfl, rfl, hM1, hM2, rfl, rfl, rfl, rfl⟩)
    · apply br2
      · intro h1
        obtain rfl := lp_end rfl hi h1
        refine ⟨i - 1, by omega, Or.inr ⟨rfl, 0, sm T i, _, _, _, by omega, rfl, ?_, rfl, rfl, ?_, ?_, rfl, rfl, rfl, rfl⟩⟩
        · rw [hW]; simp
        · intro j hj
          have : j = 0 := by omega
          subst this
          rw [hW]; simp
        · exact ⟨0, Nat.le_refl _, by rw [hW]; simp⟩
      · intro h1
        have hlt := lp_go rfl hi h1
        have e : (nI i).toNatClampNeg = i := nI_clamp (by omega)
        refine And.intro (vp_in_nI (N := 119) (by omega) (by decide)) ?_
        refine ⟨1000 + (m - (i + 1)), by omega, Or.inl ⟨rfl, i + 1, _, _, _, hlt, rfl, ?_, nI_1 i, rfl, rfl, rfl, rfl⟩⟩
        show nI (sm T i) + tyS σ v m n 13 3 (nI i).toNatClampNeg = _
        rw [e, hTv i (by omega)]
        exact nI_add _ _
    · have e2 : 2 * nI m - 1 = nI (2 * m - 1) := two_m m hm1
      apply br2
      · intro h1
        have h1 : 2 * nI m - 1 ≤ nI (m + k) := h1
        have := lp_end e2 (by omega) h1
        exact hq _ M (eqT_ty σ v m n) ⟨fun j hj => hM1 j (by omega), hM2.elim fun j h => ⟨j, by omega, h.2⟩⟩ (by obtain ⟨j, _, h2⟩ := hM2; rw [← h2]; exact hWb j)
      · intro h1
        have h1 : ¬ 2 * nI m - 1 ≤ nI (m + k) := h1
        have hlt := lp_go e2 (by omega) h1
        have ea : (nI (m + k)).toNatClampNeg = m + k := nI_clamp (by omega)
        have eb : nI (m + k) - nI m = nI k := by rw [pk_sub (by omega)]; congr 1; omega
        have ec : (nI k).toNatClampNeg = k := nI_clamp (by omega)
        refine And.intro (vp_in_nI (N := 119) (by omega) (by decide)) ?_
        refine And.intro (by show vp_in (nI (m + k) - nI m) 119; rw [eb]; exact vp_in_nI (by omega) (by decide)) ?_
        have hs9 : winC σ v m n k + T (m + k) = winC σ v m n (k + 1) + T k := by
          have := sm_shift T k m
          rw [hW, hW, Nat.add_comm m k]
          omega
        have eu : nI (winC σ v m n k) + (tyS σ v m n 13 3 (nI (m + k)).toNatClampNeg - tyS σ v m n 13 3 (nI (m + k) - nI m).toNatClampNeg) = nI (winC σ v m n (k + 1)) := by
          rw [ea, eb, ec, hTv _ (by omega), hTv _ (by omega)]
          have h1 : nI (winC σ v m n k) + nI (T (m + k)) = nI (winC σ v m n (k + 1)) + nI (T k) := by rw [nI_add, nI_add, hs9]
          have h2 : nI (winC σ v m n k) + (nI (T (m + k)) - nI (T k)) = nI (winC σ v m n k) + nI (T (m + k)) - nI (T k) := by
            rw [Int32.sub_eq_add_neg, Int32.sub_eq_add_neg, Int32.add_assoc]
          rw [h2, h1, Int32.sub_eq_add_neg, Int32.add_assoc, ← Int32.sub_eq_add_neg, Int32.sub_self, Int32.add_zero]
        have em : (if nI M < nI (winC σ v m n (k + 1)) then nI (winC σ v m n (k + 1)) else nI M) = nI (max M (winC σ v m n (k + 1))) := by
          have hb1 := hWb (k + 1)
          have hb2 : M ≤ 6000 := by obtain ⟨j, _, h2⟩ := hM2; rw [← h2]; exact hWb j
          by_cases c : M < winC σ v m n (k + 1)
          · rw [if_pos (nI_lt c (by omega)), Nat.max_eq_right (by omega)]
          · rw [if_neg (nI_nlt (by omega) (by omega)), Nat.max_eq_left (by omega)]
        refine ⟨m - 1 - (k + 1), by omega, Or.inr ⟨rfl, k + 1, max M (winC σ v m n (k + 1)), _, _, _, by omega, rfl, eu, ?_, by rw [← Nat.add_assoc]; exact nI_1 _, ?_, ?_, rfl, rfl, rfl, rfl⟩⟩
        · show (if nI M < nI (winC σ v m n k) + (tyS σ v m n 13 3 (nI (m + k)).toNatClampNeg - tyS σ v m n 13 3 (nI (m + k) - nI m).toNatClampNeg) then nI (winC σ v m n k) + (tyS σ v m n 13 3 (nI (m + k)).toNatClampNeg - tyS σ v m n 13 3 (nI (m + k) - nI m).toNatClampNeg) else nI M) = _
          rw [eu]
          exact em
        · intro j hj
          rcases Nat.eq_or_lt_of_le hj with h | h
          · rw [h]; exact Nat.le_max_right _ _
          · exact Nat.le_trans (hM1 j (by omega)) (Nat.le_max_left _ _)
        · by_cases c : M ≤ winC σ v m n (k + 1)
          · exact ⟨k + 1, Nat.le_refl _, (Nat.max_eq_right c).symm⟩
          · obtain ⟨j, hj, h2⟩ := hM2
            exact ⟨j, by omega, by rw [h2, Nat.max_eq_left (by omega)]⟩
  · have h1 : ¬ nI m < 1 := nI_nlt (b := 1) hm1 (by omega)
    have h2 : nI m ≤ 60 := nI_le (b := 60) hm2 (by decide)
    refine And.intro (fun h => absurd h h1) (fun _ => And.intro (fun _ => ?_) (fun h => absurd h2 h))
    refine ⟨n, m, hB, hm1, hm2, rfl, ?_⟩
    exact ⟨_, Or.inl ⟨rfl, 0, 0, 0, none, Nat.zero_le _, rfl, rfl, rfl, rfl, rfl, rfl, rfl⟩⟩
theorem ct_X1_mostInSpan : Ctr yX1_mostInSpan cX1_mostInSpan 6 (some .int) 3 0 0 3 sp_X1_mostInSpan := ctr_of (by decide +kernel) rfl (by decide) ok_X1_mostInSpan vc_X1_mostInSpan
end
section
/-! VisitHall.Gate, 3 -/
abbrev farC (σ : HS) (v r nv : Nat) : Prop := ¬ σ 4 r 2 = -1000000005 ∧ ∃ u, u < nv ∧ bt1 (σ 9 v 1) u ∧ ¬ σ 13 1 u < σ 4 r 2
noncomputable def gvC (σ : HS) (v r nv : Nat) : Int32 := cif (farC σ v r nv) (σ 4 r 0 + σ 4 r 3) (σ 4 r 0)
def sp_X1_reasonOfRight : HSp := fun as w σ K => match as with
  | [.inr (.inl (1, some 0)), .inr (.inl (9, some v))] => ∃ n np p c nv, Bk w σ n ∧ Pk w σ np ∧ p < np ∧ σ 9 v 0 = nI p ∧ c < 4 ∧ σ 3 p 0 = nI c ∧ nv ≤ 14 ∧ σ 2 0 4 = nI nv ∧ (w.2 16 c = none → K (some (HI 5)) w σ) ∧ (∀ r, w.2 16 c = some r → ∃ m, 1 ≤ m ∧ m ≤ 60 ∧ σ 4 r 1 = nI m ∧ (¬ alw σ r v → K (some (HI 5)) w σ) ∧ (alw σ r v → ∀ σ' M, eqT σ σ' → mostP σ v m n M → M ≤ 6000 → K (some (HI (if nI M + 1 ≤ gvC σ v r nv then 0 else 6))) w σ'))
  | _ => False
theorem dX1_reasonOfRight_0 : decode cX1_reasonOfRight 0 = .ok (.aload_n 0, 1) := by decide +kernel
theorem dX1_reasonOfRight_1 : decode cX1_reasonOfRight 1 = .ok (.getfield 21, 3) := by decide +kernel
theorem dX1_reasonOfRight_4 : decode cX1_reasonOfRight 4 = .ok (.aload_n 1, 1) := by decide +kernel
theorem dX1_reasonOfRight_5 : decode cX1_reasonOfRight 5 = .ok (.getfield 102, 3) := by decide +kernel
theorem dX1_reasonOfRight_8 : decode cX1_reasonOfRight 8 = .ok (.invokevirtual 105, 3) := by decide +kernel
theorem dX1_reasonOfRight_11 : decode cX1_reasonOfRight 11 = .ok (.astore_n 2, 1) := by decide +kernel
theorem dX1_reasonOfRight_12 : decode cX1_reasonOfRight 12 = .ok (.aload_n 2, 1) := by decide +kernel
theorem dX1_reasonOfRight_13 : decode cX1_reasonOfRight 13 = .ok (.ifnull 18, 3) := by decide +kernel
theorem dX1_reasonOfRight_16 : decode cX1_reasonOfRight 16 = .ok (.aload_n 2, 1) := by decide +kernel
theorem dX1_reasonOfRight_17 : decode cX1_reasonOfRight 17 = .ok (.getfield 129, 3) := by decide +kernel
theorem dX1_reasonOfRight_20 : decode cX1_reasonOfRight 20 = .ok (.aload_n 0, 1) := by decide +kernel
theorem dX1_reasonOfRight_21 : decode cX1_reasonOfRight 21 = .ok (.getfield 25, 3) := by decide +kernel
theorem dX1_reasonOfRight_24 : decode cX1_reasonOfRight 24 = .ok (.arraylength, 1) := by decide +kernel
theorem dX1_reasonOfRight_25 : decode cX1_reasonOfRight 25 = .ok (.invokestatic 47, 3) := by decide +kernel
theorem dX1_reasonOfRight_28 : decode cX1_reasonOfRight 28 = .ok (.ifCond .ne 5, 3) := by decide +kernel
theorem dX1_reasonOfRight_31 : decode cX1_reasonOfRight 31 = .ok (.iconst 5, 1) := by decide +kernel
theorem dX1_reasonOfRight_32 : decode cX1_reasonOfRight 32 = .ok (.ireturn, 1) := by decide +kernel
theorem dX1_reasonOfRight_33 : decode cX1_reasonOfRight 33 = .ok (.aload_n 0, 1) := by decide +kernel
theorem dX1_reasonOfRight_34 : decode cX1_reasonOfRight 34 = .ok (.getfield 25, 3) := by decide +kernel
theorem dX1_reasonOfRight_37 : decode cX1_reasonOfRight 37 = .ok (.aload_n 2, 1) := by decide +kernel
theorem dX1_reasonOfRight_38 : decode cX1_reasonOfRight 38 = .ok (.getfield 129, 3) := by decide +kernel
theorem dX1_reasonOfRight_41 : decode cX1_reasonOfRight 41 = .ok (.aaload, 1) := by decide +kernel
theorem dX1_reasonOfRight_42 : decode cX1_reasonOfRight 42 = .ok (.astore_n 3, 1) := by decide +kernel
theorem dX1_reasonOfRight_43 : decode cX1_reasonOfRight 43 = .ok (.aload_n 3, 1) := by decide +kernel
theorem dX1_reasonOfRight_44 : decode cX1_reasonOfRight 44 = .ok (.ifnull 11, 3) := by decide +kernel
theorem dX1_reasonOfRight_47 : decode cX1_reasonOfRight 47 = .ok (.aload_n 3, 1) := by decide +kernel
theorem dX1_reasonOfRight_48 : decode cX1_reasonOfRight 48 = .ok (.aload_n 1, 1) := by decide +kernel
theorem dX1_reasonOfRight_49 : decode cX1_reasonOfRight 49 = .ok (.invokevirtual 132, 3) := by decide +kernel
theorem dX1_reasonOfRight_52 : decode cX1_reasonOfRight 52 = .ok (.ifCond .ne 5, 3) := by decide +kernel
theorem dX1_reasonOfRight_55 : decode cX1_reasonOfRight 55 = .ok (.iconst 5, 1) := by decide +kernel
theorem dX1_reasonOfRight_56 : decode cX1_reasonOfRight 56 = .ok (.ireturn, 1) := by decide +kernel
theorem dX1_reasonOfRight_57 : decode cX1_reasonOfRight 57 = .ok (.aload_n 3, 1) := by decide +kernel
theorem dX1_reasonOfRight_58 : decode cX1_reasonOfRight 58 = .ok (.getfield 137, 3) := by decide +kernel
theorem dX1_reasonOfRight_61 : decode cX1_reasonOfRight 61 = .ok (.ldc 140, 2) := by decide +kernel
theorem dX1_reasonOfRight_63 : decode cX1_reasonOfRight 63 = .ok (.if_icmp .eq 25, 3) := by decide +kernel
theorem dX1_reasonOfRight_66 : decode cX1_reasonOfRight 66 = .ok (.aload_n 0, 1) := by decide +kernel
theorem dX1_reasonOfRight_67 : decode cX1_reasonOfRight 67 = .ok (.getfield 21, 3) := by decide +kernel
theorem dX1_reasonOfRight_70 : decode cX1_reasonOfRight 70 = .ok (.aload_n 1, 1) := by decide +kernel
theorem dX1_reasonOfRight_71 : decode cX1_reasonOfRight 71 = .ok (.getfield 116, 3) := by decide +kernel
theorem dX1_reasonOfRight_74 : decode cX1_reasonOfRight 74 = .ok (.aload_n 3, 1) := by decide +kernel
theorem dX1_reasonOfRight_75 : decode cX1_reasonOfRight 75 = .ok (.getfield 137, 3) := by decide +kernel
theorem dX1_reasonOfRight_78 : decode cX1_reasonOfRight 78 = .ok (.invokevirtual 141, 3) := by decide +kernel
theorem dX1_reasonOfRight_81 : decode cX1_reasonOfRight 81 = .ok (.ifCond .eq 7, 3) := by decide +kernel
theorem dX1_reasonOfRight_84 : decode cX1_reasonOfRight 84 = .ok (.iconst 1, 1) := by decide +kernel
theorem dX1_reasonOfRight_85 : decode cX1_reasonOfRight 85 = .ok (.goto 4, 3) := by decide +kernel
theorem dX1_reasonOfRight_88 : decode cX1_reasonOfRight 88 = .ok (.iconst 0, 1) := by decide +kernel
theorem dX1_reasonOfRight_89 : decode cX1_reasonOfRight 89 = .ok (.istore 4, 2) := by decide +kernel
theorem dX1_reasonOfRight_91 : decode cX1_reasonOfRight 91 = .ok (.aload_n 0, 1) := by decide +kernel
theorem dX1_reasonOfRight_92 : decode cX1_reasonOfRight 92 = .ok (.aload_n 1, 1) := by decide +kernel
theorem dX1_reasonOfRight_93 : decode cX1_reasonOfRight 93 = .ok (.aload_n 3, 1) := by decide +kernel
theorem dX1_reasonOfRight_94 : decode cX1_reasonOfRight 94 = .ok (.getfield 144, 3) := by decide +kernel
theorem dX1_reasonOfRight_97 : decode cX1_reasonOfRight 97 = .ok (.invokevirtual 147, 3) := by decide +kernel
theorem dX1_reasonOfRight_100 : decode cX1_reasonOfRight 100 = .ok (.iconst 1, 1) := by decide +kernel
theorem dX1_reasonOfRight_101 : decode cX1_reasonOfRight 101 = .ok (.iadd, 1) := by decide +kernel
theorem dX1_reasonOfRight_102 : decode cX1_reasonOfRight 102 = .ok (.aload_n 3, 1) := by decide +kernel
theorem dX1_reasonOfRight_103 : decode cX1_reasonOfRight 103 = .ok (.iload 4, 2) := by decide +kernel
theorem dX1_reasonOfRight_105 : decode cX1_reasonOfRight 105 = .ok (.invokevirtual 151, 3) := by decide +kernel
theorem dX1_reasonOfRight_108 : decode cX1_reasonOfRight 108 = .ok (.if_icmp .le 8, 3) := by decide +kernel
theorem dX1_reasonOfRight_111 : decode cX1_reasonOfRight 111 = .ok (.bipush 6, 2) := by decide +kernel
theorem dX1_reasonOfRight_113 : decode cX1_reasonOfRight 113 = .ok (.goto 4, 3) := by decide +kernel
theorem dX1_reasonOfRight_116 : decode cX1_reasonOfRight 116 = .ok (.iconst 0, 1) := by decide +kernel
theorem dX1_reasonOfRight_117 : decode cX1_reasonOfRight 117 = .ok (.ireturn, 1) := by decide +kernel
def ins_X1_reasonOfRight (pc : Nat) : HOp := cond (Nat.blt pc 57) (cond (Nat.blt pc 31) (cond (Nat.blt pc 13) (cond (Nat.blt pc 5) (cond (Nat.blt pc 1) (cond (Nat.beq pc 0) (o_aload 0 1) o_bad) (cond (Nat.blt pc 4) (cond (Nat.beq pc 1) (o_getf 1 0 4) o_bad) (cond (Nat.beq pc 4) (o_aload 1 5) o_bad))) (cond (Nat.blt pc 11) (cond (Nat.blt pc 8) (cond (Nat.beq pc 5) (o_getf 9 0 8) o_bad) (cond (Nat.beq pc 8) (o_callV 2 2 sp_X2_prisonerAt 11) o_bad)) (cond (Nat.blt pc 12) (cond (Nat.beq pc 11) (o_astore 2 12) o_bad) (cond (Nat.beq pc 12) (o_aload 2 13) o_bad)))) (cond (Nat.blt pc 21) (cond (Nat.blt pc 17) (cond (Nat.blt pc 16) (cond (Nat.beq pc 13) (o_ifnull 31 16) o_bad) (cond (Nat.beq pc 16) (o_aload 2 17) o_bad)) (cond (Nat.blt pc 20) (cond (Nat.beq pc 17) (o_getf 3 0 20) o_bad) (cond (Nat.beq pc 20) (o_aload 0 21) o_bad))) (cond (Nat.blt pc 25) (cond (Nat.blt pc 24) (cond (Nat.beq pc 21) (o_getf 1 1 24) o_bad) (cond (Nat.beq pc 24) (o_alen 25) o_bad)) (cond (Nat.blt pc 28) (cond (Nat.beq pc 25) (o_callS 2 sp_X10_isBelow 28) o_bad) (cond (Nat.beq pc 28) (o_if (fun x => x = 0) 31 33) o_bad))))) (cond (Nat.blt pc 43) (cond (Nat.blt pc 37) (cond (Nat.blt pc 33) (cond (Nat.blt pc 32) (cond (Nat.beq pc 31) (o_const (5) 32) o_bad) (cond (Nat.beq pc 32) (o_iret) o_bad)) (cond (Nat.blt pc 34) (cond (Nat.beq pc 33) (o_aload 0 34) o_bad) (cond (Nat.beq pc 34) (o_getf 1 1 37) o_bad))) (cond (Nat.blt pc 41) (cond (Nat.blt pc 38) (cond (Nat.beq pc 37) (o_aload 2 38) o_bad) (cond (Nat.beq pc 38) (o_getf 3 0 41) o_bad)) (cond (Nat.blt pc 42) (cond (Nat.beq pc 41) (o_aald 42) o_bad) (cond (Nat.beq pc 42) (o_astore 3 43) o_bad)))) (cond (Nat.blt pc 49) (cond (Nat.blt pc 47) (cond (Nat.blt pc 44) (cond (Nat.beq pc 43) (o_aload 3 44) o_bad) (cond (Nat.beq pc 44) (o_ifnull 55 47) o_bad)) (cond (Nat.blt pc 48) (cond (Nat.beq pc 47) (o_aload 3 48) o_bad) (cond (Nat.beq pc 48) (o_aload 1 49) o_bad))) (cond (Nat.blt pc 55) (cond (Nat.blt pc 52) (cond (Nat.beq pc 49) (o_callV 2 4 sp_X4_allows 52) o_bad) (cond (Nat.beq pc 52) (o_if (fun x => x = 0) 55 57) o_bad)) (cond (Nat.blt pc 56) (cond (Nat.beq pc 55) (o_const (5) 56) o_bad) (cond (Nat.beq pc 56) (o_iret) o_bad)))))) (cond (Nat.blt pc 89) (cond (Nat.blt pc 71) (cond (Nat.blt pc 63) (cond (Nat.blt pc 58) (cond (Nat.beq pc 57) (o_aload 3 58) o_bad) (cond (Nat.blt pc 61) (cond (Nat.beq pc 58) (o_getf 4 2 61) o_bad) (cond (Nat.beq pc 61) (o_const (-1000000005) 63) o_bad))) (cond (Nat.blt pc 67) (cond (Nat.blt pc 66) (cond (Nat.beq pc 63) (o_icmp (fun x y => x = y) 88 66) o_bad) (cond (Nat.beq pc 66) (o_aload 0 67) o_bad)) (cond (Nat.blt pc 70) (cond (Nat.beq pc 67) (o_getf 1 0 70) o_bad) (cond (Nat.beq pc 70) (o_aload 1 71) o_bad)))) (cond (Nat.blt pc 81) (cond (Nat.blt pc 75) (cond (Nat.blt pc 74) (cond (Nat.beq pc 71) (o_getf 9 1 74) o_bad) (cond (Nat.beq pc 74) (o_aload 3 75) o_bad)) (cond (Nat.blt pc 78) (cond (Nat.beq pc 75) (o_getf 4 2 78) o_bad) (cond (Nat.beq pc 78) (o_callV 3 2 sp_X2_comesFrom 81) o_bad))) (cond (Nat.blt pc 85) (cond (Nat.blt pc 84) (cond (Nat.beq pc 81) (o_if (fun x => x = 0) 88 84) o_bad) (cond (Nat.beq pc 84) (o_const (1) 85) o_bad)) (cond (Nat.blt pc 88) (cond (Nat.beq pc 85) (o_goto 89) o_bad) (cond (Nat.beq pc 88) (o_const (0) 89) o_bad))))) (cond (Nat.blt pc 102) (cond (Nat.blt pc 94) (cond (Nat.blt pc 92) (cond (Nat.blt pc 91) (cond (Nat.beq pc 89) (o_istore 4 91) o_bad) (cond (Nat.beq pc 91) (o_aload 0 92) o_bad)) (cond (Nat.blt pc 93) (cond (Nat.beq pc 92) (o_aload 1 93) o_bad) (cond (Nat.beq pc 93) (o_aload 3 94) o_bad))) (cond (Nat.blt pc 100) (cond (Nat.blt pc 97) (cond (Nat.beq pc 94) (o_getf 4 1 97) o_bad) (cond (Nat.beq pc 97) (o_callV 3 1 sp_X1_mostInSpan 100) o_bad)) (cond (Nat.blt pc 101) (cond (Nat.beq pc 100) (o_const (1) 101) o_bad) (cond (Nat.beq pc 101) (o_bin (fun x y => x + y) 102) o_bad)))) (cond (Nat.blt pc 111) (cond (Nat.blt pc 105) (cond (Nat.blt pc 103) (cond (Nat.beq pc 102) (o_aload 3 103) o_bad) (cond (Nat.beq pc 103) (o_iload 4 105) o_bad)) (cond (Nat.blt pc 108) (cond (Nat.beq pc 105) (o_callV 2 4 sp_X4_gives 108) o_bad) (cond (Nat.beq pc 108) (o_icmp (fun x y => x ≤ y) 116 111) o_bad))) (cond (Nat.blt pc 116) (cond (Nat.blt pc 113) (cond (Nat.beq pc 111) (o_const (6) 113) o_bad) (cond (Nat.beq pc 113) (o_goto 117) o_bad)) (cond (Nat.blt pc 117) (cond (Nat.beq pc 116) (o_const (0) 117) o_bad) (cond (Nat.beq pc 117) (o_iret) o_bad))))))
set_option maxRecDepth 20000 in
theorem ok_X1_reasonOfRight : HOKs cX1_reasonOfRight RX1 5 (some .int) 4 ins_X1_reasonOfRight := fun _ => hnd (hnd (hnd (hnd (hnd (hlf (ok_aload_n dX1_reasonOfRight_0 rfl rfl)) (hnd (hlf (ok_getf (C := RX1) (T := TX1) dX1_reasonOfRight_1 rfl rfl (by decide) rfl inX1 wd_186 rfl)) (hlf (ok_aload_n dX1_reasonOfRight_4 rfl rfl)))) (hnd (hnd (hlf (ok_getfN (C := RX9) (T := TX9) dX1_reasonOfRight_5 rfl rfl (by decide) rfl inX9 wd_236 rfl)) (hlf (ok_callV (y := yX2_prisonerAt) (n' := 1) (C := RX2) (T := TX2) dX1_reasonOfRight_8 ct_X2_prisonerAt (by decide) (by decide) wd_387 wd_425 wd_385 wd_386 wd_43 rfl (by decide +kernel) rfl rfl rfl))) (hnd (hlf (ok_astore_n dX1_reasonOfRight_11 rfl (by decide) rfl)) (hlf (ok_aload_n dX1_reasonOfRight_12 rfl rfl))))) (hnd (hnd (hnd (hlf (ok_ifnull dX1_reasonOfRight_13 (by decide) rfl)) (hlf (ok_aload_n dX1_reasonOfRight_16 rfl rfl))) (hnd (hlf (ok_getfN (C := RX3) (T := TX3) dX1_reasonOfRight_17 rfl rfl (by decide) rfl inX3 wd_336 rfl)) (hlf (ok_aload_n dX1_reasonOfRight_20 rfl rfl)))) (hnd (hnd (hlf (ok_getf (C := RX1) (T := TX1) dX1_reasonOfRight_21 rfl rfl (by decide) rfl inX1 wd_187 rfl)) (hlf (ok_alen dX1_reasonOfRight_24 rfl))) (hnd (hlf (ok_callSN (y := yX10_isBelow) dX1_reasonOfRight_25 ct_X10_isBelow (by decide) (by decide) wd_320 wd_442 wd_319 wd_42 (by decide +kernel) rfl)) (hlf (ok_if_ne dX1_reasonOfRight_28 (by decide) rfl)))))) (hnd (hnd (hnd (hnd (hlf (ok_iconst dX1_reasonOfRight_31 (by decide) rfl)) (hlf (ok_iret dX1_reasonOfRight_32))) (hnd (hlf (ok_aload_n dX1_reasonOfRight_33 rfl rfl)) (hlf (ok_getf (C := RX1) (T := TX1) dX1_reasonOfRight_34 rfl rfl (by decide) rfl inX1 wd_187 rfl)))) (hnd (hnd (hlf (ok_aload_n dX1_reasonOfRight_37 rfl rfl)) (hlf (ok_getfN (C := RX3) (T := TX3) dX1_reasonOfRight_38 rfl rfl (by decide) rfl inX3 wd_336 rfl))) (hnd (hlf (ok_aald dX1_reasonOfRight_41 rfl)) (hlf (ok_astore_n dX1_reasonOfRight_42 rfl (by decide) rfl))))) (hnd (hnd (hnd (hlf (ok_aload_n dX1_reasonOfRight_43 rfl rfl)) (hlf (ok_ifnull dX1_reasonOfRight_44 (by decide) rfl))) (hnd (hlf (ok_aload_n dX1_reasonOfRight_47 rfl rfl)) (hlf (ok_aload_n dX1_reasonOfRight_48 rfl rfl)))) (hnd (hnd (hlf (ok_callV (y := yX4_allows) (n' := 1) (C := RX4) (T := TX4) dX1_reasonOfRight_49 ct_X4_allows (by decide) (by decide) wd_446 wd_443 wd_444 wd_445 wd_55 rfl (by decide +kernel) rfl rfl rfl)) (hlf (ok_if_ne dX1_reasonOfRight_52 (by decide) rfl))) (hnd (hlf (ok_iconst dX1_reasonOfRight_55 (by decide) rfl)) (hlf (ok_iret dX1_reasonOfRight_56))))))) (hnd (hnd (hnd (hnd (hlf (ok_aload_n dX1_reasonOfRight_57 rfl rfl)) (hnd (hlf (ok_getfN (C := RX4) (T := TX4) dX1_reasonOfRight_58 rfl rfl (by decide) rfl inX4 wd_596 rfl)) (hlf (ok_ldc dX1_reasonOfRight_61 wd_447 rfl)))) (hnd (hnd (hlf (ok_icmp_eq dX1_reasonOfRight_63 (by decide) rfl)) (hlf (ok_aload_n dX1_reasonOfRight_66 rfl rfl))) (hnd (hlf (ok_getf (C := RX1) (T := TX1) dX1_reasonOfRight_67 rfl rfl (by decide) rfl inX1 wd_186 rfl)) (hlf (ok_aload_n dX1_reasonOfRight_70 rfl rfl))))) (hnd (hnd (hnd (hlf (ok_getfN (C := RX9) (T := TX9) dX1_reasonOfRight_71 rfl rfl (by decide) rfl inX9 wd_241 rfl)) (hlf (ok_aload_n dX1_reasonOfRight_74 rfl rfl))) (hnd (hlf (ok_getfN (C := RX4) (T := TX4) dX1_reasonOfRight_75 rfl rfl (by decide) rfl inX4 wd_596 rfl)) (hlf (ok_callV (y := yX2_comesFrom) (n' := 2) (C := RX2) (T := TX2) dX1_reasonOfRight_78 ct_X2_comesFrom (by decide) (by decide) wd_451 wd_448 wd_449 wd_450 wd_43 rfl (by decide +kernel) rfl rfl rfl)))) (hnd (hnd (hlf (ok_if_eq dX1_reasonOfRight_81 (by decide) rfl)) (hlf (ok_iconst dX1_reasonOfRight_84 (by decide) rfl))) (hnd (hlf (ok_goto dX1_reasonOfRight_85 (by decide))) (hlf (ok_iconst dX1_reasonOfRight_88 (by decide) rfl)))))) (hnd (hnd (hnd (hnd (hlf (ok_istore dX1_reasonOfRight_89 (by decide) rfl)) (hlf (ok_aload_n dX1_reasonOfRight_91 rfl rfl))) (hnd (hlf (ok_aload_n dX1_reasonOfRight_92 rfl rfl)) (hlf (ok_aload_n dX1_reasonOfRight_93 rfl rfl)))) (hnd (hnd (hlf (ok_getfN (C := RX4) (T := TX4) dX1_reasonOfRight_94 rfl rfl (by decide) rfl inX4 wd_592 rfl)) (hlf (ok_callV (y := yX1_mostInSpan) (n' := 2) (C := RX1) (T := TX1) dX1_reasonOfRight_97 ct_X1_mostInSpan (by decide) (by decide) wd_455 wd_452 wd_454 wd_2 wd_48 rfl (by decide +kernel) rfl rfl rfl))) (hnd (hlf (ok_iconst dX1_reasonOfRight_100 (by decide) rfl)) (hlf (ok_iadd dX1_reasonOfRight_101 rfl))))) (hnd (hnd (hnd (hlf (ok_aload_n dX1_reasonOfRight_102 rfl rfl)) (hlf (ok_iload dX1_reasonOfRight_103 rfl))) (hnd (hlf (ok_callV (y := yX4_gives) (n' := 1) (C := RX4) (T := TX4) dX1_reasonOfRight_105 ct_X4_gives (by decide) (by decide) wd_467 wd_464 wd_465 wd_466 wd_55 rfl (by decide +kernel) rfl rfl rfl)) (hlf (ok_icmp_le dX1_reasonOfRight_108 (by decide) rfl)))) (hnd (hnd (hlf (ok_bipush dX1_reasonOfRight_111 (by decide) rfl)) (hlf (ok_goto dX1_reasonOfRight_113 (by decide)))) (hnd (hlf (ok_iconst dX1_reasonOfRight_116 (by decide) rfl)) (hlf (ok_iret dX1_reasonOfRight_117)))))))

theorem vc_X1_reasonOfRight : MVC ins_X1_reasonOfRight 5 2 sp_X1_reasonOfRight := by
  refine mvc0 120 fun as w σ q hl hs => ?_
  unfold sp_X1_reasonOfRight at hs
  split at hs
  rotate_left
  · exact hs.elim
  rename_i v
  obtain ⟨n, np, p, c, nv, hB, hP, hp, hv, hc, hc2, hnv, hnv2, h5, hr⟩ := hs
  have h10 := hP.1
  refine ⟨np, hP, fun i hi e => ?_, fun h => absurd (pa_in hP hp hv) h⟩
  obtain rfl := pa_eq hP hp hv hi e
  have hin : 0 ≤ σ 3 i 0 ∧ σ 3 i 0 < 4 := by rw [hc2]; exact ⟨nI_pos' (by omega), nI_lt (b := 4) hc (by decide)⟩
  refine And.intro (fun _ => ?_) (fun h => absurd hin h)
  refine And.intro (fun h => absurd h (by decide)) (fun _ => ?_)
  refine And.intro (in4 hin) (fun o ho => ?_)
  have ho : w.2 16 (σ 3 i 0).toNatClampNeg = o := ho
  rw [hc2, nI_clamp (by omega)] at ho
  subst ho
  cases ho : w.2 16 c with
  | none => exact h5 ho
  | some r =>
    obtain ⟨m, hm1, hm2, hm3, hno, hyes⟩ := hr r ho
    apply br2
    rotate_left
    · intro h1
      exact And.intro (fun _ => hno h1) (fun h => absurd rfl h)
    intro h1
    have hyes := hyes h1
    refine And.intro (fun h => absurd h (by decide)) (fun _ => ?_)
    have tail : ∀ (σ' : HS) (M : Nat) (x : Int32), eqT σ σ' → mostP σ v m n M → M ≤ 6000 → (x = 0 ↔ ¬ farC σ v r nv) → (if nI M + 1 ≤ (if x = 0 then σ' 4 r 0 else σ' 4 r 0 + σ' 4 r 3) then (0 : Int32) else 6) = (if nI M + 1 ≤ gvC σ v r nv then 0 else 6) := by
      intro σ' M x hE _ _ hx
      have e1 : σ' 4 r 0 = σ 4 r 0 := hE 4 r 0 (by omega)
      have e2 : σ' 4 r 3 = σ 4 r 3 := hE 4 r 3 (by omega)
      rw [e1, e2]
      unfold gvC
      by_cases z : x = 0
      · rw [if_pos z, cif_n (hx.mp z)]
      · rw [if_neg z, cif_p (Classical.byContradiction fun q => z (hx.mpr q))]
    have fin : ∀ (x : Int32), (x = 0 ↔ ¬ farC σ v r nv) → ∀ σ' M, eqT σ σ' → mostP σ v m n M → M ≤ 6000 → q (some (HI (if nI M + 1 ≤ (if x = 0 then σ' 4 r 0 else σ' 4 r 0 + σ' 4 r 3) then 0 else 6))) w σ' := fun x hx σ' M hE hM h6 => by
      rw [tail σ' M x hE hM h6 hx]
      exact hyes σ' M hE hM h6
    have go : ∀ (x : Int32) (σ' : HS) (M : Nat), (x = 0 ↔ ¬ farC σ v r nv) → eqT σ σ' → mostP σ v m n M → M ≤ 6000 → ((nI M + 1 ≤ (if x = 0 then σ' 4 r 0 else σ' 4 r 0 + σ' 4 r 3) → q (some (HI 0)) w σ') ∧ (¬ nI M + 1 ≤ (if x = 0 then σ' 4 r 0 else σ' 4 r 0 + σ' 4 r 3) → q (some (HI 6)) w σ')) := fun x σ' M hx hE hM h6 => by
      have h := fin x hx σ' M hE hM h6
      refine ⟨fun z => ?_, fun z => ?_⟩
      · rw [if_pos z] at h; exact h
      · rw [if_neg z] at h; exact h
    apply br2
    · intro h2
      have hx : (0 : Int32) = 0 ↔ ¬ farC σ v r nv := ⟨fun _ q => q.1 h2, fun _ => rfl⟩
      refine ⟨n, m, hB, hm1, hm2, hm3, fun σ' M hE hM h6 => ?_⟩
      exact go 0 σ' M hx hE hM h6
    · intro h2
      refine ⟨nv, hnv, hnv2, ?_⟩
      apply br2
      · intro h3
        have hx : (1 : Int32) = 0 ↔ ¬ farC σ v r nv := ⟨fun h => absurd h (by decide), fun q => absurd ⟨h2, h3⟩ q⟩
        refine And.intro (fun h => absurd h (by decide)) (fun _ => ?_)
        refine ⟨n, m, hB, hm1, hm2, hm3, fun σ' M hE hM h6 => ?_⟩
        exact go 1 σ' M hx hE hM h6
      · intro h3
        have hx : (0 : Int32) = 0 ↔ ¬ farC σ v r nv := ⟨fun _ q => h3 q.2, fun _ => rfl⟩
        refine And.intro (fun _ => ?_) (fun h => absurd rfl h)
        refine ⟨n, m, hB, hm1, hm2, hm3, fun σ' M hE hM h6 => ?_⟩
        exact go 0 σ' M hx hE hM h6
theorem ct_X1_reasonOfRight : Ctr yX1_reasonOfRight cX1_reasonOfRight 5 (some .int) 4 0 0 2 sp_X1_reasonOfRight := ctr_of (by decide +kernel) rfl (by decide) ok_X1_reasonOfRight vc_X1_reasonOfRight
end
section
/-! VisitHall.Gate, 4: making room for a lawyer's; common words for class and reference -/
def lastY (p : Nat → Bool) : Nat → Option Nat
  | 0 => none
  | n + 1 => if p n = true then some n else lastY p n
theorem lastY_some {p : Nat → Bool} {i : Nat} : ∀ {n : Nat}, i < n → p i = true → (∀ j, i < j → j < n → p j = false) → lastY p n = some i
  | 0, h, _, _ => absurd h (by omega)
  | n + 1, h, hp, hno => by
    unfold lastY
    rcases Nat.lt_succ_iff_lt_or_eq.mp h with q | q
    · rw [if_neg (by rw [hno n q (by omega)]; decide)]
      exact lastY_some q hp (fun j h1 h2 => hno j h1 (by omega))
    · subst q
      rw [if_pos hp]
theorem lastY_none {p : Nat → Bool} : ∀ {n : Nat}, (∀ j, j < n → p j = false) → lastY p n = none
  | 0, _ => rfl
  | n + 1, h => by
    unfold lastY
    rw [if_neg (by rw [h n (by omega)]; decide)]
    exact lastY_none (fun j hj => h j (by omega))
theorem lastY_at {p : Nat → Bool} {i : Nat} : ∀ {n : Nat}, lastY p n = some i → i < n ∧ p i = true
  | 0, h => by cases h
  | n + 1, h => by
    unfold lastY at h
    by_cases c : p n = true
    · rw [if_pos c] at h
      cases h
      exact ⟨by omega, c⟩
    · rw [if_neg c] at h
      have := lastY_at h
      exact ⟨by omega, this.2⟩
theorem lastY_cg {p q : Nat → Bool} : ∀ {n : Nat}, (∀ j, j < n → p j = q j) → lastY p n = lastY q n
  | 0, _ => rfl
  | n + 1, h => by
    unfold lastY
    rw [h n (by omega), lastY_cg (fun j hj => h j (by omega))]
theorem cnt_cg {p q : Nat → Bool} : ∀ {n : Nat}, (∀ j, j < n → p j = q j) → cnt p n = cnt q n
  | 0, _ => rfl
  | n + 1, h => by
    unfold cnt
    rw [h n (by omega), cnt_cg (fun j hj => h j (by omega))]
abbrev atV (V : Nat → Nat → Int32) (S : Nat → Int32) (i : Nat) (day h : Int32) : Prop := S i = 0 ∧ V i 2 = day ∧ ¬ h < V i 3 ∧ ¬ V i 3 + V i 4 ≤ h
abbrev yV (V : Nat → Nat → Int32) (L S : Nat → Int32) (i : Nat) (day h : Int32) : Prop := atV V S i day h ∧ L i = 0
def lcV (V : Nat → Nat → Int32) (S : Nat → Int32) (day h : Int32) (n : Nat) : Nat := cnt (fun i => decide (atV V S i day h)) n
def clr (V : Nat → Nat → Int32) (L : Nat → Int32) (n : Nat) (day h : Int32) : Nat → (Nat → Int32) → Option (Nat → Int32)
  | 0, S => some S
  | c + 1, S => (lastY (fun i => decide (yV V L S i day h)) n).bind fun i => clr V L n day h c (upd S i 1)
def rms (V : Nat → Nat → Int32) (L : Nat → Int32) (n : Nat) (day : Int32) (t : Nat) : Nat → Nat → (Nat → Int32) → Option (Nat → Int32)
  | 0, _, S => some S
  | b + 1, h, S => (clr V L n day (nI h) (lcV V S day (nI h) n + 1 - t) S).bind fun S' => rms V L n day t b (h + 1) S'
def effS (σ : HS) (i : Nat) : Int32 := if σ 9 i 7 = 0 then σ 9 i 6 else 1
def lvO (σ σ' : HS) (n : Nat) : Prop := (∀ k i f, ¬ (k = 9 ∧ f = 7 ∧ i < n) → σ' k i f = σ k i f) ∧ ∀ i, i < n → σ' 9 i 7 = 0 ∨ σ' 9 i 7 = 1
theorem eff_0 (σ : HS) (i : Nat) : effS σ i = 0 ↔ σ 9 i 6 = 0 ∧ σ 9 i 7 = 0 := by
  unfold effS
  by_cases h : σ 9 i 7 = 0
  · rw [if_pos h]; exact ⟨fun q => ⟨q, h⟩, fun q => q.1⟩
  · rw [if_neg h]; exact ⟨fun q => absurd q (by decide), fun q => absurd q.2 h⟩
theorem lvO_n {σ σ' : HS} {n : Nat} (h : lvO σ σ' n) {i f : Nat} (hf : f ≠ 7) : σ' 9 i f = σ 9 i f := h.1 9 i f (fun q => hf q.2.1)
theorem at_iff {σ σ' : HS} {n : Nat} (h : lvO σ σ' n) (i : Nat) (day hf : Int32) : atL σ' i day hf ↔ atV (σ 9) (effS σ') i day hf := by
  unfold atL atV
  rw [eff_0, lvO_n h (i := i) (f := 2) (by decide), lvO_n h (i := i) (f := 3) (by decide), lvO_n h (i := i) (f := 4) (by decide)]
  constructor
  · rintro ⟨a, b, c, d, e⟩; exact ⟨⟨a, b⟩, c, d, e⟩
  · rintro ⟨⟨a, b⟩, c, d, e⟩; exact ⟨a, b, c, d, e⟩
theorem lc_iff {σ σ' : HS} {n : Nat} (h : lvO σ σ' n) (day hf : Int32) : cnt (fun i => decide (atL σ' i day hf)) n = lcV (σ 9) (effS σ') day hf n :=
  cnt_cg fun j _ => decide_eq_decide.mpr (at_iff h j day hf)
theorem y_iff {σ σ' : HS} {n : Nat} (h : lvO σ σ' n) (i : Nat) (day hf : Int32) : yld σ' i day hf ↔ yV (σ 9) (fun i => σ 9 i 5) (effS σ') i day hf := by
  unfold yld yV
  rw [at_iff h, lvO_n h (i := i) (f := 5) (by decide)]
theorem tb_o {σ σ' : HS} {n : Nat} (h : lvO σ σ' n) (day : Int32) : tbC σ' day = tbC σ day := by
  unfold tbC
  rw [h.1 7 0 1 (by omega), h.1 12 1 _ (by omega), h.1 1 0 4 (by omega)]
theorem tooM : ∀ lc, lc < 101 → ∀ t, t < 7 → lc < t → nI lc - nI t + 1 ≤ 0 := by decide +kernel
theorem tooN {lc t : Nat} (h : t ≤ lc) : nI lc - nI t + 1 = nI (lc + 1 - t) := by
  rw [pk_sub h, nI_1]
  congr 1
  omega
theorem eff_up {σ σ' : HS} {n i : Nat} (h : lvO σ σ' n) (hi : i < n) : lvO σ (up3 σ' 9 i 7 1) n ∧ effS (up3 σ' 9 i 7 1) = upd (effS σ') i 1 := by
  refine ⟨⟨fun k j f hq => ?_, fun j hj => ?_⟩, ?_⟩
  · rw [up3_o (fun q => hq ⟨q.1, q.2.2, by omega⟩)]
    exact h.1 k j f hq
  · by_cases e : j = i
    · subst e; right; simp [up3]
    · rw [up3_o (fun q => e q.2.1)]; exact h.2 j hj
  · funext j
    by_cases e : j = i
    · subst e; simp [effS, up3, upd]
    · simp only [effS, upd, if_neg e]
      rw [up3_o (fun q => e q.2.1), up3_o (fun q => e q.2.1)]
def sp_X1_marksRoom : HSp := fun as w σ K => match as with
  | [.inr (.inl (1, some 0)), .inr (.inl (9, some v))] => ∃ n a b t, Bk w σ n ∧ σ 7 0 1 ≤ 60 ∧ σ 9 v 3 = nI a ∧ σ 9 v 4 = nI b ∧ a + b ≤ 12 ∧ tbC σ (σ 9 v 2) = nI t ∧ t ≤ 6 ∧ (∀ i, i < n → σ 9 i 7 = 0 ∨ σ 9 i 7 = 1) ∧ (∀ S', rms (σ 9) (fun i => σ 9 i 5) n (σ 9 v 2) t b a (effS σ) = some S' → ∀ σ', lvO σ σ' n → effS σ' = S' → K (some (HI 1)) w σ') ∧ (rms (σ 9) (fun i => σ 9 i 5) n (σ 9 v 2) t b a (effS σ) = none → ∀ σ', lvO σ σ' n → K (some (HI 0)) w σ')
  | _ => False
theorem dX1_marksRoom_0 : decode cX1_marksRoom 0 = .ok (.aload_n 0, 1) := by decide +kernel
theorem dX1_marksRoom_1 : decode cX1_marksRoom 1 = .ok (.aload_n 1, 1) := by decide +kernel
theorem dX1_marksRoom_2 : decode cX1_marksRoom 2 = .ok (.getfield 89, 3) := by decide +kernel
theorem dX1_marksRoom_5 : decode cX1_marksRoom 5 = .ok (.invokevirtual 177, 3) := by decide +kernel
theorem dX1_marksRoom_8 : decode cX1_marksRoom 8 = .ok (.istore_n 2, 1) := by decide +kernel
theorem dX1_marksRoom_9 : decode cX1_marksRoom 9 = .ok (.aload_n 1, 1) := by decide +kernel
theorem dX1_marksRoom_10 : decode cX1_marksRoom 10 = .ok (.getfield 181, 3) := by decide +kernel
theorem dX1_marksRoom_13 : decode cX1_marksRoom 13 = .ok (.istore_n 3, 1) := by decide +kernel
theorem dX1_marksRoom_14 : decode cX1_marksRoom 14 = .ok (.iload_n 3, 1) := by decide +kernel
theorem dX1_marksRoom_15 : decode cX1_marksRoom 15 = .ok (.aload_n 1, 1) := by decide +kernel
theorem dX1_marksRoom_16 : decode cX1_marksRoom 16 = .ok (.getfield 181, 3) := by decide +kernel
theorem dX1_marksRoom_19 : decode cX1_marksRoom 19 = .ok (.aload_n 1, 1) := by decide +kernel
theorem dX1_marksRoom_20 : decode cX1_marksRoom 20 = .ok (.getfield 184, 3) := by decide +kernel
theorem dX1_marksRoom_23 : decode cX1_marksRoom 23 = .ok (.iadd, 1) := by decide +kernel
theorem dX1_marksRoom_24 : decode cX1_marksRoom 24 = .ok (.if_icmp .ge 70, 3) := by decide +kernel
theorem dX1_marksRoom_27 : decode cX1_marksRoom 27 = .ok (.aload_n 0, 1) := by decide +kernel
theorem dX1_marksRoom_28 : decode cX1_marksRoom 28 = .ok (.getfield 29, 3) := by decide +kernel
theorem dX1_marksRoom_31 : decode cX1_marksRoom 31 = .ok (.aload_n 1, 1) := by decide +kernel
theorem dX1_marksRoom_32 : decode cX1_marksRoom 32 = .ok (.getfield 89, 3) := by decide +kernel
theorem dX1_marksRoom_35 : decode cX1_marksRoom 35 = .ok (.iload_n 3, 1) := by decide +kernel
theorem dX1_marksRoom_36 : decode cX1_marksRoom 36 = .ok (.invokevirtual 187, 3) := by decide +kernel
theorem dX1_marksRoom_39 : decode cX1_marksRoom 39 = .ok (.iload_n 2, 1) := by decide +kernel
theorem dX1_marksRoom_40 : decode cX1_marksRoom 40 = .ok (.isub, 1) := by decide +kernel
theorem dX1_marksRoom_41 : decode cX1_marksRoom 41 = .ok (.iconst 1, 1) := by decide +kernel
theorem dX1_marksRoom_42 : decode cX1_marksRoom 42 = .ok (.iadd, 1) := by decide +kernel
theorem dX1_marksRoom_43 : decode cX1_marksRoom 43 = .ok (.istore 4, 2) := by decide +kernel
theorem dX1_marksRoom_45 : decode cX1_marksRoom 45 = .ok (.iconst 0, 1) := by decide +kernel
theorem dX1_marksRoom_46 : decode cX1_marksRoom 46 = .ok (.istore 5, 2) := by decide +kernel
theorem dX1_marksRoom_48 : decode cX1_marksRoom 48 = .ok (.iload 5, 2) := by decide +kernel
theorem dX1_marksRoom_50 : decode cX1_marksRoom 50 = .ok (.iload 4, 2) := by decide +kernel
theorem dX1_marksRoom_52 : decode cX1_marksRoom 52 = .ok (.if_icmp .ge 36, 3) := by decide +kernel
theorem dX1_marksRoom_55 : decode cX1_marksRoom 55 = .ok (.aload_n 0, 1) := by decide +kernel
theorem dX1_marksRoom_56 : decode cX1_marksRoom 56 = .ok (.getfield 29, 3) := by decide +kernel
theorem dX1_marksRoom_59 : decode cX1_marksRoom 59 = .ok (.aload_n 1, 1) := by decide +kernel
theorem dX1_marksRoom_60 : decode cX1_marksRoom 60 = .ok (.getfield 89, 3) := by decide +kernel
theorem dX1_marksRoom_63 : decode cX1_marksRoom 63 = .ok (.iload_n 3, 1) := by decide +kernel
theorem dX1_marksRoom_64 : decode cX1_marksRoom 64 = .ok (.invokevirtual 203, 3) := by decide +kernel
theorem dX1_marksRoom_67 : decode cX1_marksRoom 67 = .ok (.astore 6, 2) := by decide +kernel
theorem dX1_marksRoom_69 : decode cX1_marksRoom 69 = .ok (.aload 6, 2) := by decide +kernel
theorem dX1_marksRoom_71 : decode cX1_marksRoom 71 = .ok (.ifnonnull 5, 3) := by decide +kernel
theorem dX1_marksRoom_74 : decode cX1_marksRoom 74 = .ok (.iconst 0, 1) := by decide +kernel
theorem dX1_marksRoom_75 : decode cX1_marksRoom 75 = .ok (.ireturn, 1) := by decide +kernel
theorem dX1_marksRoom_76 : decode cX1_marksRoom 76 = .ok (.aload 6, 2) := by decide +kernel
theorem dX1_marksRoom_78 : decode cX1_marksRoom 78 = .ok (.iconst 1, 1) := by decide +kernel
theorem dX1_marksRoom_79 : decode cX1_marksRoom 79 = .ok (.putfield 207, 3) := by decide +kernel
theorem dX1_marksRoom_82 : decode cX1_marksRoom 82 = .ok (.iinc 5 1, 3) := by decide +kernel
theorem dX1_marksRoom_85 : decode cX1_marksRoom 85 = .ok (.goto (-37), 3) := by decide +kernel
theorem dX1_marksRoom_88 : decode cX1_marksRoom 88 = .ok (.iinc 3 1, 3) := by decide +kernel
theorem dX1_marksRoom_91 : decode cX1_marksRoom 91 = .ok (.goto (-77), 3) := by decide +kernel
theorem dX1_marksRoom_94 : decode cX1_marksRoom 94 = .ok (.iconst 1, 1) := by decide +kernel
theorem dX1_marksRoom_95 : decode cX1_marksRoom 95 = .ok (.ireturn, 1) := by decide +kernel
def ins_X1_marksRoom (pc : Nat) : HOp := cond (Nat.blt pc 43) (cond (Nat.blt pc 20) (cond (Nat.blt pc 10) (cond (Nat.blt pc 5) (cond (Nat.blt pc 1) (cond (Nat.beq pc 0) (o_aload 0 1) o_bad) (cond (Nat.blt pc 2) (cond (Nat.beq pc 1) (o_aload 1 2) o_bad) (cond (Nat.beq pc 2) (o_getf 9 2 5) o_bad))) (cond (Nat.blt pc 8) (cond (Nat.beq pc 5) (o_callV 2 1 sp_X1_tablesOn 8) o_bad) (cond (Nat.blt pc 9) (cond (Nat.beq pc 8) (o_istore 2 9) o_bad) (cond (Nat.beq pc 9) (o_aload 1 10) o_bad)))) (cond (Nat.blt pc 15) (cond (Nat.blt pc 13) (cond (Nat.beq pc 10) (o_getf 9 3 13) o_bad) (cond (Nat.blt pc 14) (cond (Nat.beq pc 13) (o_istore 3 14) o_bad) (cond (Nat.beq pc 14) (o_iload 3 15) o_bad))) (cond (Nat.blt pc 16) (cond (Nat.beq pc 15) (o_aload 1 16) o_bad) (cond (Nat.blt pc 19) (cond (Nat.beq pc 16) (o_getf 9 3 19) o_bad) (cond (Nat.beq pc 19) (o_aload 1 20) o_bad))))) (cond (Nat.blt pc 32) (cond (Nat.blt pc 27) (cond (Nat.blt pc 23) (cond (Nat.beq pc 20) (o_getf 9 4 23) o_bad) (cond (Nat.blt pc 24) (cond (Nat.beq pc 23) (o_bin (fun x y => x + y) 24) o_bad) (cond (Nat.beq pc 24) (o_icmp (fun x y => y ≤ x) 94 27) o_bad))) (cond (Nat.blt pc 28) (cond (Nat.beq pc 27) (o_aload 0 28) o_bad) (cond (Nat.blt pc 31) (cond (Nat.beq pc 28) (o_getf 1 2 31) o_bad) (cond (Nat.beq pc 31) (o_aload 1 32) o_bad)))) (cond (Nat.blt pc 39) (cond (Nat.blt pc 35) (cond (Nat.beq pc 32) (o_getf 9 2 35) o_bad) (cond (Nat.blt pc 36) (cond (Nat.beq pc 35) (o_iload 3 36) o_bad) (cond (Nat.beq pc 36) (o_callV 3 0 sp_X0_letAt 39) o_bad))) (cond (Nat.blt pc 41) (cond (Nat.blt pc 40) (cond (Nat.beq pc 39) (o_iload 2 40) o_bad) (cond (Nat.beq pc 40) (o_bin (fun x y => x - y) 41) o_bad)) (cond (Nat.blt pc 42) (cond (Nat.beq pc 41) (o_const (1) 42) o_bad) (cond (Nat.beq pc 42) (o_bin (fun x y => x + y) 43) o_bad)))))) (cond (Nat.blt pc 69) (cond (Nat.blt pc 55) (cond (Nat.blt pc 48) (cond (Nat.blt pc 45) (cond (Nat.beq pc 43) (o_istore 4 45) o_bad) (cond (Nat.blt pc 46) (cond (Nat.beq pc 45) (o_const (0) 46) o_bad) (cond (Nat.beq pc 46) (o_istore 5 48) o_bad))) (cond (Nat.blt pc 50) (cond (Nat.beq pc 48) (o_iload 5 50) o_bad) (cond (Nat.blt pc 52) (cond (Nat.beq pc 50) (o_iload 4 52) o_bad) (cond (Nat.beq pc 52) (o_icmp (fun x y => y ≤ x) 88 55) o_bad)))) (cond (Nat.blt pc 60) (cond (Nat.blt pc 56) (cond (Nat.beq pc 55) (o_aload 0 56) o_bad) (cond (Nat.blt pc 59) (cond (Nat.beq pc 56) (o_getf 1 2 59) o_bad) (cond (Nat.beq pc 59) (o_aload 1 60) o_bad))) (cond (Nat.blt pc 64) (cond (Nat.blt pc 63) (cond (Nat.beq pc 60) (o_getf 9 2 63) o_bad) (cond (Nat.beq pc 63) (o_iload 3 64) o_bad)) (cond (Nat.blt pc 67) (cond (Nat.beq pc 64) (o_callV 3 0 sp_X0_lastThatYields 67) o_bad) (cond (Nat.beq pc 67) (o_astore 6 69) o_bad))))) (cond (Nat.blt pc 79) (cond (Nat.blt pc 75) (cond (Nat.blt pc 71) (cond (Nat.beq pc 69) (o_aload 6 71) o_bad) (cond (Nat.blt pc 74) (cond (Nat.beq pc 71) (o_ifnull 74 76) o_bad) (cond (Nat.beq pc 74) (o_const (0) 75) o_bad))) (cond (Nat.blt pc 76) (cond (Nat.beq pc 75) (o_zret) o_bad) (cond (Nat.blt pc 78) (cond (Nat.beq pc 76) (o_aload 6 78) o_bad) (cond (Nat.beq pc 78) (o_const (1) 79) o_bad)))) (cond (Nat.blt pc 88) (cond (Nat.blt pc 82) (cond (Nat.beq pc 79) (o_putz 9 7 82) o_bad) (cond (Nat.blt pc 85) (cond (Nat.beq pc 82) (o_iinc 5 (1) 85) o_bad) (cond (Nat.beq pc 85) (o_goto 48) o_bad))) (cond (Nat.blt pc 94) (cond (Nat.blt pc 91) (cond (Nat.beq pc 88) (o_iinc 3 (1) 91) o_bad) (cond (Nat.beq pc 91) (o_goto 14) o_bad)) (cond (Nat.blt pc 95) (cond (Nat.beq pc 94) (o_const (1) 95) o_bad) (cond (Nat.beq pc 95) (o_zret) o_bad))))))
set_option maxRecDepth 20000 in
theorem ok_X1_marksRoom : HOKs cX1_marksRoom RX1 7 (some .boolean) 4 ins_X1_marksRoom := fun _ => hnd (hnd (hnd (hnd (hnd (hlf (ok_aload_n dX1_marksRoom_0 rfl rfl)) (hnd (hlf (ok_aload_n dX1_marksRoom_1 rfl rfl)) (hlf (ok_getfN (C := RX9) (T := TX9) dX1_marksRoom_2 rfl rfl (by decide) rfl inX9 wd_247 rfl)))) (hnd (hlf (ok_callV (y := yX1_tablesOn) (n' := 1) (C := RX1) (T := TX1) dX1_marksRoom_5 ct_X1_tablesOn (by decide) (by decide) wd_500 wd_497 wd_498 wd_499 wd_48 rfl (by decide +kernel) rfl rfl rfl)) (hnd (hlf (ok_istore_n dX1_marksRoom_8 rfl (by decide) rfl)) (hlf (ok_aload_n dX1_marksRoom_9 rfl rfl))))) (hnd (hnd (hlf (ok_getfN (C := RX9) (T := TX9) dX1_marksRoom_10 rfl rfl (by decide) rfl inX9 wd_251 rfl)) (hnd (hlf (ok_istore_n dX1_marksRoom_13 rfl (by decide) rfl)) (hlf (ok_iload_n dX1_marksRoom_14 rfl rfl)))) (hnd (hlf (ok_aload_n dX1_marksRoom_15 rfl rfl)) (hnd (hlf (ok_getfN (C := RX9) (T := TX9) dX1_marksRoom_16 rfl rfl (by decide) rfl inX9 wd_251 rfl)) (hlf (ok_aload_n dX1_marksRoom_19 rfl rfl)))))) (hnd (hnd (hnd (hlf (ok_getfN (C := RX9) (T := TX9) dX1_marksRoom_20 rfl rfl (by decide) rfl inX9 wd_255 rfl)) (hnd (hlf (ok_iadd dX1_marksRoom_23 rfl)) (hlf (ok_icmp_ge dX1_marksRoom_24 (by decide) rfl)))) (hnd (hlf (ok_aload_n dX1_marksRoom_27 rfl rfl)) (hnd (hlf (ok_getf (C := RX1) (T := TX1) dX1_marksRoom_28 rfl rfl (by decide) rfl inX1 wd_188 rfl)) (hlf (ok_aload_n dX1_marksRoom_31 rfl rfl))))) (hnd (hnd (hlf (ok_getfN (C := RX9) (T := TX9) dX1_marksRoom_32 rfl rfl (by decide) rfl inX9 wd_247 rfl)) (hnd (hlf (ok_iload_n dX1_marksRoom_35 rfl rfl)) (hlf (ok_callV (y := yX0_letAt) (n' := 2) (C := RX0) (T := TX0) dX1_marksRoom_36 ct_X0_letAt (by decide) (by decide) wd_509 wd_506 wd_507 wd_508 wd_46 rfl (by decide +kernel) rfl rfl rfl)))) (hnd (hnd (hlf (ok_iload_n dX1_marksRoom_39 rfl rfl)) (hlf (ok_isub dX1_marksRoom_40 rfl))) (hnd (hlf (ok_iconst dX1_marksRoom_41 (by decide) rfl)) (hlf (ok_iadd dX1_marksRoom_42 rfl))))))) (hnd (hnd (hnd (hnd (hlf (ok_istore dX1_marksRoom_43 (by decide) rfl)) (hnd (hlf (ok_iconst dX1_marksRoom_45 (by decide) rfl)) (hlf (ok_istore dX1_marksRoom_46 (by decide) rfl)))) (hnd (hlf (ok_iload dX1_marksRoom_48 rfl)) (hnd (hlf (ok_iload dX1_marksRoom_50 rfl)) (hlf (ok_icmp_ge dX1_marksRoom_52 (by decide) rfl))))) (hnd (hnd (hlf (ok_aload_n dX1_marksRoom_55 rfl rfl)) (hnd (hlf (ok_getf (C := RX1) (T := TX1) dX1_marksRoom_56 rfl rfl (by decide) rfl inX1 wd_188 rfl)) (hlf (ok_aload_n dX1_marksRoom_59 rfl rfl)))) (hnd (hnd (hlf (ok_getfN (C := RX9) (T := TX9) dX1_marksRoom_60 rfl rfl (by decide) rfl inX9 wd_247 rfl)) (hlf (ok_iload_n dX1_marksRoom_63 rfl rfl))) (hnd (hlf (ok_callV (y := yX0_lastThatYields) (n' := 2) (C := RX0) (T := TX0) dX1_marksRoom_64 ct_X0_lastThatYields (by decide) (by decide) wd_521 wd_518 wd_519 wd_520 wd_46 rfl (by decide +kernel) rfl rfl rfl)) (hlf (ok_astore dX1_marksRoom_67 (by decide) rfl)))))) (hnd (hnd (hnd (hlf (ok_aload dX1_marksRoom_69 rfl)) (hnd (hlf (ok_ifnonnull dX1_marksRoom_71 (by decide) rfl)) (hlf (ok_iconst dX1_marksRoom_74 (by decide) rfl)))) (hnd (hlf (ok_zret dX1_marksRoom_75)) (hnd (hlf (ok_aload dX1_marksRoom_76 rfl)) (hlf (ok_iconst dX1_marksRoom_78 (by decide) rfl))))) (hnd (hnd (hlf (ok_putzN (C := RX9) (T := TX9) dX1_marksRoom_79 rfl rfl (by decide) rfl inX9 tyX9_ok nmX9 rfl rfl (fun _ _ => rfl) wd_268 rfl)) (hnd (hlf (ok_iinc dX1_marksRoom_82 (by decide) (by decide) rfl)) (hlf (ok_goto dX1_marksRoom_85 (by decide))))) (hnd (hnd (hlf (ok_iinc dX1_marksRoom_88 (by decide) (by decide) rfl)) (hlf (ok_goto dX1_marksRoom_91 (by decide)))) (hnd (hlf (ok_iconst dX1_marksRoom_94 (by decide) rfl)) (hlf (ok_zret dX1_marksRoom_95)))))))

theorem vc_X1_marksRoom : MVC ins_X1_marksRoom 7 2 sp_X1_marksRoom := by
  intro as w σ q hl hs
  unfold sp_X1_marksRoom at hs
  split at hs
  rotate_left
  · exact hs.elim
  rename_i v
  obtain ⟨n, a, b, t, hB, hz, ha, hb, hab, ht, ht6, hl7, hy, hno⟩ := hs
  have hn := hB.1
  obtain ⟨RR, hRR⟩ : ∃ R, R = rms (σ 9) (fun i => σ 9 i 5) n (σ 9 v 2) t b a (effS σ) := ⟨_, rfl⟩
  rw [← hRR] at hy hno
  have hBk : ∀ σ', lvO σ σ' n → Bk w σ' n := fun σ' h => ⟨hB.1, by rw [h.1 0 0 1 (by omega)]; exact hB.2.1, hB.2.2⟩
  refine ⟨fun pc => Nat.beq pc 14 || Nat.beq pc 48, fun pc N ls st w' σ' =>
    (pc = 14 ∧ ∃ (h : Nat) (x : Int32) (o4 o5 o6 : Option HV), a ≤ h ∧ h ≤ a + b ∧ N = (a + b - h) * 1000 + 999 ∧ x = nI h ∧ lvO σ σ' n ∧ rms (σ 9) (fun i => σ 9 i 5) n (σ 9 v 2) t (a + b - h) h (effS σ') = RR ∧ ls = [some (HR 1 0), some (HR 9 v), some (HI (nI t)), some (HI x), o4, o5, o6] ∧ st = [] ∧ w = w') ∨
    (pc = 48 ∧ ∃ (h c N0 : Nat) (x z y : Int32) (o6 : Option HV), a ≤ h ∧ h < a + b ∧ N0 ≤ 101 ∧ c ≤ N0 ∧ N = (a + b - h) * 1000 + (N0 - c) ∧ x = nI h ∧ (z = nI N0 ∨ (N0 = 0 ∧ z ≤ 0)) ∧ y = nI c ∧ lvO σ σ' n ∧ ((clr (σ 9) (fun i => σ 9 i 5) n (σ 9 v 2) (nI h) (N0 - c) (effS σ')).bind fun S' => rms (σ 9) (fun i => σ 9 i 5) n (σ 9 v 2) t (a + b - (h + 1)) (h + 1) S') = RR ∧ ls = [some (HR 1 0), some (HR 9 v), some (HI (nI t)), some (HI x), some (HI z), some (HI y), o6] ∧ st = [] ∧ w = w'), 80, 80, ?_, ?_⟩
  · rintro N pc ls st w' σ' hh (⟨rfl, h, x, o4, o5, o6, hah, hhb, rfl, rfl, hO, hR, rfl, rfl, rfl⟩ | ⟨rfl, h, c, N0, x, z, y, o6, hah, hhb, hN0, hc, rfl, rfl, hz0, rfl, hO, hR, rfl, rfl, rfl⟩)
    · have e3 : σ' 9 v 3 = nI a := by rw [lvO_n hO (by decide)]; exact ha
      have e4 : σ' 9 v 4 = nI b := by rw [lvO_n hO (by decide)]; exact hb
      have e2 : σ' 9 v 2 = σ 9 v 2 := lvO_n hO (by decide)
      have e : σ' 9 v 3 + σ' 9 v 4 = nI (a + b) := by rw [e3, e4]; exact nI_add a b
      apply br2
      · intro h1
        obtain rfl := lp_end e hhb h1
        rw [Nat.sub_self] at hR
        exact ⟨Or.inr rfl, hy _ hR.symm σ' hO rfl⟩
      · intro h1
        have hlt := lp_go e hhb h1
        refine ⟨n, hBk σ' hO, ?_⟩
        have hlc : cnt (fun i => decide (atL σ' i (σ' 9 v 2) (nI h))) n = lcV (σ 9) (effS σ') (σ 9 v 2) (nI h) n := by rw [e2]; exact lc_iff hO _ _
        have hle : lcV (σ 9) (effS σ') (σ 9 v 2) (nI h) n ≤ 100 := Nat.le_trans (cnt_le _ _) hn
        refine ⟨(a + b - h) * 1000 + (lcV (σ 9) (effS σ') (σ 9 v 2) (nI h) n + 1 - t - 0), by omega, Or.inr ⟨rfl, h, 0, lcV (σ 9) (effS σ') (σ 9 v 2) (nI h) n + 1 - t, _, _, _, _, hah, hlt, by omega, Nat.zero_le _, rfl, rfl, ?_, rfl, hO, ?_, rfl, rfl, rfl⟩⟩
        · rw [hlc]
          by_cases c : t ≤ lcV (σ 9) (effS σ') (σ 9 v 2) (nI h) n
          · exact Or.inl (tooN c)
          · exact Or.inr ⟨by omega, tooM _ (by omega) _ (by omega) (by omega)⟩
        · rw [Nat.sub_zero, ← hR]
          obtain ⟨k, hk⟩ : ∃ k, a + b - h = k + 1 := ⟨a + b - h - 1, by omega⟩
          rw [hk]
          have : a + b - (h + 1) = k := by omega
          rw [this]
          rfl
    · have e2 : σ' 9 v 2 = σ 9 v 2 := lvO_n hO (by decide)
      apply br2
      · intro h1
        have h1 : z ≤ nI c := h1
        have hcN : N0 - c = 0 := by
          rcases hz0 with e | ⟨e, _⟩
          · have := lp_end e hc h1
            omega
          · omega
        rw [hcN] at hR
        refine ⟨(a + b - (h + 1)) * 1000 + 999, by omega, Or.inl ⟨rfl, h + 1, _, _, _, _, by omega, hhb, rfl, nI_1 h, hO, hR, rfl, rfl, rfl⟩⟩
      · intro h1
        have h1 : ¬ z ≤ nI c := h1
        have hcN : c < N0 := by
          rcases hz0 with e | ⟨e, e2⟩
          · exact lp_go e hc h1
          · exact absurd (Int32.le_trans e2 (nI_pos' (by omega))) h1
        have hk : N0 - c = (N0 - (c + 1)) + 1 := by omega
        rw [hk] at hR
        refine ⟨n, hBk σ' hO, ?_, ?_⟩
        · intro i hi hyi hno2
          have hY : lastY (fun i => decide (yV (σ 9) (fun i => σ 9 i 5) (effS σ') i (σ 9 v 2) (nI h))) n = some i :=
            lastY_some hi (decide_eq_true ((y_iff hO i _ _).mp (e2 ▸ hyi))) (fun j h1 h2 => decide_eq_false fun q => hno2 j h1 h2 (e2.symm ▸ (y_iff hO j _ _).mpr q))
          unfold clr at hR
          rw [hY] at hR
          obtain ⟨g1, g2⟩ := eff_up hO hi
          refine And.intro (Or.inr rfl) ?_
          refine ⟨(a + b - h) * 1000 + (N0 - (c + 1)), by omega, Or.inr ⟨rfl, h, c + 1, N0, _, _, _, _, hah, hhb, hN0, hcN, rfl, rfl, hz0, nI_1 c, g1, ?_, rfl, rfl, rfl⟩⟩
          rw [g2]
          exact hR
        · intro hno2
          have hY : lastY (fun i => decide (yV (σ 9) (fun i => σ 9 i 5) (effS σ') i (σ 9 v 2) (nI h))) n = none :=
            lastY_none (fun j h1 => decide_eq_false fun q => hno2 j h1 (e2.symm ▸ (y_iff hO j _ _).mpr q))
          unfold clr at hR
          rw [hY] at hR
          exact ⟨Or.inl rfl, hno hR.symm σ' hO⟩
  · refine ⟨hz, ?_⟩
    have hO : lvO σ σ n := ⟨fun _ _ _ _ => rfl, hl7⟩
    refine ⟨_, Or.inl ⟨rfl, a, _, none, none, none, Nat.le_refl _, by omega, rfl, ha, hO, ?_, ?_, rfl, rfl⟩⟩
    · have : a + b - a = b := by omega
      rw [this, hRR]
    · rw [ht]; rfl
theorem ct_X1_marksRoom : Ctr yX1_marksRoom cX1_marksRoom 7 (some .boolean) 4 0 0 2 sp_X1_marksRoom := ctr_of (by decide +kernel) rfl (by decide) ok_X1_marksRoom vc_X1_marksRoom
end
section
/-! VisitHall.Gate, 5: the reason, who is let -/
abbrev VW (σ : HS) (np v : Nat) : Prop := (∃ p, p < np ∧ σ 9 v 0 = nI p) ∧ (∃ a b, σ 9 v 3 = nI a ∧ σ 9 v 4 = nI b ∧ a + b ≤ 12) ∧ (σ 9 v 5 = 0 ∨ σ 9 v 5 = 1)
def CW (w : HW) (σ : HS) (n np nv : Nat) : Prop := Bk w σ n ∧ Pk w σ np ∧ (nv ≤ 14 ∧ σ 2 0 4 = nI nv) ∧ Fp σ np ∧ (∀ p, p < np → ∃ c, c < 4 ∧ σ 3 p 0 = nI c) ∧ (∀ c, c < 4 → ∀ r, w.2 16 c = some r → ∃ m, 1 ≤ m ∧ m ≤ 60 ∧ σ 4 r 1 = nI m) ∧ σ 7 0 1 ≤ 60 ∧ (∃ t, t ≤ 6 ∧ σ 1 0 4 = nI t) ∧ ∀ i, i < n → VW σ np i
theorem tb6 {w : HW} {σ : HS} {n np nv : Nat} (h : CW w σ n np nv) (day : Int32) : ∃ t, t ≤ 6 ∧ tbC σ day = nI t := by
  obtain ⟨t, h1, h2⟩ := h.2.2.2.2.2.2.2.1
  unfold tbC
  split
  · split
    · rename_i h4
      obtain ⟨i, hi, e⟩ := in_of (n := 7) h4
      exact ⟨i, by omega, e⟩
    · exact ⟨0, by omega, rfl⟩
  · exact ⟨t, h1, h2⟩
abbrev tooC (σ : HS) (v r n nv : Nat) : Prop := ∃ k, k < (σ 4 r 1).toNatClampNeg ∧ ¬ nI (winC σ v (σ 4 r 1).toNatClampNeg n k) + 1 ≤ gvC σ v r nv
noncomputable def rrC (w : HW) (σ : HS) (n nv v : Nat) : Int32 := (w.2 16 (σ 3 (σ 9 v 0).toNatClampNeg 0).toNatClampNeg).elim 5 fun r => cif (¬ alw σ r v) 5 (cif (tooC σ v r n nv) 6 0)
def rmC (σ : HS) (n v : Nat) : Option (Nat → Int32) := rms (σ 9) (fun i => σ 9 i 5) n (σ 9 v 2) (tbC σ (σ 9 v 2)).toNatClampNeg (σ 9 v 4).toNatClampNeg (σ 9 v 3).toNatClampNeg (effS σ)
noncomputable def rhV (σ : HS) (n v : Nat) : Int32 := rhC σ n v (σ 9 v 3).toNatClampNeg (σ 9 v 4).toNatClampNeg
noncomputable def rsC (w : HW) (σ : HS) (n nv v : Nat) : Int32 := cif (¬ rpC σ v (σ 9 v 0).toNatClampNeg = 0) (rpC σ v (σ 9 v 0).toNatClampNeg) (cif (σ 9 v 5 = 0 ∧ ¬ rrC w σ n nv v = 0) (rrC w σ n nv v) (cif (rhV σ n v = 9 ∧ ¬ σ 9 v 5 = 0 ∧ ¬ rmC σ n v = none) 0 (rhV σ n v)))
theorem rp_9 (σ : HS) (v p : Nat) : ¬ rpC σ v p = 9 := by
  unfold rpC
  by_cases h1 : σ 3 p 2 = 0
  · rw [cif_p h1]; decide
  rw [cif_n h1]
  by_cases h2 : ¬ liC σ p (σ 9 v 1)
  · rw [cif_p h2]; decide
  rw [cif_n h2]
  by_cases h3 : baC σ v p
  · rw [cif_p h3]; decide
  rw [cif_n h3]
  by_cases h4 : nkC σ (σ 9 v 1)
  · rw [cif_p h4]; decide
  rw [cif_n h4]
  decide
theorem eqT.r9 {σ σ' : HS} (h : eqT σ σ') : σ' 9 = σ 9 := funext fun i => funext fun f => h 9 i f (by omega)
theorem eqT.rk {σ σ' : HS} (h : eqT σ σ') (k : Nat) (hk : k ≠ 13) : σ' k = σ k := funext fun i => funext fun f => h k i f (fun q => hk q.1)
theorem eqT.r13 {σ σ' : HS} (h : eqT σ σ') (i : Nat) (hi : i ≠ 3) : σ' 13 i = σ 13 i := funext fun f => h 13 i f (fun q => hi q.2)
theorem eqT.rf {σ : HS} : eqT σ σ := fun _ _ _ _ => rfl
theorem eqT.tr {σ σ' σ'' : HS} (h : eqT σ σ') (h2 : eqT σ' σ'') : eqT σ σ'' := fun k i f hq => (h2 k i f hq).trans (h k i f hq)
theorem CW_T {w : HW} {σ σ' : HS} {n np nv : Nat} (h : eqT σ σ') (hC : CW w σ n np nv) : CW w σ' n np nv := by
  unfold CW Bk Pk at hC ⊢
  unfold Fp VW at hC ⊢
  rw [h.rk 0 (by decide), h.rk 2 (by decide), h.rk 3 (by decide), h.rk 4 (by decide), h.rk 7 (by decide), h.rk 1 (by decide), h.r9]
  exact hC
theorem tbT {σ σ' : HS} (h : eqT σ σ') : tbC σ' = tbC σ := by
  funext day
  unfold tbC
  rw [h.rk 7 (by decide), h.rk 12 (by decide), h.rk 1 (by decide)]
theorem rpT {σ σ' : HS} (h : eqT σ σ') : rpC σ' = rpC σ := by
  funext v p
  unfold rpC liC baC nkC
  rw [h.rk 3 (by decide), h.r9, h.r13 0 (by decide), h.r13 (p + 4) (by omega)]
theorem rhT {σ σ' : HS} (h : eqT σ σ') : rhC σ' = rhC σ := by
  funext n v a b
  unfold rhC hmC mrC ntC shH shP rvI atL
  rw [tbT h, h.rk 3 (by decide), h.r9, h.r13 2 (by decide)]
theorem gvT {σ σ' : HS} (h : eqT σ σ') : gvC σ' = gvC σ := by
  funext v r nv
  unfold gvC farC
  rw [h.rk 4 (by decide), h.r9, h.r13 1 (by decide)]
theorem wnT {σ σ' : HS} (h : eqT σ σ') : winC σ' = winC σ := by
  funext v m n k
  unfold winC tyP
  rw [h.r9]
theorem rrT {w : HW} {σ σ' : HS} (h : eqT σ σ') : rrC w σ' = rrC w σ := by
  funext n nv v
  unfold rrC tooC alw
  rw [gvT h, wnT h, h.rk 4 (by decide), h.rk 3 (by decide), h.r9]
theorem rmT {σ σ' : HS} (h : eqT σ σ') : rmC σ' = rmC σ := by
  funext n v
  have e : effS σ' = effS σ := by funext i; unfold effS; rw [h.r9]
  unfold rmC
  rw [tbT h, e, h.r9]
theorem rsT {w : HW} {σ σ' : HS} (h : eqT σ σ') : rsC w σ' = rsC w σ := by
  funext n nv v
  unfold rsC rhV
  rw [rpT h, rrT h, rhT h, rmT h, h.r9]
theorem kp_back {σ σ' : HS} {n : Nat} (h : lvO σ σ' n) (hz : ∀ i, i < n → σ 9 i 7 = 0) : kpS σ' n = σ := by
  funext k i f
  unfold kpS
  by_cases q : k = 9 ∧ f = 7 ∧ i < n
  · rw [if_pos q]
    obtain ⟨rfl, rfl, hi⟩ := q
    exact (hz i hi).symm
  · rw [if_neg q]
    exact h.1 k i f q
def sp_X1_reason : HSp := fun as w σ K => match as with
  | [.inr (.inl (1, some 0)), .inr (.inl (9, some v))] => ∃ n np nv, CW w σ n np nv ∧ VW σ np v ∧ (∀ i, i < n → σ 9 i 7 = 0) ∧ ∀ σ', eqT σ σ' → K (some (HI (rsC w σ n nv v))) w σ'
  | _ => False
theorem rh_in (σ : HS) (n v a b : Nat) : rhC σ n v a b = 7 ∨ rhC σ n v a b = 8 ∨ rhC σ n v a b = 9 ∨ rhC σ n v a b = 0 := by
  unfold rhC
  by_cases h1 : hmC σ n v
  · rw [cif_p h1]; exact Or.inl rfl
  rw [cif_n h1]
  by_cases h2 : mrC σ n v
  · rw [cif_p h2]; exact Or.inr (Or.inl rfl)
  rw [cif_n h2]
  by_cases h3 : ntC σ n v a b
  · rw [cif_p h3]; exact Or.inr (Or.inr (Or.inl rfl))
  · rw [cif_n h3]; exact Or.inr (Or.inr (Or.inr rfl))
theorem dX1_reason_0 : decode cX1_reason 0 = .ok (.aload_n 0, 1) := by decide +kernel
theorem dX1_reason_1 : decode cX1_reason 1 = .ok (.aload_n 1, 1) := by decide +kernel
theorem dX1_reason_2 : decode cX1_reason 2 = .ok (.invokevirtual 51, 3) := by decide +kernel
theorem dX1_reason_5 : decode cX1_reason 5 = .ok (.istore_n 2, 1) := by decide +kernel
theorem dX1_reason_6 : decode cX1_reason 6 = .ok (.iload_n 2, 1) := by decide +kernel
theorem dX1_reason_7 : decode cX1_reason 7 = .ok (.ifCond .ne 16, 3) := by decide +kernel
theorem dX1_reason_10 : decode cX1_reason 10 = .ok (.aload_n 1, 1) := by decide +kernel
theorem dX1_reason_11 : decode cX1_reason 11 = .ok (.getfield 55, 3) := by decide +kernel
theorem dX1_reason_14 : decode cX1_reason 14 = .ok (.ifCond .ne 9, 3) := by decide +kernel
theorem dX1_reason_17 : decode cX1_reason 17 = .ok (.aload_n 0, 1) := by decide +kernel
theorem dX1_reason_18 : decode cX1_reason 18 = .ok (.aload_n 1, 1) := by decide +kernel
theorem dX1_reason_19 : decode cX1_reason 19 = .ok (.invokevirtual 61, 3) := by decide +kernel
theorem dX1_reason_22 : decode cX1_reason 22 = .ok (.istore_n 2, 1) := by decide +kernel
theorem dX1_reason_23 : decode cX1_reason 23 = .ok (.iload_n 2, 1) := by decide +kernel
theorem dX1_reason_24 : decode cX1_reason 24 = .ok (.ifCond .ne 9, 3) := by decide +kernel
theorem dX1_reason_27 : decode cX1_reason 27 = .ok (.aload_n 0, 1) := by decide +kernel
theorem dX1_reason_28 : decode cX1_reason 28 = .ok (.aload_n 1, 1) := by decide +kernel
theorem dX1_reason_29 : decode cX1_reason 29 = .ok (.invokevirtual 64, 3) := by decide +kernel
theorem dX1_reason_32 : decode cX1_reason 32 = .ok (.istore_n 2, 1) := by decide +kernel
theorem dX1_reason_33 : decode cX1_reason 33 = .ok (.iload_n 2, 1) := by decide +kernel
theorem dX1_reason_34 : decode cX1_reason 34 = .ok (.bipush 9, 2) := by decide +kernel
theorem dX1_reason_36 : decode cX1_reason 36 = .ok (.if_icmp .ne 34, 3) := by decide +kernel
theorem dX1_reason_39 : decode cX1_reason 39 = .ok (.aload_n 1, 1) := by decide +kernel
theorem dX1_reason_40 : decode cX1_reason 40 = .ok (.getfield 55, 3) := by decide +kernel
theorem dX1_reason_43 : decode cX1_reason 43 = .ok (.ifCond .eq 27, 3) := by decide +kernel
theorem dX1_reason_46 : decode cX1_reason 46 = .ok (.aload_n 0, 1) := by decide +kernel
theorem dX1_reason_47 : decode cX1_reason 47 = .ok (.aload_n 1, 1) := by decide +kernel
theorem dX1_reason_48 : decode cX1_reason 48 = .ok (.invokevirtual 67, 3) := by decide +kernel
theorem dX1_reason_51 : decode cX1_reason 51 = .ok (.istore_n 3, 1) := by decide +kernel
theorem dX1_reason_52 : decode cX1_reason 52 = .ok (.aload_n 0, 1) := by decide +kernel
theorem dX1_reason_53 : decode cX1_reason 53 = .ok (.getfield 29, 3) := by decide +kernel
theorem dX1_reason_56 : decode cX1_reason 56 = .ok (.invokevirtual 71, 3) := by decide +kernel
theorem dX1_reason_59 : decode cX1_reason 59 = .ok (.iload_n 3, 1) := by decide +kernel
theorem dX1_reason_60 : decode cX1_reason 60 = .ok (.ifCond .eq 7, 3) := by decide +kernel
theorem dX1_reason_63 : decode cX1_reason 63 = .ok (.iconst 0, 1) := by decide +kernel
theorem dX1_reason_64 : decode cX1_reason 64 = .ok (.goto 5, 3) := by decide +kernel
theorem dX1_reason_67 : decode cX1_reason 67 = .ok (.bipush 9, 2) := by decide +kernel
theorem dX1_reason_69 : decode cX1_reason 69 = .ok (.ireturn, 1) := by decide +kernel
theorem dX1_reason_70 : decode cX1_reason 70 = .ok (.iload_n 2, 1) := by decide +kernel
theorem dX1_reason_71 : decode cX1_reason 71 = .ok (.ireturn, 1) := by decide +kernel
def ins_X1_reason (pc : Nat) : HOp := cond (Nat.blt pc 34) (cond (Nat.blt pc 18) (cond (Nat.blt pc 7) (cond (Nat.blt pc 2) (cond (Nat.blt pc 1) (cond (Nat.beq pc 0) (o_aload 0 1) o_bad) (cond (Nat.beq pc 1) (o_aload 1 2) o_bad)) (cond (Nat.blt pc 5) (cond (Nat.beq pc 2) (o_callV 2 1 sp_X1_reasonOfPeople 5) o_bad) (cond (Nat.blt pc 6) (cond (Nat.beq pc 5) (o_istore 2 6) o_bad) (cond (Nat.beq pc 6) (o_iload 2 7) o_bad)))) (cond (Nat.blt pc 11) (cond (Nat.blt pc 10) (cond (Nat.beq pc 7) (o_if (fun x => x = 0) 10 23) o_bad) (cond (Nat.beq pc 10) (o_aload 1 11) o_bad)) (cond (Nat.blt pc 14) (cond (Nat.beq pc 11) (o_getf 9 5 14) o_bad) (cond (Nat.blt pc 17) (cond (Nat.beq pc 14) (o_if (fun x => x = 0) 17 23) o_bad) (cond (Nat.beq pc 17) (o_aload 0 18) o_bad))))) (cond (Nat.blt pc 27) (cond (Nat.blt pc 22) (cond (Nat.blt pc 19) (cond (Nat.beq pc 18) (o_aload 1 19) o_bad) (cond (Nat.beq pc 19) (o_callV 2 1 sp_X1_reasonOfRight 22) o_bad)) (cond (Nat.blt pc 23) (cond (Nat.beq pc 22) (o_istore 2 23) o_bad) (cond (Nat.blt pc 24) (cond (Nat.beq pc 23) (o_iload 2 24) o_bad) (cond (Nat.beq pc 24) (o_if (fun x => x = 0) 27 33) o_bad)))) (cond (Nat.blt pc 29) (cond (Nat.blt pc 28) (cond (Nat.beq pc 27) (o_aload 0 28) o_bad) (cond (Nat.beq pc 28) (o_aload 1 29) o_bad)) (cond (Nat.blt pc 32) (cond (Nat.beq pc 29) (o_callV 2 1 sp_X1_reasonOfHall 32) o_bad) (cond (Nat.blt pc 33) (cond (Nat.beq pc 32) (o_istore 2 33) o_bad) (cond (Nat.beq pc 33) (o_iload 2 34) o_bad)))))) (cond (Nat.blt pc 53) (cond (Nat.blt pc 46) (cond (Nat.blt pc 39) (cond (Nat.blt pc 36) (cond (Nat.beq pc 34) (o_const (9) 36) o_bad) (cond (Nat.beq pc 36) (o_icmp (fun x y => x = y) 39 70) o_bad)) (cond (Nat.blt pc 40) (cond (Nat.beq pc 39) (o_aload 1 40) o_bad) (cond (Nat.blt pc 43) (cond (Nat.beq pc 40) (o_getf 9 5 43) o_bad) (cond (Nat.beq pc 43) (o_if (fun x => x = 0) 70 46) o_bad)))) (cond (Nat.blt pc 48) (cond (Nat.blt pc 47) (cond (Nat.beq pc 46) (o_aload 0 47) o_bad) (cond (Nat.beq pc 47) (o_aload 1 48) o_bad)) (cond (Nat.blt pc 51) (cond (Nat.beq pc 48) (o_callV 2 1 sp_X1_marksRoom 51) o_bad) (cond (Nat.blt pc 52) (cond (Nat.beq pc 51) (o_istore 3 52) o_bad) (cond (Nat.beq pc 52) (o_aload 0 53) o_bad))))) (cond (Nat.blt pc 64) (cond (Nat.blt pc 59) (cond (Nat.blt pc 56) (cond (Nat.beq pc 53) (o_getf 1 2 56) o_bad) (cond (Nat.beq pc 56) (o_callV 1 0 sp_X0_keepAll 59) o_bad)) (cond (Nat.blt pc 60) (cond (Nat.beq pc 59) (o_iload 3 60) o_bad) (cond (Nat.blt pc 63) (cond (Nat.beq pc 60) (o_if (fun x => x = 0) 67 63) o_bad) (cond (Nat.beq pc 63) (o_const (0) 64) o_bad)))) (cond (Nat.blt pc 69) (cond (Nat.blt pc 67) (cond (Nat.beq pc 64) (o_goto 69) o_bad) (cond (Nat.beq pc 67) (o_const (9) 69) o_bad)) (cond (Nat.blt pc 70) (cond (Nat.beq pc 69) (o_iret) o_bad) (cond (Nat.blt pc 71) (cond (Nat.beq pc 70) (o_iload 2 71) o_bad) (cond (Nat.beq pc 71) (o_iret) o_bad))))))
set_option maxRecDepth 20000 in
theorem ok_X1_reason : HOKs cX1_reason RX1 4 (some .int) 6 ins_X1_reason := fun _ => hnd (hnd (hnd (hnd (hnd (hlf (ok_aload_n dX1_reason_0 rfl rfl)) (hlf (ok_aload_n dX1_reason_1 rfl rfl))) (hnd (hlf (ok_callV (y := yX1_reasonOfPeople) (n' := 1) (C := RX1) (T := TX1) dX1_reason_2 ct_X1_reasonOfPeople (by decide) (by decide) wd_424 wd_421 wd_423 wd_0 wd_48 rfl (by decide +kernel) rfl rfl rfl)) (hnd (hlf (ok_istore_n dX1_reason_5 rfl (by decide) rfl)) (hlf (ok_iload_n dX1_reason_6 rfl rfl))))) (hnd (hnd (hlf (ok_if_ne dX1_reason_7 (by decide) rfl)) (hlf (ok_aload_n dX1_reason_10 rfl rfl))) (hnd (hlf (ok_getfN (C := RX9) (T := TX9) dX1_reason_11 rfl rfl (by decide) rfl inX9 wd_258 rfl)) (hnd (hlf (ok_if_ne dX1_reason_14 (by decide) rfl)) (hlf (ok_aload_n dX1_reason_17 rfl rfl)))))) (hnd (hnd (hnd (hlf (ok_aload_n dX1_reason_18 rfl rfl)) (hlf (ok_callV (y := yX1_reasonOfRight) (n' := 1) (C := RX1) (T := TX1) dX1_reason_19 ct_X1_reasonOfRight (by decide) (by decide) wd_441 wd_438 wd_440 wd_1 wd_48 rfl (by decide +kernel) rfl rfl rfl))) (hnd (hlf (ok_istore_n dX1_reason_22 rfl (by decide) rfl)) (hnd (hlf (ok_iload_n dX1_reason_23 rfl rfl)) (hlf (ok_if_ne dX1_reason_24 (by decide) rfl))))) (hnd (hnd (hlf (ok_aload_n dX1_reason_27 rfl rfl)) (hlf (ok_aload_n dX1_reason_28 rfl rfl))) (hnd (hlf (ok_callV (y := yX1_reasonOfHall) (n' := 1) (C := RX1) (T := TX1) dX1_reason_29 ct_X1_reasonOfHall (by decide) (by decide) wd_471 wd_468 wd_470 wd_4 wd_48 rfl (by decide +kernel) rfl rfl rfl)) (hnd (hlf (ok_istore_n dX1_reason_32 rfl (by decide) rfl)) (hlf (ok_iload_n dX1_reason_33 rfl rfl))))))) (hnd (hnd (hnd (hnd (hlf (ok_bipush dX1_reason_34 (by decide) rfl)) (hlf (ok_icmp_ne dX1_reason_36 (by decide) rfl))) (hnd (hlf (ok_aload_n dX1_reason_39 rfl rfl)) (hnd (hlf (ok_getfN (C := RX9) (T := TX9) dX1_reason_40 rfl rfl (by decide) rfl inX9 wd_258 rfl)) (hlf (ok_if_eq dX1_reason_43 (by decide) rfl))))) (hnd (hnd (hlf (ok_aload_n dX1_reason_46 rfl rfl)) (hlf (ok_aload_n dX1_reason_47 rfl rfl))) (hnd (hlf (ok_callV (y := yX1_marksRoom) (n' := 1) (C := RX1) (T := TX1) dX1_reason_48 ct_X1_marksRoom (by decide) (by decide) wd_517 wd_514 wd_516 wd_7 wd_48 rfl (by decide +kernel) rfl rfl rfl)) (hnd (hlf (ok_istore_n dX1_reason_51 rfl (by decide) rfl)) (hlf (ok_aload_n dX1_reason_52 rfl rfl)))))) (hnd (hnd (hnd (hlf (ok_getf (C := RX1) (T := TX1) dX1_reason_53 rfl rfl (by decide) rfl inX1 wd_188 rfl)) (hlf (ok_callV (y := yX0_keepAll) (n' := 0) (C := RX0) (T := TX0) dX1_reason_56 ct_X0_keepAll (by decide) (by decide) wd_525 wd_522 wd_523 wd_524 wd_46 rfl (by decide +kernel) rfl rfl rfl))) (hnd (hlf (ok_iload_n dX1_reason_59 rfl rfl)) (hnd (hlf (ok_if_eq dX1_reason_60 (by decide) rfl)) (hlf (ok_iconst dX1_reason_63 (by decide) rfl))))) (hnd (hnd (hlf (ok_goto dX1_reason_64 (by decide))) (hlf (ok_bipush dX1_reason_67 (by decide) rfl))) (hnd (hlf (ok_iret dX1_reason_69)) (hnd (hlf (ok_iload_n dX1_reason_70 rfl rfl)) (hlf (ok_iret dX1_reason_71)))))))

set_option maxHeartbeats 1000000 in
theorem vc_X1_reason : MVC ins_X1_reason 4 2 sp_X1_reason := by
  refine mvc1 23 80 fun as w σ q hl hs => ?_
  unfold sp_X1_reason at hs
  split at hs
  rotate_left
  · exact hs.elim
  rename_i v
  obtain ⟨n, np, nv, hC, hV, hz, hq⟩ := hs
  obtain ⟨hB, hP, hnv, hF, hcl, hrt, hsz, htb, hvs⟩ := id hC
  obtain ⟨⟨p, hp, hvp⟩, ⟨a, b, ha, hb, hab⟩, hlw⟩ := id hV
  have h10 := hP.1
  have hVp : Vp σ np n := fun i hi => (hvs i hi).1
  have ep : (σ 9 v 0).toNatClampNeg = p := by rw [hvp]; exact nI_clamp (by omega)
  have ea : (σ 9 v 3).toNatClampNeg = a := by rw [ha]; exact nI_clamp (by omega)
  have eb : (σ 9 v 4).toNatClampNeg = b := by rw [hb]; exact nI_clamp (by omega)
  obtain ⟨t, ht6, ht⟩ := tb6 hC (σ 9 v 2)
  have et : (tbC σ (σ 9 v 2)).toNatClampNeg = t := by rw [ht]; exact nI_clamp (by omega)
  refine ⟨fun N ls st w' σ' => N = 0 ∧ ∃ (r : Int32) (o : Option HV), ls = [some (HR 1 0), some (HR 9 v), some (HI r), o] ∧ st = [] ∧ w = w' ∧ eqT σ σ' ∧ ((¬ r = 0 ∧ ¬ r = 9 ∧ rsC w σ n nv v = r) ∨ (r = 0 ∧ rsC w σ n nv v = cif (rhV σ n v = 9 ∧ ¬ σ 9 v 5 = 0 ∧ ¬ rmC σ n v = none) 0 (rhV σ n v))), ?_, ?_⟩
  · rintro N ls st w' σ' ⟨rfl, r, o, rfl, rfl, rfl, hE, hr⟩
    have hq := hq σ' hE
    rcases hr with ⟨h0, h9, hr⟩ | ⟨rfl, hr⟩
    · rw [hr] at hq
      refine And.intro (fun h => absurd h h0) (fun _ => ?_)
      exact And.intro (fun h => absurd h h9) (fun _ => hq)
    · rw [hr] at hq
      refine And.intro (fun _ => ?_) (fun h => absurd rfl h)
      have e9 := hE.r9
      have hC' := CW_T hE hC
      obtain ⟨hB', hP', -, hF', -, -, hsz', -, hvs'⟩ := id hC'
      have hV' : VW σ' np v := by unfold VW; rw [e9]; exact hV
      refine ⟨n, np, p, a, b, hB', hP', hp, by rw [e9]; exact hvp, fun i hi => (hvs' i hi).1, hF', hsz', by rw [e9]; exact ha, by rw [e9]; exact hb, hab, ?_⟩
      have eh : rhC σ' n v a b = rhV σ n v := by rw [rhT hE]; unfold rhV; rw [ea, eb]
      rw [eh]
      apply br2
      rotate_left
      · intro h9
        rw [cif_n fun z => h9 z.1] at hq
        exact hq
      intro h9
      apply br2
      · intro h5
        have h5 : σ' 9 v 5 = 0 := h5
        rw [e9] at h5
        rw [cif_n fun z => z.2.1 h5] at hq
        exact hq
      intro h5
      have h5 : ¬ σ' 9 v 5 = 0 := h5
      rw [e9] at h5
      have ert : rms (σ' 9) (fun i => σ' 9 i 5) n (σ' 9 v 2) t b a (effS σ') = rmC σ n v := by
        rw [← rmT hE]
        unfold rmC
        rw [tbT hE, e9, ea, eb, et]
      refine ⟨n, a, b, t, hB', hsz', by rw [e9]; exact ha, by rw [e9]; exact hb, hab, by rw [tbT hE, e9]; exact ht, ht6, fun i hi => Or.inl (by rw [e9]; exact hz i hi), ?_, ?_⟩
      · intro S' hS σ2 hO _
        rw [ert] at hS
        rw [cif_p ⟨h9, h5, by rw [hS]; exact fun q => by cases q⟩] at hq
        refine ⟨n, ⟨hB'.1, by rw [hO.1 0 0 1 (by omega)]; exact hB'.2.1, hB'.2.2⟩, ?_⟩
        rw [kp_back hO (fun i hi => by rw [e9]; exact hz i hi)]
        exact And.intro (fun h => absurd h (by decide)) (fun _ => hq)
      · intro hS σ2 hO
        rw [ert] at hS
        rw [cif_n fun z => z.2.2 hS, h9] at hq
        refine ⟨n, ⟨hB'.1, by rw [hO.1 0 0 1 (by omega)]; exact hB'.2.1, hB'.2.2⟩, ?_⟩
        rw [kp_back hO (fun i hi => by rw [e9]; exact hz i hi)]
        exact And.intro (fun _ => hq) (fun h => absurd rfl h)
  · refine ⟨np, p, hP, hp, hvp, ?_⟩
    have hrs : rsC w σ n nv v = cif (¬ rpC σ v p = 0) (rpC σ v p) (cif (σ 9 v 5 = 0 ∧ ¬ rrC w σ n nv v = 0) (rrC w σ n nv v) (cif (rhV σ n v = 9 ∧ ¬ σ 9 v 5 = 0 ∧ ¬ rmC σ n v = none) 0 (rhV σ n v))) := by
      unfold rsC
      rw [ep]
    apply br2
    rotate_left
    · intro h1
      rw [cif_p h1] at hrs
      exact ⟨0, rfl, _, none, rfl, rfl, rfl, eqT.rf, Or.inl ⟨h1, rp_9 σ v p, hrs⟩⟩
    intro h1
    rw [cif_n (not_not_intro h1)] at hrs
    apply br2
    rotate_left
    · intro h2
      rw [cif_n fun z => h2 z.1] at hrs
      exact ⟨0, rfl, _, none, rfl, rfl, rfl, eqT.rf, Or.inr ⟨h1, hrs⟩⟩
    intro h2
    obtain ⟨c, hc, hc2⟩ := hcl p hp
    have ecl : (σ 3 (σ 9 v 0).toNatClampNeg 0).toNatClampNeg = c := by rw [ep, hc2]; exact nI_clamp (by omega)
    have d5 : ¬ (5 : Int32) = 0 := by decide
    refine ⟨n, np, p, c, nv, hB, hP, hp, hvp, hc, hc2, hnv.1, hnv.2, ?_, ?_⟩
    · intro hno
      have er : rrC w σ n nv v = 5 := by unfold rrC; rw [ecl, hno]; rfl
      rw [er, cif_p ⟨h2, d5⟩] at hrs
      exact ⟨0, rfl, _, none, rfl, rfl, rfl, eqT.rf, Or.inl ⟨d5, by decide, hrs⟩⟩
    · intro r hr
      obtain ⟨m, hm1, hm2, hm3⟩ := hrt c hc r hr
      have em : (σ 4 r 1).toNatClampNeg = m := by rw [hm3]; exact nI_clamp (by omega)
      have er : rrC w σ n nv v = cif (¬ alw σ r v) 5 (cif (tooC σ v r n nv) 6 0) := by unfold rrC; rw [ecl, hr]; rfl
      refine ⟨m, hm1, hm2, hm3, ?_, ?_⟩
      · intro h3
        rw [cif_p h3] at er
        rw [er, cif_p ⟨h2, d5⟩] at hrs
        exact ⟨0, rfl, _, none, rfl, rfl, rfl, eqT.rf, Or.inl ⟨d5, by decide, hrs⟩⟩
      · intro h3 σ' M hE hM h6
        rw [cif_n (not_not_intro h3)] at er
        have hti : (¬ nI M + 1 ≤ gvC σ v r nv) ↔ tooC σ v r n nv := by
          unfold tooC
          rw [em]
          constructor
          · intro h4
            obtain ⟨k, hk, hk2⟩ := hM.2
            exact ⟨k, hk, by rw [hk2]; exact h4⟩
          · rintro ⟨k, hk, h4⟩ h5
            refine h4 (Int32.le_trans ?_ h5)
            have h7 := hM.1 k hk
            rw [nI_1, nI_1]
            exact nI_le (by omega) (by omega)
        by_cases h4 : nI M + 1 ≤ gvC σ v r nv
        · rw [if_pos h4]
          rw [cif_n fun z => hti.mpr z h4] at er
          rw [er, cif_n fun z => z.2 rfl] at hrs
          exact ⟨0, rfl, _, none, rfl, rfl, rfl, hE, Or.inr ⟨rfl, hrs⟩⟩
        · rw [if_neg h4]
          rw [cif_p (hti.mp h4)] at er
          rw [er, cif_p ⟨h2, by decide⟩] at hrs
          exact ⟨0, rfl, _, none, rfl, rfl, rfl, hE, Or.inl ⟨by decide, by decide, hrs⟩⟩
theorem ct_X1_reason : Ctr yX1_reason cX1_reason 4 (some .int) 6 0 0 2 sp_X1_reason := ctr_of (by decide +kernel) rfl (by decide) ok_X1_reason vc_X1_reason
end
section
/-! VisitHall.Gate, 6: admit, letWaiting -/
def stS (σ : HS) (S : Nat → Int32) (n : Nat) : HS := fun k i f => if k = 9 ∧ f = 6 ∧ i < n then S i else σ k i f
theorem sl_is {σ σ' : HS} {n : Nat} {S' : Nat → Int32} (h : lvO σ σ' n) (hz : ∀ i, i < n → σ 9 i 7 = 0) (hS : effS σ' = S') : slS σ' n = stS σ S' n := by
  subst hS
  funext k i f
  unfold slS stS
  by_cases hk : k = 9 ∧ i < n
  · obtain ⟨rfl, hi⟩ := hk
    have h7 := hz i hi
    unfold effS
    by_cases h0 : σ' 9 i 7 = 0
    · rw [if_neg fun q => q.2.2.1 h0]
      by_cases hf : f = 6
      · subst hf; rw [if_pos ⟨rfl, rfl, hi⟩, if_pos h0]
      · rw [if_neg fun q => hf q.2.1]
        by_cases hf7 : f = 7
        · subst hf7; rw [h0, h7]
        · exact h.1 9 i f (fun q => hf7 q.2.1)
    · by_cases hf : f = 6
      · subst hf; simp [h0, hi]
      · rw [if_neg (c := 9 = 9 ∧ f = 6 ∧ i < n) fun q => hf q.2.1]
        by_cases hf7 : f = 7
        · subst hf7; simp [h0, hi, h7]
        · rw [if_neg fun q => q.2.2.2.elim hf hf7]
          exact h.1 9 i f (fun q => hf7 q.2.1)
  · rw [if_neg fun q => hk ⟨q.1, q.2.1⟩, if_neg fun q => hk ⟨q.1, q.2.2⟩]
    exact h.1 k i f (fun q => hk ⟨q.1, q.2.2⟩)
def sp_X1_admit : HSp := fun as w σ K => match as with
  | [.inr (.inl (1, some 0)), .inr (.inl (9, some v))] => (σ 9 v 5 = 0 → K none w (up3 σ 9 v 6 0)) ∧ (¬ σ 9 v 5 = 0 → ∃ n np nv S', CW w σ n np nv ∧ VW σ np v ∧ (∀ i, i < n → σ 9 i 7 = 0) ∧ rmC σ n v = some S' ∧ K none w (up3 (stS σ S' n) 9 v 6 0))
  | _ => False
theorem dX1_admit_0 : decode cX1_admit 0 = .ok (.aload_n 1, 1) := by decide +kernel
theorem dX1_admit_1 : decode cX1_admit 1 = .ok (.getfield 55, 3) := by decide +kernel
theorem dX1_admit_4 : decode cX1_admit 4 = .ok (.ifCond .eq 18, 3) := by decide +kernel
theorem dX1_admit_7 : decode cX1_admit 7 = .ok (.aload_n 0, 1) := by decide +kernel
theorem dX1_admit_8 : decode cX1_admit 8 = .ok (.aload_n 1, 1) := by decide +kernel
theorem dX1_admit_9 : decode cX1_admit 9 = .ok (.invokevirtual 67, 3) := by decide +kernel
theorem dX1_admit_12 : decode cX1_admit 12 = .ok (.ifCond .eq 10, 3) := by decide +kernel
theorem dX1_admit_15 : decode cX1_admit 15 = .ok (.aload_n 0, 1) := by decide +kernel
theorem dX1_admit_16 : decode cX1_admit 16 = .ok (.getfield 29, 3) := by decide +kernel
theorem dX1_admit_19 : decode cX1_admit 19 = .ok (.invokevirtual 76, 3) := by decide +kernel
theorem dX1_admit_22 : decode cX1_admit 22 = .ok (.aload_n 1, 1) := by decide +kernel
theorem dX1_admit_23 : decode cX1_admit 23 = .ok (.iconst 0, 1) := by decide +kernel
theorem dX1_admit_24 : decode cX1_admit 24 = .ok (.putfield 79, 3) := by decide +kernel
theorem dX1_admit_27 : decode cX1_admit 27 = .ok (.return_, 1) := by decide +kernel
def ins_X1_admit (pc : Nat) : HOp := cond (Nat.blt pc 15) (cond (Nat.blt pc 7) (cond (Nat.blt pc 1) (cond (Nat.beq pc 0) (o_aload 1 1) o_bad) (cond (Nat.blt pc 4) (cond (Nat.beq pc 1) (o_getf 9 5 4) o_bad) (cond (Nat.beq pc 4) (o_if (fun x => x = 0) 22 7) o_bad))) (cond (Nat.blt pc 9) (cond (Nat.blt pc 8) (cond (Nat.beq pc 7) (o_aload 0 8) o_bad) (cond (Nat.beq pc 8) (o_aload 1 9) o_bad)) (cond (Nat.blt pc 12) (cond (Nat.beq pc 9) (o_callV 2 1 sp_X1_marksRoom 12) o_bad) (cond (Nat.beq pc 12) (o_if (fun x => x = 0) 22 15) o_bad)))) (cond (Nat.blt pc 22) (cond (Nat.blt pc 16) (cond (Nat.beq pc 15) (o_aload 0 16) o_bad) (cond (Nat.blt pc 19) (cond (Nat.beq pc 16) (o_getf 1 2 19) o_bad) (cond (Nat.beq pc 19) (o_callV 1 0 sp_X0_sendLeaversToWait 22) o_bad))) (cond (Nat.blt pc 24) (cond (Nat.blt pc 23) (cond (Nat.beq pc 22) (o_aload 1 23) o_bad) (cond (Nat.beq pc 23) (o_const (0) 24) o_bad)) (cond (Nat.blt pc 27) (cond (Nat.beq pc 24) (o_putf 9 6 27) o_bad) (cond (Nat.beq pc 27) (o_vret) o_bad))))
set_option maxRecDepth 20000 in
theorem ok_X1_admit : HOKs cX1_admit RX1 2 none 5 ins_X1_admit := fun _ => hnd (hnd (hnd (hlf (ok_aload_n dX1_admit_0 rfl rfl)) (hnd (hlf (ok_getfN (C := RX9) (T := TX9) dX1_admit_1 rfl rfl (by decide) rfl inX9 wd_258 rfl)) (hlf (ok_if_eq dX1_admit_4 (by decide) rfl)))) (hnd (hnd (hlf (ok_aload_n dX1_admit_7 rfl rfl)) (hlf (ok_aload_n dX1_admit_8 rfl rfl))) (hnd (hlf (ok_callV (y := yX1_marksRoom) (n' := 1) (C := RX1) (T := TX1) dX1_admit_9 ct_X1_marksRoom (by decide) (by decide) wd_517 wd_514 wd_516 wd_7 wd_48 rfl (by decide +kernel) rfl rfl rfl)) (hlf (ok_if_eq dX1_admit_12 (by decide) rfl))))) (hnd (hnd (hlf (ok_aload_n dX1_admit_15 rfl rfl)) (hnd (hlf (ok_getf (C := RX1) (T := TX1) dX1_admit_16 rfl rfl (by decide) rfl inX1 wd_188 rfl)) (hlf (ok_callV (y := yX0_sendLeaversToWait) (n' := 0) (C := RX0) (T := TX0) dX1_admit_19 ct_X0_sendLeaversToWait (by decide) (by decide) wd_533 wd_530 wd_531 wd_532 wd_46 rfl (by decide +kernel) rfl rfl rfl)))) (hnd (hnd (hlf (ok_aload_n dX1_admit_22 rfl rfl)) (hlf (ok_iconst dX1_admit_23 (by decide) rfl))) (hnd (hlf (ok_putfN (C := RX9) (T := TX9) dX1_admit_24 rfl rfl (by decide) rfl inX9 tyX9_ok nmX9 rfl rfl (fun _ _ => rfl) wd_263 rfl)) (hlf (ok_vret dX1_admit_27)))))

theorem vc_X1_admit : MVC ins_X1_admit 2 2 sp_X1_admit := by
  refine mvc0 60 fun as w σ q hl hs => ?_
  unfold sp_X1_admit at hs
  split at hs
  rotate_left
  · exact hs.elim
  rename_i v
  apply br2
  · intro h
    exact hs.1 h
  intro h
  obtain ⟨n, np, nv, S', hC, hV, hz, hS, hq⟩ := hs.2 h
  obtain ⟨hB, hP, hnv, hF, hcl, hrt, hsz, htb, hvs⟩ := id hC
  obtain ⟨⟨p, hp, hvp⟩, ⟨a, b, ha, hb, hab⟩, hlw⟩ := id hV
  have ea : (σ 9 v 3).toNatClampNeg = a := by rw [ha]; exact nI_clamp (by omega)
  have eb : (σ 9 v 4).toNatClampNeg = b := by rw [hb]; exact nI_clamp (by omega)
  obtain ⟨t, ht6, ht⟩ := tb6 hC (σ 9 v 2)
  have et : (tbC σ (σ 9 v 2)).toNatClampNeg = t := by rw [ht]; exact nI_clamp (by omega)
  unfold rmC at hS
  rw [ea, eb, et] at hS
  refine ⟨n, a, b, t, hB, hsz, ha, hb, hab, ht, ht6, fun i hi => Or.inl (hz i hi), ?_, ?_⟩
  · intro S2 hS2 σ2 hO hE
    rw [hS] at hS2
    cases hS2
    refine And.intro (fun h => absurd h (by decide)) (fun _ => ?_)
    refine ⟨n, ⟨hB.1, by rw [hO.1 0 0 1 (by omega)]; exact hB.2.1, hB.2.2⟩, ?_⟩
    rw [sl_is hO hz hE]
    exact hq
  · intro hS2
    rw [hS] at hS2
    cases hS2
theorem ct_X1_admit : Ctr yX1_admit cX1_admit 2 none 5 0 0 2 sp_X1_admit := ctr_of (by decide +kernel) rfl (by decide) ok_X1_admit vc_X1_admit

/-- those who wait, one after the other: what their states are behind the first k, and how many are let -/
noncomputable def wlk (rs : (Nat → Int32) → Nat → Int32) (rm : (Nat → Int32) → Nat → Nat → Int32) (ok : Nat → Prop) (S0 : Nat → Int32) : Nat → (Nat → Int32) × Nat
  | 0 => (S0, 0)
  | k + 1 => cif ((wlk rs rm ok S0 k).1 k = 1 ∧ ok k ∧ rs (wlk rs rm ok S0 k).1 k = 0) (upd (rm (wlk rs rm ok S0 k).1 k) k 0, (wlk rs rm ok S0 k).2 + 1) (wlk rs rm ok S0 k)
noncomputable def rmS (σ : HS) (n : Nat) (S : Nat → Int32) (k : Nat) : Nat → Int32 := cif (σ 9 k 5 = 0) S ((rmC (stS σ S n) n k).getD S)
noncomputable def wlC (w : HW) (σ : HS) (n nv : Nat) : Nat → (Nat → Int32) × Nat := wlk (fun S k => rsC w (stS σ S n) n nv k) (rmS σ n) (fun k => ¬ σ 9 k 2 < σ 0 0 2) (fun i => σ 9 i 6)
theorem stS_o {σ : HS} {S : Nat → Int32} {n k i f : Nat} (h : ¬ (k = 9 ∧ f = 6)) : stS σ S n k i f = σ k i f := if_neg fun q => h ⟨q.1, q.2.1⟩
theorem stS_k {σ : HS} {S : Nat → Int32} {n k : Nat} (h : k ≠ 9) : stS σ S n k = σ k := by
  funext i f
  exact stS_o fun q => h q.1
theorem stS_n {σ : HS} {S : Nat → Int32} {n i f : Nat} (h : f ≠ 6) : stS σ S n 9 i f = σ 9 i f := stS_o fun q => h q.2
theorem stS_6 {σ : HS} {S : Nat → Int32} {n i : Nat} (h : i < n) : stS σ S n 9 i 6 = S i := if_pos ⟨rfl, rfl, h⟩
theorem CW_S {w : HW} {σ : HS} {n np nv : Nat} {S : Nat → Int32} (hC : CW w σ n np nv) : CW w (stS σ S n) n np nv := by
  unfold CW Bk Pk at hC ⊢
  unfold Fp VW at hC ⊢
  rw [stS_k (by decide), stS_k (by decide), stS_k (by decide), stS_k (by decide), stS_k (by decide), stS_k (by decide)]
  obtain ⟨h1, h2, h3, h4, h5, h6, h7, h8, h9⟩ := hC
  refine ⟨h1, h2, h3, h4, h5, h6, h7, h8, fun i hi => ?_⟩
  rw [stS_n (by decide), stS_n (by decide), stS_n (by decide), stS_n (by decide)]
  exact h9 i hi
theorem lc0 {V : Nat → Nat → Int32} {L : Nat → Int32} {n t : Nat} {day : Int32} {S : Nat → Int32} : ∀ {b a : Nat}, (∀ h, a ≤ h → h < a + b → lcV V S day (nI h) n < t) → rms V L n day t b a S = some S
  | 0, _, _ => rfl
  | b + 1, a, h => by
    have h1 := h a (Nat.le_refl _) (by omega)
    have e : lcV V S day (nI a) n + 1 - t = 0 := by omega
    unfold rms
    rw [e]
    exact lc0 (fun h' h2 h3 => h h' (by omega) (by omega))
theorem rs_rm {w : HW} {σ : HS} {n np nv v : Nat} (hC : CW w σ n np nv) (hV : VW σ np v) (hz : ∀ i, i < n → σ 9 i 7 = 0) (h0 : rsC w σ n nv v = 0) (h5 : ¬ σ 9 v 5 = 0) : ∃ S', rmC σ n v = some S' := by
  obtain ⟨hB, hP, hnv, hF, hcl, hrt, hsz, htb, hvs⟩ := id hC
  obtain ⟨⟨p, hp, hvp⟩, ⟨a, b, ha, hb, hab⟩, hlw⟩ := id hV
  have hn := hB.1
  have ea : (σ 9 v 3).toNatClampNeg = a := by rw [ha]; exact nI_clamp (by omega)
  have eb : (σ 9 v 4).toNatClampNeg = b := by rw [hb]; exact nI_clamp (by omega)
  obtain ⟨t, ht6, ht⟩ := tb6 hC (σ 9 v 2)
  have et : (tbC σ (σ 9 v 2)).toNatClampNeg = t := by rw [ht]; exact nI_clamp (by omega)
  unfold rsC at h0
  by_cases c1 : ¬ rpC σ v (σ 9 v 0).toNatClampNeg = 0
  · rw [cif_p c1] at h0; exact absurd h0 c1
  rw [cif_n c1, cif_n fun z => h5 z.1] at h0
  by_cases c2 : rhV σ n v = 9 ∧ ¬ σ 9 v 5 = 0 ∧ ¬ rmC σ n v = none
  · cases e : rmC σ n v with
    | none => exact absurd e c2.2.2
    | some S' => exact ⟨S', rfl⟩
  rw [cif_n c2] at h0
  unfold rhV rhC at h0
  by_cases d1 : hmC σ n v
  · rw [cif_p d1] at h0; exact absurd h0 (by decide)
  rw [cif_n d1] at h0
  by_cases d2 : mrC σ n v
  · rw [cif_p d2] at h0; exact absurd h0 (by decide)
  rw [cif_n d2] at h0
  by_cases d3 : ntC σ n v (σ 9 v 3).toNatClampNeg (σ 9 v 4).toNatClampNeg
  · rw [cif_p d3] at h0; exact absurd h0 (by decide)
  rw [ea, eb] at d3
  refine ⟨effS σ, ?_⟩
  unfold rmC
  rw [ea, eb, et]
  refine lc0 fun h h1 h2 => ?_
  have hO : lvO σ σ n := ⟨fun _ _ _ _ => rfl, fun i hi => Or.inl (hz i hi)⟩
  rw [← lc_iff hO]
  rcases Nat.lt_or_ge (cnt (fun i => decide (atL σ i (σ 9 v 2) (nI h))) n) t with q | q
  · exact q
  · exact absurd ⟨h, h1, h2, by rw [ht]; have := cnt_le (fun i => decide (atL σ i (σ 9 v 2) (nI h))) n; exact nI_nlt q (by omega)⟩ d3
def sp_X1_letWaiting : HSp := fun as w σ K => match as with
  | [.inr (.inl (1, some 0))] => ∃ n np nv, CW w σ n np nv ∧ (∀ i, i < n → σ 9 i 7 = 0) ∧ ∀ σ', eqT (stS σ (wlC w σ n nv n).1 n) σ' → K (some (HI (nI (wlC w σ n nv n).2))) w σ'
  | _ => False
theorem stS_self (σ : HS) (n : Nat) : stS σ (fun i => σ 9 i 6) n = σ := by
  funext k i f
  unfold stS
  split
  · rename_i h; rw [h.1, h.2.1]
  · rfl
theorem stS_up {σ σ' : HS} {S : Nat → Int32} {n i : Nat} (h : eqT (stS σ S n) σ') (hi : i < n) : eqT (stS σ (upd S i 0) n) (up3 σ' 9 i 6 0) := by
  intro k j f hq
  by_cases e : k = 9 ∧ j = i ∧ f = 6
  · obtain ⟨rfl, rfl, rfl⟩ := e
    rw [stS_6 hi]
    simp [up3, upd]
  · rw [up3_o e, h k j f hq]
    unfold stS
    by_cases q : k = 9 ∧ f = 6 ∧ j < n
    · rw [if_pos q, if_pos q]
      unfold upd
      rw [if_neg fun z => e ⟨q.1, z, q.2.1⟩]
    · rw [if_neg q, if_neg q]
theorem stS_st {σ σ' : HS} {S S' : Nat → Int32} {n : Nat} (h : eqT (stS σ S n) σ') : eqT (stS σ S' n) (stS σ' S' n) := by
  intro k j f hq
  unfold stS
  by_cases q : k = 9 ∧ f = 6 ∧ j < n
  · rw [if_pos q, if_pos q]
  · rw [if_neg q, if_neg q, h k j f hq]
    exact if_neg q
theorem dX1_letWaiting_0 : decode cX1_letWaiting 0 = .ok (.iconst 0, 1) := by decide +kernel
theorem dX1_letWaiting_1 : decode cX1_letWaiting 1 = .ok (.istore_n 1, 1) := by decide +kernel
theorem dX1_letWaiting_2 : decode cX1_letWaiting 2 = .ok (.iconst 0, 1) := by decide +kernel
theorem dX1_letWaiting_3 : decode cX1_letWaiting 3 = .ok (.istore_n 2, 1) := by decide +kernel
theorem dX1_letWaiting_4 : decode cX1_letWaiting 4 = .ok (.iload_n 2, 1) := by decide +kernel
theorem dX1_letWaiting_5 : decode cX1_letWaiting 5 = .ok (.aload_n 0, 1) := by decide +kernel
theorem dX1_letWaiting_6 : decode cX1_letWaiting 6 = .ok (.getfield 29, 3) := by decide +kernel
theorem dX1_letWaiting_9 : decode cX1_letWaiting 9 = .ok (.getfield 82, 3) := by decide +kernel
theorem dX1_letWaiting_12 : decode cX1_letWaiting 12 = .ok (.if_icmp .ge 57, 3) := by decide +kernel
theorem dX1_letWaiting_15 : decode cX1_letWaiting 15 = .ok (.aload_n 0, 1) := by decide +kernel
theorem dX1_letWaiting_16 : decode cX1_letWaiting 16 = .ok (.getfield 29, 3) := by decide +kernel
theorem dX1_letWaiting_19 : decode cX1_letWaiting 19 = .ok (.getfield 85, 3) := by decide +kernel
theorem dX1_letWaiting_22 : decode cX1_letWaiting 22 = .ok (.iload_n 2, 1) := by decide +kernel
theorem dX1_letWaiting_23 : decode cX1_letWaiting 23 = .ok (.aaload, 1) := by decide +kernel
theorem dX1_letWaiting_24 : decode cX1_letWaiting 24 = .ok (.astore_n 3, 1) := by decide +kernel
theorem dX1_letWaiting_25 : decode cX1_letWaiting 25 = .ok (.aload_n 3, 1) := by decide +kernel
theorem dX1_letWaiting_26 : decode cX1_letWaiting 26 = .ok (.getfield 79, 3) := by decide +kernel
theorem dX1_letWaiting_29 : decode cX1_letWaiting 29 = .ok (.iconst 1, 1) := by decide +kernel
theorem dX1_letWaiting_30 : decode cX1_letWaiting 30 = .ok (.if_icmp .ne 33, 3) := by decide +kernel
theorem dX1_letWaiting_33 : decode cX1_letWaiting 33 = .ok (.aload_n 3, 1) := by decide +kernel
theorem dX1_letWaiting_34 : decode cX1_letWaiting 34 = .ok (.getfield 89, 3) := by decide +kernel
theorem dX1_letWaiting_37 : decode cX1_letWaiting 37 = .ok (.aload_n 0, 1) := by decide +kernel
theorem dX1_letWaiting_38 : decode cX1_letWaiting 38 = .ok (.getfield 29, 3) := by decide +kernel
theorem dX1_letWaiting_41 : decode cX1_letWaiting 41 = .ok (.getfield 92, 3) := by decide +kernel
theorem dX1_letWaiting_44 : decode cX1_letWaiting 44 = .ok (.if_icmp .lt 19, 3) := by decide +kernel
theorem dX1_letWaiting_47 : decode cX1_letWaiting 47 = .ok (.aload_n 0, 1) := by decide +kernel
theorem dX1_letWaiting_48 : decode cX1_letWaiting 48 = .ok (.aload_n 3, 1) := by decide +kernel
theorem dX1_letWaiting_49 : decode cX1_letWaiting 49 = .ok (.invokevirtual 95, 3) := by decide +kernel
theorem dX1_letWaiting_52 : decode cX1_letWaiting 52 = .ok (.ifCond .ne 11, 3) := by decide +kernel
theorem dX1_letWaiting_55 : decode cX1_letWaiting 55 = .ok (.aload_n 0, 1) := by decide +kernel
theorem dX1_letWaiting_56 : decode cX1_letWaiting 56 = .ok (.aload_n 3, 1) := by decide +kernel
theorem dX1_letWaiting_57 : decode cX1_letWaiting 57 = .ok (.invokevirtual 98, 3) := by decide +kernel
theorem dX1_letWaiting_60 : decode cX1_letWaiting 60 = .ok (.iinc 1 1, 3) := by decide +kernel
theorem dX1_letWaiting_63 : decode cX1_letWaiting 63 = .ok (.iinc 2 1, 3) := by decide +kernel
theorem dX1_letWaiting_66 : decode cX1_letWaiting 66 = .ok (.goto (-62), 3) := by decide +kernel
theorem dX1_letWaiting_69 : decode cX1_letWaiting 69 = .ok (.iload_n 1, 1) := by decide +kernel
theorem dX1_letWaiting_70 : decode cX1_letWaiting 70 = .ok (.ireturn, 1) := by decide +kernel
def ins_X1_letWaiting (pc : Nat) : HOp := cond (Nat.blt pc 30) (cond (Nat.blt pc 15) (cond (Nat.blt pc 4) (cond (Nat.blt pc 2) (cond (Nat.blt pc 1) (cond (Nat.beq pc 0) (o_const (0) 1) o_bad) (cond (Nat.beq pc 1) (o_istore 1 2) o_bad)) (cond (Nat.blt pc 3) (cond (Nat.beq pc 2) (o_const (0) 3) o_bad) (cond (Nat.beq pc 3) (o_istore 2 4) o_bad))) (cond (Nat.blt pc 6) (cond (Nat.blt pc 5) (cond (Nat.beq pc 4) (o_iload 2 5) o_bad) (cond (Nat.beq pc 5) (o_aload 0 6) o_bad)) (cond (Nat.blt pc 9) (cond (Nat.beq pc 6) (o_getf 1 2 9) o_bad) (cond (Nat.blt pc 12) (cond (Nat.beq pc 9) (o_getf 0 1 12) o_bad) (cond (Nat.beq pc 12) (o_icmp (fun x y => y ≤ x) 69 15) o_bad))))) (cond (Nat.blt pc 23) (cond (Nat.blt pc 19) (cond (Nat.blt pc 16) (cond (Nat.beq pc 15) (o_aload 0 16) o_bad) (cond (Nat.beq pc 16) (o_getf 1 2 19) o_bad)) (cond (Nat.blt pc 22) (cond (Nat.beq pc 19) (o_getf 0 0 22) o_bad) (cond (Nat.beq pc 22) (o_iload 2 23) o_bad))) (cond (Nat.blt pc 25) (cond (Nat.blt pc 24) (cond (Nat.beq pc 23) (o_aald 24) o_bad) (cond (Nat.beq pc 24) (o_astore 3 25) o_bad)) (cond (Nat.blt pc 26) (cond (Nat.beq pc 25) (o_aload 3 26) o_bad) (cond (Nat.blt pc 29) (cond (Nat.beq pc 26) (o_getf 9 6 29) o_bad) (cond (Nat.beq pc 29) (o_const (1) 30) o_bad)))))) (cond (Nat.blt pc 49) (cond (Nat.blt pc 38) (cond (Nat.blt pc 34) (cond (Nat.blt pc 33) (cond (Nat.beq pc 30) (o_icmp (fun x y => x = y) 33 63) o_bad) (cond (Nat.beq pc 33) (o_aload 3 34) o_bad)) (cond (Nat.blt pc 37) (cond (Nat.beq pc 34) (o_getf 9 2 37) o_bad) (cond (Nat.beq pc 37) (o_aload 0 38) o_bad))) (cond (Nat.blt pc 44) (cond (Nat.blt pc 41) (cond (Nat.beq pc 38) (o_getf 1 2 41) o_bad) (cond (Nat.beq pc 41) (o_getf 0 2 44) o_bad)) (cond (Nat.blt pc 47) (cond (Nat.beq pc 44) (o_icmp (fun x y => x < y) 63 47) o_bad) (cond (Nat.blt pc 48) (cond (Nat.beq pc 47) (o_aload 0 48) o_bad) (cond (Nat.beq pc 48) (o_aload 3 49) o_bad))))) (cond (Nat.blt pc 60) (cond (Nat.blt pc 55) (cond (Nat.blt pc 52) (cond (Nat.beq pc 49) (o_callV 2 1 sp_X1_reason 52) o_bad) (cond (Nat.beq pc 52) (o_if (fun x => x = 0) 55 63) o_bad)) (cond (Nat.blt pc 56) (cond (Nat.beq pc 55) (o_aload 0 56) o_bad) (cond (Nat.blt pc 57) (cond (Nat.beq pc 56) (o_aload 3 57) o_bad) (cond (Nat.beq pc 57) (o_callV 2 1 sp_X1_admit 60) o_bad)))) (cond (Nat.blt pc 66) (cond (Nat.blt pc 63) (cond (Nat.beq pc 60) (o_iinc 1 (1) 63) o_bad) (cond (Nat.beq pc 63) (o_iinc 2 (1) 66) o_bad)) (cond (Nat.blt pc 69) (cond (Nat.beq pc 66) (o_goto 4) o_bad) (cond (Nat.blt pc 70) (cond (Nat.beq pc 69) (o_iload 1 70) o_bad) (cond (Nat.beq pc 70) (o_iret) o_bad))))))
set_option maxRecDepth 20000 in
theorem ok_X1_letWaiting : HOKs cX1_letWaiting RX1 4 (some .int) 7 ins_X1_letWaiting := fun _ => hnd (hnd (hnd (hnd (hnd (hlf (ok_iconst dX1_letWaiting_0 (by decide) rfl)) (hlf (ok_istore_n dX1_letWaiting_1 rfl (by decide) rfl))) (hnd (hlf (ok_iconst dX1_letWaiting_2 (by decide) rfl)) (hlf (ok_istore_n dX1_letWaiting_3 rfl (by decide) rfl)))) (hnd (hnd (hlf (ok_iload_n dX1_letWaiting_4 rfl rfl)) (hlf (ok_aload_n dX1_letWaiting_5 rfl rfl))) (hnd (hlf (ok_getf (C := RX1) (T := TX1) dX1_letWaiting_6 rfl rfl (by decide) rfl inX1 wd_188 rfl)) (hnd (hlf (ok_getfN (C := RX0) (T := TX0) dX1_letWaiting_9 rfl rfl (by decide) rfl inX0 wd_151 rfl)) (hlf (ok_icmp_ge dX1_letWaiting_12 (by decide) rfl)))))) (hnd (hnd (hnd (hlf (ok_aload_n dX1_letWaiting_15 rfl rfl)) (hlf (ok_getf (C := RX1) (T := TX1) dX1_letWaiting_16 rfl rfl (by decide) rfl inX1 wd_188 rfl))) (hnd (hlf (ok_getfN (C := RX0) (T := TX0) dX1_letWaiting_19 rfl rfl (by decide) rfl inX0 wd_148 rfl)) (hlf (ok_iload_n dX1_letWaiting_22 rfl rfl)))) (hnd (hnd (hlf (ok_aald dX1_letWaiting_23 rfl)) (hlf (ok_astore_n dX1_letWaiting_24 rfl (by decide) rfl))) (hnd (hlf (ok_aload_n dX1_letWaiting_25 rfl rfl)) (hnd (hlf (ok_getfN (C := RX9) (T := TX9) dX1_letWaiting_26 rfl rfl (by decide) rfl inX9 wd_263 rfl)) (hlf (ok_iconst dX1_letWaiting_29 (by decide) rfl))))))) (hnd (hnd (hnd (hnd (hlf (ok_icmp_ne dX1_letWaiting_30 (by decide) rfl)) (hlf (ok_aload_n dX1_letWaiting_33 rfl rfl))) (hnd (hlf (ok_getfN (C := RX9) (T := TX9) dX1_letWaiting_34 rfl rfl (by decide) rfl inX9 wd_247 rfl)) (hlf (ok_aload_n dX1_letWaiting_37 rfl rfl)))) (hnd (hnd (hlf (ok_getf (C := RX1) (T := TX1) dX1_letWaiting_38 rfl rfl (by decide) rfl inX1 wd_188 rfl)) (hlf (ok_getfN (C := RX0) (T := TX0) dX1_letWaiting_41 rfl rfl (by decide) rfl inX0 wd_153 rfl))) (hnd (hlf (ok_icmp_lt dX1_letWaiting_44 (by decide) rfl)) (hnd (hlf (ok_aload_n dX1_letWaiting_47 rfl rfl)) (hlf (ok_aload_n dX1_letWaiting_48 rfl rfl)))))) (hnd (hnd (hnd (hlf (ok_callV (y := yX1_reason) (n' := 1) (C := RX1) (T := TX1) dX1_letWaiting_49 ct_X1_reason (by decide) (by decide) wd_420 wd_417 wd_418 wd_419 wd_48 rfl (by decide +kernel) rfl rfl rfl)) (hlf (ok_if_ne dX1_letWaiting_52 (by decide) rfl))) (hnd (hlf (ok_aload_n dX1_letWaiting_55 rfl rfl)) (hnd (hlf (ok_aload_n dX1_letWaiting_56 rfl rfl)) (hlf (ok_callV (y := yX1_admit) (n' := 1) (C := RX1) (T := TX1) dX1_letWaiting_57 ct_X1_admit (by decide) (by decide) wd_529 wd_526 wd_527 wd_528 wd_48 rfl (by decide +kernel) rfl rfl rfl))))) (hnd (hnd (hlf (ok_iinc dX1_letWaiting_60 (by decide) (by decide) rfl)) (hlf (ok_iinc dX1_letWaiting_63 (by decide) (by decide) rfl))) (hnd (hlf (ok_goto dX1_letWaiting_66 (by decide))) (hnd (hlf (ok_iload_n dX1_letWaiting_69 rfl rfl)) (hlf (ok_iret dX1_letWaiting_70)))))))

set_option maxHeartbeats 1000000 in
theorem vc_X1_letWaiting : MVC ins_X1_letWaiting 4 1 sp_X1_letWaiting := by
  refine mvc1 4 80 fun as w σ q hl hs => ?_
  unfold sp_X1_letWaiting at hs
  split at hs
  rotate_left
  · exact hs.elim
  obtain ⟨n, np, nv, hC, hz, hq⟩ := hs
  have hn := hC.1.1
  refine ⟨fun N ls st w' σ' => ∃ (i : Nat) (u v : Int32) (o : Option HV), i ≤ n ∧ N = n - i ∧ u = nI (wlC w σ n nv i).2 ∧ v = nI i ∧ ls = [some (HR 1 0), some (HI u), some (HI v), o] ∧ st = [] ∧ w = w' ∧ eqT (stS σ (wlC w σ n nv i).1 n) σ', ?_, ?_⟩
  · rintro N ls st w' σ' ⟨i, u, v, o, hi, rfl, rfl, rfl, rfl, rfl, rfl, hE⟩
    have hC1 := CW_S (S := (wlC w σ n nv i).1) hC
    have hC' := CW_T hE hC1
    have h9 : ∀ j f, f ≠ 6 → σ' 9 j f = σ 9 j f := fun j f hf => by rw [hE 9 j f (by omega)]; exact stS_n hf
    have h0 : ∀ f, σ' 0 0 f = σ 0 0 f := fun f => by rw [hE 0 0 f (by omega)]; exact stS_o (by omega)
    apply br2
    · intro h1
      obtain rfl := lp_end hC'.1.2.1 hi h1
      exact hq σ' hE
    intro h1
    have hlt := lp_go hC'.1.2.1 hi h1
    refine And.intro (vp_in_nI (N := 100) (by omega) (by decide)) (fun o ho => ?_)
    obtain rfl := ra_at ho (hC.1.2.2 i hlt)
    have e6 : σ' 9 i 6 = (wlC w σ n nv i).1 i := by rw [hE 9 i 6 (by omega)]; exact stS_6 hlt
    have hst : wlC w σ n nv (i + 1) = cif ((wlC w σ n nv i).1 i = 1 ∧ ¬ σ 9 i 2 < σ 0 0 2 ∧ rsC w (stS σ (wlC w σ n nv i).1 n) n nv i = 0) (upd (rmS σ n (wlC w σ n nv i).1 i) i 0, (wlC w σ n nv i).2 + 1) (wlC w σ n nv i) := rfl
    have no : ∀ σ2, eqT σ' σ2 → ¬ ((wlC w σ n nv i).1 i = 1 ∧ ¬ σ 9 i 2 < σ 0 0 2 ∧ rsC w (stS σ (wlC w σ n nv i).1 n) n nv i = 0) → ∃ N', N' < n - i ∧ ∃ (i' : Nat) (u v : Int32) (o : Option HV), i' ≤ n ∧ N' = n - i' ∧ u = nI (wlC w σ n nv i').2 ∧ v = nI i' ∧ [some (HR 1 0), some (HI (nI (wlC w σ n nv i).2)), some (HI (nI i + 1)), some (HR 9 i)] = [some (HR 1 0), some (HI u), some (HI v), o] ∧ ([] : List HV) = [] ∧ w = w ∧ eqT (stS σ (wlC w σ n nv i').1 n) σ2 := fun σ2 hE2 h => by
      rw [cif_n h] at hst
      exact ⟨n - (i + 1), by omega, i + 1, _, _, _, hlt, rfl, by rw [hst], nI_1 i, rfl, rfl, rfl, by rw [hst]; exact hE.tr hE2⟩
    apply br2
    rotate_left
    · intro h2
      exact no σ' eqT.rf fun h => h2 (by show σ' 9 i 6 = 1; rw [e6]; exact h.1)
    intro h2
    have h2 : σ' 9 i 6 = 1 := h2
    rw [e6] at h2
    apply br2
    · intro h3
      have h3 : σ' 9 i 2 < σ' 0 0 2 := h3
      rw [h9 i 2 (by decide), h0] at h3
      exact no σ' eqT.rf fun h => h.2.1 h3
    intro h3
    have h3 : ¬ σ' 9 i 2 < σ' 0 0 2 := h3
    rw [h9 i 2 (by decide), h0] at h3
    have hz' : ∀ j, j < n → σ' 9 j 7 = 0 := fun j hj => by rw [h9 j 7 (by decide)]; exact hz j hj
    refine ⟨n, np, nv, hC', hC'.2.2.2.2.2.2.2.2 i hlt, hz', fun σ2 hE2 => ?_⟩
    rw [rsT hE]
    apply br2
    rotate_left
    · intro h4
      exact no σ2 hE2 fun h => h4 h.2.2
    intro h4
    rw [cif_p ⟨h2, h3, h4⟩] at hst
    have hE3 := hE.tr hE2
    have h5 : σ2 9 i 5 = σ 9 i 5 := by rw [hE3 9 i 5 (by omega)]; exact stS_n (by decide)
    refine And.intro (fun h6 => ?_) (fun h6 => ?_)
    · rw [h5] at h6
      refine ⟨n - (i + 1), by omega, i + 1, _, _, _, hlt, rfl, by rw [hst]; exact nI_1 _, nI_1 i, rfl, rfl, rfl, ?_⟩
      rw [hst]
      unfold rmS
      rw [cif_p h6]
      exact stS_up hE3 hlt
    · have h6' := h6
      rw [h5] at h6
      have hC2 := CW_T hE2 hC'
      have hz2 : ∀ j, j < n → σ2 9 j 7 = 0 := fun j hj => by rw [hE2 9 j 7 (by omega)]; exact hz' j hj
      obtain ⟨S', hS⟩ := rs_rm hC2 (hC2.2.2.2.2.2.2.2.2 i hlt) hz2 (by rw [rsT hE2, rsT hE]; exact h4) h6'
      refine ⟨n, np, nv, S', hC2, hC2.2.2.2.2.2.2.2.2 i hlt, hz2, hS, ?_⟩
      refine ⟨n - (i + 1), by omega, i + 1, _, _, _, hlt, rfl, by rw [hst]; exact nI_1 _, nI_1 i, rfl, rfl, rfl, ?_⟩
      rw [hst]
      unfold rmS
      rw [cif_n h6]
      rw [rmT hE3] at hS
      rw [hS]
      exact stS_up (stS_st hE3) hlt
  · refine ⟨n, 0, 0, 0, none, Nat.zero_le _, rfl, rfl, rfl, rfl, rfl, rfl, ?_⟩
    show eqT (stS σ (fun i => σ 9 i 6) n) σ
    rw [stS_self]
    exact eqT.rf
theorem ct_X1_letWaiting : Ctr yX1_letWaiting cX1_letWaiting 4 (some .int) 7 0 0 1 sp_X1_letWaiting := ctr_of (by decide +kernel) rfl (by decide) ok_X1_letWaiting vc_X1_letWaiting
end
