section
-- ===== PART A: goes FIRST, ahead of the names: the tables' words, and 'selects' of the private methods out of them =====
/-- a private method of a class that the tables say can be made, by its rows of tables_1 -/
def lw_okq (q : MethodName × Nat) : Prop := (q.1.cls ≠ "java/lang/invoke/MethodHandle" ∧ q.1.cls ≠ "java/lang/invoke/VarHandle") ∧ Cond.instantiable q.1.cls q.2 ∈ tables_1 ∧ Cond.privateMethod q.1 ∈ tables_1 ∧ Cond.instanceMethod q.1 ∈ tables_1
theorem lw_p0 : lw_okq (⟨"Relationrows", "relationAt", "(I)LRelationrows$Relation;"⟩, 7) := ⟨⟨by decide +kernel, by decide +kernel⟩, List.mem_of_getElem? (i := 17) (by decide +kernel), List.mem_of_getElem? (i := 165) (by decide +kernel), List.mem_of_getElem? (i := 166) (by decide +kernel)⟩
theorem lw_p1 : lw_okq (⟨"java/lang/Throwable", "fillInStackTrace", "(I)Ljava/lang/Throwable;"⟩, 6) := ⟨⟨by decide +kernel, by decide +kernel⟩, List.mem_of_getElem? (i := 208) (by decide +kernel), List.mem_of_getElem? (i := 206) (by decide +kernel), List.mem_of_getElem? (i := 207) (by decide +kernel)⟩
theorem lw_p2 : lw_okq (⟨"Relationrows$Relation", "putWords", "(IJJ)V"⟩, 4) := ⟨⟨by decide +kernel, by decide +kernel⟩, List.mem_of_getElem? (i := 26) (by decide +kernel), List.mem_of_getElem? (i := 254) (by decide +kernel), List.mem_of_getElem? (i := 255) (by decide +kernel)⟩
theorem lw_p3 : lw_okq (⟨"Relationrows$Theorem", "closureTellsWalks", "(LRelationrows$Relation;)Z"⟩, 7) := ⟨⟨by decide +kernel, by decide +kernel⟩, List.mem_of_getElem? (i := 93) (by decide +kernel), List.mem_of_getElem? (i := 266) (by decide +kernel), List.mem_of_getElem? (i := 267) (by decide +kernel)⟩
theorem lw_p4 : lw_okq (⟨"Relationrows$Walks", "leave", "(LRelationrows$Relation;I)V"⟩, 6) := ⟨⟨by decide +kernel, by decide +kernel⟩, List.mem_of_getElem? (i := 65) (by decide +kernel), List.mem_of_getElem? (i := 283) (by decide +kernel), List.mem_of_getElem? (i := 284) (by decide +kernel)⟩
theorem lw_p5 : lw_okq (⟨"Relationrows$Walks", "goOn", "(LRelationrows$Relation;)V"⟩, 6) := ⟨⟨by decide +kernel, by decide +kernel⟩, List.mem_of_getElem? (i := 65) (by decide +kernel), List.mem_of_getElem? (i := 296) (by decide +kernel), List.mem_of_getElem? (i := 297) (by decide +kernel)⟩
theorem lw_p6 : lw_okq (⟨"Relationrows$Theorem", "classesPartElements", "()Z"⟩, 7) := ⟨⟨by decide +kernel, by decide +kernel⟩, List.mem_of_getElem? (i := 93) (by decide +kernel), List.mem_of_getElem? (i := 336) (by decide +kernel), List.mem_of_getElem? (i := 337) (by decide +kernel)⟩
theorem lw_p7 : lw_okq (⟨"Relationrows$Theorem", "orderKeeps", "(LRelationrows$Relation;)Z"⟩, 7) := ⟨⟨by decide +kernel, by decide +kernel⟩, List.mem_of_getElem? (i := 93) (by decide +kernel), List.mem_of_getElem? (i := 357) (by decide +kernel), List.mem_of_getElem? (i := 358) (by decide +kernel)⟩
theorem lw_p8 : lw_okq (⟨"Relationrows$Theorem", "coversGiveClosure", "()Z"⟩, 7) := ⟨⟨by decide +kernel, by decide +kernel⟩, List.mem_of_getElem? (i := 93) (by decide +kernel), List.mem_of_getElem? (i := 398) (by decide +kernel), List.mem_of_getElem? (i := 399) (by decide +kernel)⟩
theorem lw_p9 : lw_okq (⟨"Relationrows$Theorem", "isAssociative", "(LRelationrows$Relation;LRelationrows$Relation;LRelationrows$Relation;)Z"⟩, 7) := ⟨⟨by decide +kernel, by decide +kernel⟩, List.mem_of_getElem? (i := 93) (by decide +kernel), List.mem_of_getElem? (i := 421) (by decide +kernel), List.mem_of_getElem? (i := 422) (by decide +kernel)⟩
theorem lw_p10 : lw_okq (⟨"Relationrows$Theorem", "distributesBefore", "(LRelationrows$Relation;LRelationrows$Relation;LRelationrows$Relation;)Z"⟩, 7) := ⟨⟨by decide +kernel, by decide +kernel⟩, List.mem_of_getElem? (i := 93) (by decide +kernel), List.mem_of_getElem? (i := 433) (by decide +kernel), List.mem_of_getElem? (i := 434) (by decide +kernel)⟩
theorem lw_p11 : lw_okq (⟨"Relationrows$Theorem", "distributesBehind", "(LRelationrows$Relation;LRelationrows$Relation;LRelationrows$Relation;)Z"⟩, 7) := ⟨⟨by decide +kernel, by decide +kernel⟩, List.mem_of_getElem? (i := 93) (by decide +kernel), List.mem_of_getElem? (i := 444) (by decide +kernel), List.mem_of_getElem? (i := 445) (by decide +kernel)⟩
theorem lw_p12 : lw_okq (⟨"Relationrows", "checkElement", "(I)V"⟩, 7) := ⟨⟨by decide +kernel, by decide +kernel⟩, List.mem_of_getElem? (i := 17) (by decide +kernel), List.mem_of_getElem? (i := 486) (by decide +kernel), List.mem_of_getElem? (i := 487) (by decide +kernel)⟩
theorem lw_p13 : lw_okq (⟨"Relationrows", "checkRange", "(II)V"⟩, 7) := ⟨⟨by decide +kernel, by decide +kernel⟩, List.mem_of_getElem? (i := 17) (by decide +kernel), List.mem_of_getElem? (i := 502) (by decide +kernel), List.mem_of_getElem? (i := 503) (by decide +kernel)⟩
theorem lw_p14 : lw_okq (⟨"Relationrows", "elementOf", "(I)I"⟩, 7) := ⟨⟨by decide +kernel, by decide +kernel⟩, List.mem_of_getElem? (i := 17) (by decide +kernel), List.mem_of_getElem? (i := 561) (by decide +kernel), List.mem_of_getElem? (i := 562) (by decide +kernel)⟩
theorem lw_p15 : lw_okq (⟨"Relationrows$Relation", "swapPair", "(II)V"⟩, 4) := ⟨⟨by decide +kernel, by decide +kernel⟩, List.mem_of_getElem? (i := 26) (by decide +kernel), List.mem_of_getElem? (i := 601) (by decide +kernel), List.mem_of_getElem? (i := 602) (by decide +kernel)⟩
def lw_privs_1 : List (MethodName × Nat) := [(⟨"Relationrows", "relationAt", "(I)LRelationrows$Relation;"⟩, 7), (⟨"java/lang/Throwable", "fillInStackTrace", "(I)Ljava/lang/Throwable;"⟩, 6), (⟨"Relationrows$Relation", "putWords", "(IJJ)V"⟩, 4), (⟨"Relationrows$Theorem", "closureTellsWalks", "(LRelationrows$Relation;)Z"⟩, 7), (⟨"Relationrows$Walks", "leave", "(LRelationrows$Relation;I)V"⟩, 6), (⟨"Relationrows$Walks", "goOn", "(LRelationrows$Relation;)V"⟩, 6), (⟨"Relationrows$Theorem", "classesPartElements", "()Z"⟩, 7), (⟨"Relationrows$Theorem", "orderKeeps", "(LRelationrows$Relation;)Z"⟩, 7), (⟨"Relationrows$Theorem", "coversGiveClosure", "()Z"⟩, 7), (⟨"Relationrows$Theorem", "isAssociative", "(LRelationrows$Relation;LRelationrows$Relation;LRelationrows$Relation;)Z"⟩, 7), (⟨"Relationrows$Theorem", "distributesBefore", "(LRelationrows$Relation;LRelationrows$Relation;LRelationrows$Relation;)Z"⟩, 7), (⟨"Relationrows$Theorem", "distributesBehind", "(LRelationrows$Relation;LRelationrows$Relation;LRelationrows$Relation;)Z"⟩, 7), (⟨"Relationrows", "checkElement", "(I)V"⟩, 7), (⟨"Relationrows", "checkRange", "(II)V"⟩, 7), (⟨"Relationrows", "elementOf", "(I)I"⟩, 7), (⟨"Relationrows$Relation", "swapPair", "(II)V"⟩, 4)]
theorem lw_r1 : ∀ q ∈ lw_privs_1, lw_okq q := List.forall_mem_cons.mpr ⟨lw_p0, List.forall_mem_cons.mpr ⟨lw_p1, List.forall_mem_cons.mpr ⟨lw_p2, List.forall_mem_cons.mpr ⟨lw_p3, List.forall_mem_cons.mpr ⟨lw_p4, List.forall_mem_cons.mpr ⟨lw_p5, List.forall_mem_cons.mpr ⟨lw_p6, List.forall_mem_cons.mpr ⟨lw_p7, List.forall_mem_cons.mpr ⟨lw_p8, List.forall_mem_cons.mpr ⟨lw_p9, List.forall_mem_cons.mpr ⟨lw_p10, List.forall_mem_cons.mpr ⟨lw_p11, List.forall_mem_cons.mpr ⟨lw_p12, List.forall_mem_cons.mpr ⟨lw_p13, List.forall_mem_cons.mpr ⟨lw_p14, List.forall_mem_cons.mpr ⟨lw_p15, fun _ h => absurd h List.not_mem_nil⟩⟩⟩⟩⟩⟩⟩⟩⟩⟩⟩⟩⟩⟩⟩⟩
theorem lw_p16 : lw_okq (⟨"Relationrows", "closeAside", "(LRelationrows$Relation;)V"⟩, 7) := ⟨⟨by decide +kernel, by decide +kernel⟩, List.mem_of_getElem? (i := 17) (by decide +kernel), List.mem_of_getElem? (i := 658) (by decide +kernel), List.mem_of_getElem? (i := 659) (by decide +kernel)⟩
theorem lw_p17 : lw_okq (⟨"RelationrowsModel", "refuse", "(I)I"⟩, 13) := ⟨⟨by decide +kernel, by decide +kernel⟩, List.mem_of_getElem? (i := 846) (by decide +kernel), List.mem_of_getElem? (i := 904) (by decide +kernel), List.mem_of_getElem? (i := 905) (by decide +kernel)⟩
theorem lw_p18 : lw_okq (⟨"RelationrowsModel", "told", "(I)I"⟩, 13) := ⟨⟨by decide +kernel, by decide +kernel⟩, List.mem_of_getElem? (i := 846) (by decide +kernel), List.mem_of_getElem? (i := 908) (by decide +kernel), List.mem_of_getElem? (i := 909) (by decide +kernel)⟩
theorem lw_p19 : lw_okq (⟨"RelationrowsModel", "isRow", "(II)Z"⟩, 13) := ⟨⟨by decide +kernel, by decide +kernel⟩, List.mem_of_getElem? (i := 846) (by decide +kernel), List.mem_of_getElem? (i := 916) (by decide +kernel), List.mem_of_getElem? (i := 917) (by decide +kernel)⟩
theorem lw_p20 : lw_okq (⟨"RelationrowsModel", "isElement", "(I)Z"⟩, 13) := ⟨⟨by decide +kernel, by decide +kernel⟩, List.mem_of_getElem? (i := 846) (by decide +kernel), List.mem_of_getElem? (i := 923) (by decide +kernel), List.mem_of_getElem? (i := 924) (by decide +kernel)⟩
theorem lw_p21 : lw_okq (⟨"RelationrowsModel", "denies", "(I)Z"⟩, 13) := ⟨⟨by decide +kernel, by decide +kernel⟩, List.mem_of_getElem? (i := 846) (by decide +kernel), List.mem_of_getElem? (i := 927) (by decide +kernel), List.mem_of_getElem? (i := 928) (by decide +kernel)⟩
theorem lw_p22 : lw_okq (⟨"RelationrowsModel", "leads", "(III)Z"⟩, 13) := ⟨⟨by decide +kernel, by decide +kernel⟩, List.mem_of_getElem? (i := 846) (by decide +kernel), List.mem_of_getElem? (i := 931) (by decide +kernel), List.mem_of_getElem? (i := 932) (by decide +kernel)⟩
theorem lw_p23 : lw_okq (⟨"RelationrowsModel", "says", "(Z)Z"⟩, 13) := ⟨⟨by decide +kernel, by decide +kernel⟩, List.mem_of_getElem? (i := 846) (by decide +kernel), List.mem_of_getElem? (i := 938) (by decide +kernel), List.mem_of_getElem? (i := 939) (by decide +kernel)⟩
theorem lw_p24 : lw_okq (⟨"RelationrowsModel", "isRange", "(II)Z"⟩, 13) := ⟨⟨by decide +kernel, by decide +kernel⟩, List.mem_of_getElem? (i := 846) (by decide +kernel), List.mem_of_getElem? (i := 946) (by decide +kernel), List.mem_of_getElem? (i := 947) (by decide +kernel)⟩
theorem lw_p25 : lw_okq (⟨"RelationrowsModel", "inRow", "(II)I"⟩, 13) := ⟨⟨by decide +kernel, by decide +kernel⟩, List.mem_of_getElem? (i := 846) (by decide +kernel), List.mem_of_getElem? (i := 950) (by decide +kernel), List.mem_of_getElem? (i := 951) (by decide +kernel)⟩
theorem lw_p26 : lw_okq (⟨"RelationrowsModel", "pairs", "(I)I"⟩, 13) := ⟨⟨by decide +kernel, by decide +kernel⟩, List.mem_of_getElem? (i := 846) (by decide +kernel), List.mem_of_getElem? (i := 966) (by decide +kernel), List.mem_of_getElem? (i := 967) (by decide +kernel)⟩
theorem lw_p27 : lw_okq (⟨"RelationrowsModel", "composes", "(II)V"⟩, 13) := ⟨⟨by decide +kernel, by decide +kernel⟩, List.mem_of_getElem? (i := 846) (by decide +kernel), List.mem_of_getElem? (i := 987) (by decide +kernel), List.mem_of_getElem? (i := 988) (by decide +kernel)⟩
theorem lw_p28 : lw_okq (⟨"RelationrowsModel", "lays", "(I)I"⟩, 13) := ⟨⟨by decide +kernel, by decide +kernel⟩, List.mem_of_getElem? (i := 846) (by decide +kernel), List.mem_of_getElem? (i := 991) (by decide +kernel), List.mem_of_getElem? (i := 992) (by decide +kernel)⟩
theorem lw_p29 : lw_okq (⟨"RelationrowsModel", "closes", "(I)V"⟩, 13) := ⟨⟨by decide +kernel, by decide +kernel⟩, List.mem_of_getElem? (i := 846) (by decide +kernel), List.mem_of_getElem? (i := 1007) (by decide +kernel), List.mem_of_getElem? (i := 1008) (by decide +kernel)⟩
theorem lw_p30 : lw_okq (⟨"RelationrowsModel", "walks", "(II)V"⟩, 13) := ⟨⟨by decide +kernel, by decide +kernel⟩, List.mem_of_getElem? (i := 846) (by decide +kernel), List.mem_of_getElem? (i := 1011) (by decide +kernel), List.mem_of_getElem? (i := 1012) (by decide +kernel)⟩
theorem lw_p31 : lw_okq (⟨"RelationrowsModel", "isRinged", "(I)Z"⟩, 13) := ⟨⟨by decide +kernel, by decide +kernel⟩, List.mem_of_getElem? (i := 846) (by decide +kernel), List.mem_of_getElem? (i := 1019) (by decide +kernel), List.mem_of_getElem? (i := 1020) (by decide +kernel)⟩
def lw_privs_2 : List (MethodName × Nat) := [(⟨"Relationrows", "closeAside", "(LRelationrows$Relation;)V"⟩, 7), (⟨"RelationrowsModel", "refuse", "(I)I"⟩, 13), (⟨"RelationrowsModel", "told", "(I)I"⟩, 13), (⟨"RelationrowsModel", "isRow", "(II)Z"⟩, 13), (⟨"RelationrowsModel", "isElement", "(I)Z"⟩, 13), (⟨"RelationrowsModel", "denies", "(I)Z"⟩, 13), (⟨"RelationrowsModel", "leads", "(III)Z"⟩, 13), (⟨"RelationrowsModel", "says", "(Z)Z"⟩, 13), (⟨"RelationrowsModel", "isRange", "(II)Z"⟩, 13), (⟨"RelationrowsModel", "inRow", "(II)I"⟩, 13), (⟨"RelationrowsModel", "pairs", "(I)I"⟩, 13), (⟨"RelationrowsModel", "composes", "(II)V"⟩, 13), (⟨"RelationrowsModel", "lays", "(I)I"⟩, 13), (⟨"RelationrowsModel", "closes", "(I)V"⟩, 13), (⟨"RelationrowsModel", "walks", "(II)V"⟩, 13), (⟨"RelationrowsModel", "isRinged", "(I)Z"⟩, 13)]
theorem lw_r2 : ∀ q ∈ lw_privs_2, lw_okq q := List.forall_mem_cons.mpr ⟨lw_p16, List.forall_mem_cons.mpr ⟨lw_p17, List.forall_mem_cons.mpr ⟨lw_p18, List.forall_mem_cons.mpr ⟨lw_p19, List.forall_mem_cons.mpr ⟨lw_p20, List.forall_mem_cons.mpr ⟨lw_p21, List.forall_mem_cons.mpr ⟨lw_p22, List.forall_mem_cons.mpr ⟨lw_p23, List.forall_mem_cons.mpr ⟨lw_p24, List.forall_mem_cons.mpr ⟨lw_p25, List.forall_mem_cons.mpr ⟨lw_p26, List.forall_mem_cons.mpr ⟨lw_p27, List.forall_mem_cons.mpr ⟨lw_p28, List.forall_mem_cons.mpr ⟨lw_p29, List.forall_mem_cons.mpr ⟨lw_p30, List.forall_mem_cons.mpr ⟨lw_p31, fun _ h => absurd h List.not_mem_nil⟩⟩⟩⟩⟩⟩⟩⟩⟩⟩⟩⟩⟩⟩⟩⟩
theorem lw_p32 : lw_okq (⟨"RelationrowsModel", "covers", "()V"⟩, 13) := ⟨⟨by decide +kernel, by decide +kernel⟩, List.mem_of_getElem? (i := 846) (by decide +kernel), List.mem_of_getElem? (i := 1023) (by decide +kernel), List.mem_of_getElem? (i := 1024) (by decide +kernel)⟩
theorem lw_p33 : lw_okq (⟨"RelationrowsModel", "keeps", "(IIII)Z"⟩, 13) := ⟨⟨by decide +kernel, by decide +kernel⟩, List.mem_of_getElem? (i := 846) (by decide +kernel), List.mem_of_getElem? (i := 1059) (by decide +kernel), List.mem_of_getElem? (i := 1060) (by decide +kernel)⟩
theorem lw_p34 : lw_okq (⟨"RelationrowsModel", "leastOf", "(I)I"⟩, 13) := ⟨⟨by decide +kernel, by decide +kernel⟩, List.mem_of_getElem? (i := 846) (by decide +kernel), List.mem_of_getElem? (i := 1071) (by decide +kernel), List.mem_of_getElem? (i := 1072) (by decide +kernel)⟩
theorem lw_p35 : lw_okq (⟨"RelationrowsModel", "orders", "(I)I"⟩, 13) := ⟨⟨by decide +kernel, by decide +kernel⟩, List.mem_of_getElem? (i := 846) (by decide +kernel), List.mem_of_getElem? (i := 1087) (by decide +kernel), List.mem_of_getElem? (i := 1088) (by decide +kernel)⟩
theorem lw_p36 : lw_okq (⟨"RelationrowsModel", "isFree", "(II)Z"⟩, 13) := ⟨⟨by decide +kernel, by decide +kernel⟩, List.mem_of_getElem? (i := 846) (by decide +kernel), List.mem_of_getElem? (i := 1091) (by decide +kernel), List.mem_of_getElem? (i := 1092) (by decide +kernel)⟩
theorem lw_p37 : lw_okq (⟨"RelationrowsModel", "marks", "()I"⟩, 13) := ⟨⟨by decide +kernel, by decide +kernel⟩, List.mem_of_getElem? (i := 846) (by decide +kernel), List.mem_of_getElem? (i := 1103) (by decide +kernel), List.mem_of_getElem? (i := 1104) (by decide +kernel)⟩
theorem lw_p38 : lw_okq (⟨"RelationrowsModel", "areComposed", "()Z"⟩, 13) := ⟨⟨by decide +kernel, by decide +kernel⟩, List.mem_of_getElem? (i := 846) (by decide +kernel), List.mem_of_getElem? (i := 1131) (by decide +kernel), List.mem_of_getElem? (i := 1132) (by decide +kernel)⟩
theorem lw_p39 : lw_okq (⟨"RelationrowsModel", "isClosed", "(I)Z"⟩, 13) := ⟨⟨by decide +kernel, by decide +kernel⟩, List.mem_of_getElem? (i := 846) (by decide +kernel), List.mem_of_getElem? (i := 1135) (by decide +kernel), List.mem_of_getElem? (i := 1136) (by decide +kernel)⟩
theorem lw_p40 : lw_okq (⟨"RelationrowsModel", "isOrdered", "(I)Z"⟩, 13) := ⟨⟨by decide +kernel, by decide +kernel⟩, List.mem_of_getElem? (i := 846) (by decide +kernel), List.mem_of_getElem? (i := 1139) (by decide +kernel), List.mem_of_getElem? (i := 1140) (by decide +kernel)⟩
def lw_privs_3 : List (MethodName × Nat) := [(⟨"RelationrowsModel", "covers", "()V"⟩, 13), (⟨"RelationrowsModel", "keeps", "(IIII)Z"⟩, 13), (⟨"RelationrowsModel", "leastOf", "(I)I"⟩, 13), (⟨"RelationrowsModel", "orders", "(I)I"⟩, 13), (⟨"RelationrowsModel", "isFree", "(II)Z"⟩, 13), (⟨"RelationrowsModel", "marks", "()I"⟩, 13), (⟨"RelationrowsModel", "areComposed", "()Z"⟩, 13), (⟨"RelationrowsModel", "isClosed", "(I)Z"⟩, 13), (⟨"RelationrowsModel", "isOrdered", "(I)Z"⟩, 13)]
theorem lw_r3 : ∀ q ∈ lw_privs_3, lw_okq q := List.forall_mem_cons.mpr ⟨lw_p32, List.forall_mem_cons.mpr ⟨lw_p33, List.forall_mem_cons.mpr ⟨lw_p34, List.forall_mem_cons.mpr ⟨lw_p35, List.forall_mem_cons.mpr ⟨lw_p36, List.forall_mem_cons.mpr ⟨lw_p37, List.forall_mem_cons.mpr ⟨lw_p38, List.forall_mem_cons.mpr ⟨lw_p39, List.forall_mem_cons.mpr ⟨lw_p40, fun _ h => absurd h List.not_mem_nil⟩⟩⟩⟩⟩⟩⟩⟩⟩
def lw_privs : List (MethodName × Nat) := lw_privs_1 ++ (lw_privs_2 ++ (lw_privs_3))
def lw_tbl : List Cond := k2_sels lw_privs ++ tables_1
theorem lw_privs_ok : ∀ q ∈ lw_privs, lw_okq q := by
  show ∀ q ∈ lw_privs_1 ++ (lw_privs_2 ++ (lw_privs_3)), lw_okq q
  exact List.forall_mem_append.mpr ⟨lw_r1, List.forall_mem_append.mpr ⟨lw_r2, lw_r3⟩⟩
/-- the streams that the claim lets the run draw from -/
abbrev lw_cs : List Choice := [Jvm.Choice.named "NaN.bits"]
theorem lw_bits : nanBits ∈ lw_cs := by first | decide | exact List.mem_cons_self | simp [lw_cs, nanBits]
-- ===== end of PART A; then your names; then what follows =====
/-! ===== BEGIN words of one list among another's, by their places ===== -/
theorem goodIn_r {big : List Cond} (ws : List Cond) (ps : List Nat) (hp : ws = ps.filterMap (fun i => big[i]?)) (h : ws.all goodWord = true) : GoodIn big ws := by
  intro w hw
  have h1 := List.all_eq_true.mp h w hw
  rw [hp] at hw
  obtain ⟨i, -, hi⟩ := List.mem_filterMap.mp hw
  have hm : w ∈ big := by first | exact List.mem_of_getElem? hi | exact List.getElem?_mem hi
  exact ⟨hm, good_of_word h1⟩
theorem goodIn_app {big a b : List Cond} (ha : GoodIn big a) (hb : GoodIn big b) : GoodIn big (a ++ b) := fun w h => (List.mem_append.mp h).elim (ha w) (hb w)
theorem goodIn_ca {big a b : List Cond} {c : Cond} (ha : GoodIn big (c :: a)) (hb : GoodIn big b) : GoodIn big (c :: (a ++ b)) := fun w h => (List.mem_cons.mp h).elim (fun e => ha w (List.mem_cons.mpr (Or.inl e))) (fun h => (List.mem_append.mp h).elim (fun h => ha w (List.mem_cons.mpr (Or.inr h))) (hb w))
theorem goodIn_sub {big ws : List Cond} (hm : ∀ w ∈ ws, w ∈ big) (h : ws.all goodWord = true) : GoodIn big ws := fun w hw => ⟨hm w hw, good_of_word (List.all_eq_true.mp h w hw)⟩
/-! ===== END ===== -/

/-! ===== BEGIN exceptions that leave a method, and their catching by the caller (launches without stack traces) ===== -/
section VXA
/-! The laws vx_back, vx_callV, vx_callS, vx_callSW, vx_throw0, vx_throwS follow proofs of the library, with one case more: JvmDerived/Free/Laws.lean (Back.of_free), Shelf42/LK1.lean (callV, callS), Shelf/KitTraced.lean (throwNew0V, throwNewS). -/
/-- where a method has thrown q: the class by its name, the cell, what was written, the world -/
def vx_T (XC : String → State → State → Prop) (st : State) (q : Addr) (t : State) (mc ms : Nat) (free : Addr → Prop) : Prop :=
  ∃ (E : String) (ce : Cell) (L : List Loc), XC E st t ∧ t.heap[q]? = some ce ∧ ce.vm = .none ∧ st.vm.findClass E = some ce.cls ∧ st.WarmedH t.vm ∧ st.sameButNew ({ t with vm := st.vm } : State) L mc ms ∧ ∀ z ∈ L, free z.base
def vx_Q (Qc : Array Value → State → Outcome → State → Prop) (XC : String → State → State → Prop) (mc ms : Nat) (free : Addr → Prop) : Array Value → State → Outcome → State → Prop := fun a st o t =>
  (Qc a st o t ∧ ∃ L, FrameEnd st o t L mc ms ∧ ∀ q ∈ L, free q.base) ∨ ∃ q, o = .threw q ∧ vx_T XC st q t mc ms free
/-- a callee that returns or throws -/
def vx_Met (l : Launch) (y : MethodName) (ws : List Cond) (rm : Room) (Pc : Array Value → State → Prop) (Qc : Array Value → State → Outcome → State → Prop) (XC : String → State → State → Prop) (mc ms : Nat) (free : Addr → Prop) : Prop :=
  MetFree l y (headSpec ws rm) Pc (fun _ _ _ _ _ => True) (vx_Q Qc XC mc ms free)
def vx_Post (XC : String → State → State → Prop) (mc ms : Nat) (free : Addr → Prop) : Pt → Array Value → Addr → Pt → Prop := fun A a q B =>
  ∃ (g : JFrame) (mk : MethodId) (t : State) (L : List Loc) (E : String) (ce : Cell), B.U.heap = t.heap ∧ B.U.vm = t.vm ∧ XC E (A.U.calling g mk a) t ∧ t.heap[q]? = some ce ∧ ce.vm = .none ∧ A.U.vm.findClass E = some ce.cls ∧ B.locs = A.locs ++ L ∧ (∀ z ∈ L, free z.base) ∧ B.cells = A.cells + mc ∧ B.slots = A.slots + ms
def vx_Back (l : Launch) (R : Room) (p : Program) (e : Env) (below : List Frame) (s : State) (sargs : Array Value) (y : MethodName) (len W9 : Nat)
    (Pre : Pt → Array Value → Prop) (Post : Pt → Array Value → Option Value → Pt → Prop) (PostX : Pt → Array Value → Addr → Pt → Prop) : Prop :=
  ∀ (m : MethodId) (meth : Method) (c : Code) (A : Pt) (g : JFrame) (ig : Instr) (mk : MethodId) (a : Array Value),
    Stand p l e R s m sargs below meth c A.U A.locs A.cells A.slots → g.method = m → g.locals.size = c.maxLocals → decode c.code g.pc = .ok (ig, len) →
    2 * g.monitorRoom + (g.stack.map fun v => v.category).sum ≤ W9 → A.U.methodNamed? y = some mk → Pre A a →
    (∃ (v : Option Value) (B : Pt), Stand p l e R s m sargs below meth c B.U B.locs B.cells B.slots ∧ Post A a v B ∧
      Steps p.tables e below (doInvoke e (A.U.setTop g) [] mk a).1 (B.U.setTop { g with pc := g.pc + len, stack := v.toList ++ g.stack })) ∨
    (∃ (q : Addr) (B : Pt), Stand p l e R s m sargs below meth c B.U B.locs B.cells B.slots ∧ PostX A a q B ∧
      Steps p.tables e below (doInvoke e (A.U.setTop g) [] mk a).1 ((B.U.setTop g).pushFrame (.throwing q)))
section Payer
variable {l : Launch} {R : Room} {p : Program} {e : Env} {below : List Frame} {s : State} {sargs : Array Value} {y : MethodName} {len W9 : Nat}
theorem vx_back {ws : List Cond} {rm : Room} {Pc : Array Value → State → Prop} {Qc : Array Value → State → Outcome → State → Prop} {XC : String → State → State → Prop} {mc ms : Nat} {free : Addr → Prop} {bytes : ByteArray} {maxL : Nat} {ret : Option FieldType}
    (hM : vx_Met l y ws rm Pc Qc XC mc ms free) (hblind : FrameBlind Pc) (hrc : rm.cells = mc) (hrs : rm.slots = ms)
    (hframes : rm.frames + 1 ≤ R.frames) (hlocals : W9 + (maxL + 11) + rm.locals ≤ R.locals)
    (hws : ∀ w ∈ ws, ∀ a' U, s.WarmedH U.vm → w.before a' U = true) (hcode : Cond.code y bytes maxL ret ∈ ws) (hinit : ∀ a' U, s.WarmedH U.vm → (Cond.initialized y.cls).before a' U = true) :
    vx_Back l R p e below s sargs y len W9 (PreOf R mc ms Pc) (PostOf Qc mc ms free) (vx_Post XC mc ms free) := by
  intro m meth c A g ig mk a X hg hsize hdg hW hn hp
  have h1 : (headSpec ws rm).pre.before a A.U = true := atoms_intro fun w hw => hws w hw _ _ X.warmed
  have h2 : (Cond.code y bytes maxL ret).before a A.U = true := hws _ hcode _ _ X.warmed
  have h3 : (Cond.initialized y.cls).before a A.U = true := hinit _ _ X.warmed
  have h4 : A.cells + (headSpec ws rm).room.cells ≤ R.cells := by rw [show (headSpec ws rm).room.cells = mc from hrc]; exact hp.1
  have h5 : A.slots + (headSpec ws rm).room.slots ≤ R.slots := by rw [show (headSpec ws rm).room.slots = ms from hrs]; exact hp.2.1
  have hPc : Pc a (A.U.calling g mk a) := hblind _ _ _ _ hp.2.2
  obtain ⟨U, Ls, c0, s0⟩ := A
  dsimp only [Pt.U, Pt.locs, Pt.cells, Pt.slots] at h1 h2 h3 h4 h5 X hn hPc ⊢
  obtain ⟨methY, cY, hmY, hcY, -, hlY, -, -, -, -⟩ := Cond.code_spec hn h2
  obtain ⟨kY, hkY, -⟩ := className_of_methodNamed hn
  have hinitY : kY.init = .initialized := Cond.initialized_spec (findClass_of_methodNamed hn) hkY h3
  have h : At U g.method c below := by rw [hg]; exact X.here
  have hlocals9 : W9 + (maxL + 11) + (headSpec ws rm).room.locals ≤ R.locals := hlocals
  have happ : (headSpec ws rm).appliesLoose y e.platform (U.calling g mk a) = true :=
    Spec.appliesLoose_calling (g := g) h hdg hn hkY hinitY
      (X.room_calling (g := g) (R' := (headSpec ws rm).room) hsize hmY hcY hframes (by rw [hlY]; omega) h4 h5) h1
  obtain ⟨mid, hmid⟩ := h.above
  have hfr : (U.setTop g).frames = (.java g :: mid) ++ below := by rw [State.frames_setTop' g h.top, hmid]; rfl
  obtain ⟨o, s₂, hsteps, -, hend, hq⟩ := Steps.callFree hM p X.admits X.cas X.clock (acts := []) hfr happ hPc trivial
  have hq' : vx_Q Qc XC mc ms free a (U.calling g mk a) o s₂ := hq
  rw [State.frames_setTop' g h.top] at hend
  obtain ⟨g₀, hg0⟩ := Option.isSome_iff_exists.mp h.top
  obtain ⟨r, hr⟩ := State.topJava?_eq_some.mp hg0
  have hr' : (({ U with heap := s₂.heap, slotsUsed := s₂.slotsUsed } : State).setVm s₂.vm).frames = .java g₀ :: r := hr
  rcases hq' with ⟨hqc, L, hfe, hL⟩ | ⟨q, rfl, E, ce, L, hx, hce, hcv, hcl, hW₂, hsm, hL⟩
  · obtain ⟨⟨v, rfl⟩, hW₂, e2, q2, q3, q4, q5, q6⟩ := id hfe
    have e3 : s₂ = ({ (U.calling g mk a).setFrames s₂.frames with heap := s₂.heap, slotsUsed := s₂.slotsUsed } : State).setVm s₂.vm := by
      have : s₂ = ({ s₂ with vm := (U.calling g mk a).vm } : State).setVm s₂.vm := rfl
      rw [e2] at this
      exact this
    obtain ⟨c₂, i₂, len₂, hc₂, hd₂, hf₂⟩ := hend
    have hW' : U.WarmedH s₂.vm := hW₂
    have hcc : c₂ = c := by
      have h1 : s₂.code? g.method = U.code? g.method := by
        rw [State.code?_eq, State.code?_eq, hW'.alike.method?]
      exact Option.some.inj (hc₂.symm.trans (h1.trans h.code))
    subst hcc
    have hlen : len₂ = len := by rw [hdg] at hd₂; cases hd₂; rfl
    subst hlen
    have hs₂ : s₂ = (({ U with heap := s₂.heap, slotsUsed := s₂.slotsUsed } : State).setVm s₂.vm).setTop { g with pc := g.pc + len₂, stack := v.toList ++ g.stack } := by
      refine e3.trans ?_
      rw [hf₂, State.calling_eq h.top, State.setFrames_setFrames, State.setTop_of_frames _ hr', hr]
      rfl
    have hsame : U.sameButNew ({ U with heap := s₂.heap, slotsUsed := s₂.slotsUsed } : State) L mc ms := by
      refine ⟨?_, q2, q3, q4, q5, q6⟩
      obtain ⟨t, ht, -⟩ := State.frames_cons hr
      show ({ U with heap := s₂.heap, slotsUsed := s₂.slotsUsed } : State) = { U.setFrames U.frames with heap := s₂.heap, slotsUsed := s₂.slotsUsed }
      rw [State.setFrames_self ht]
    subst hg
    refine Or.inl ⟨v, ⟨(({ U with heap := s₂.heap, slotsUsed := s₂.slotsUsed } : State).setVm s₂.vm), Ls ++ L, c0 + mc, s0 + ms⟩,
      ⟨X.admits, X.cas, X.clock, X.frames, X.room, X.hears, X.method, X.code, (X.here.setHeapUsed s₂.heap s₂.slotsUsed).setVm hW'.alike, X.tail, State.WarmedH.trans X.warmed hW', X.limits, X.bytes, X.same.trans (hsame.setVm s.vm)⟩,
      ⟨g, mk, s₂, L, rfl, rfl, hqc, rfl, hL, rfl, rfl⟩, ?_⟩
    show Steps p.tables e below _ ((({ U with heap := s₂.heap, slotsUsed := s₂.slotsUsed } : State).setVm s₂.vm).setTop { g with pc := g.pc + len₂, stack := v.toList ++ g.stack })
    rw [← hs₂]
    exact hsteps
  · obtain ⟨e2, q2, q3, q4, q5, q6⟩ := id hsm
    have e3 : s₂ = ({ (U.calling g mk a).setFrames s₂.frames with heap := s₂.heap, slotsUsed := s₂.slotsUsed } : State).setVm s₂.vm := by
      have : s₂ = ({ s₂ with vm := (U.calling g mk a).vm } : State).setVm s₂.vm := rfl
      rw [e2] at this
      exact this
    have hf₂ : s₂.frames = .throwing q :: .java g :: U.frames.tail := hend
    have hW' : U.WarmedH s₂.vm := hW₂
    have hs₂ : s₂ = ((({ U with heap := s₂.heap, slotsUsed := s₂.slotsUsed } : State).setVm s₂.vm).setTop g).pushFrame (.throwing q) := by
      refine e3.trans ?_
      rw [hf₂, State.calling_eq h.top, State.setFrames_setFrames, State.pushFrame, State.frames_setTop _ hr', State.setTop_of_frames _ hr', State.setFrames_setFrames, hr]
      rfl
    have hsame : U.sameButNew ({ U with heap := s₂.heap, slotsUsed := s₂.slotsUsed } : State) L mc ms := by
      refine ⟨?_, q2, q3, q4, q5, q6⟩
      obtain ⟨t, ht, -⟩ := State.frames_cons hr
      show ({ U with heap := s₂.heap, slotsUsed := s₂.slotsUsed } : State) = { U.setFrames U.frames with heap := s₂.heap, slotsUsed := s₂.slotsUsed }
      rw [State.setFrames_self ht]
    subst hg
    refine Or.inr ⟨q, ⟨(({ U with heap := s₂.heap, slotsUsed := s₂.slotsUsed } : State).setVm s₂.vm), Ls ++ L, c0 + mc, s0 + ms⟩,
      ⟨X.admits, X.cas, X.clock, X.frames, X.room, X.hears, X.method, X.code, (X.here.setHeapUsed s₂.heap s₂.slotsUsed).setVm hW'.alike, X.tail, State.WarmedH.trans X.warmed hW', X.limits, X.bytes, X.same.trans (hsame.setVm s.vm)⟩,
      ⟨g, mk, s₂, L, E, ce, rfl, rfl, hx, hce, hcv, hcl, rfl, hL, rfl, rfl⟩, ?_⟩
    show Steps p.tables e below _ (((({ U with heap := s₂.heap, slotsUsed := s₂.slotsUsed } : State).setVm s₂.vm).setTop g).pushFrame (.throwing q))
    rw [← hs₂]
    exact hsteps
end Payer
section Calls
variable {p : Program} {l : Launch} {e : Env} {R : Room} {s : State} {m : MethodId} {args : Array Value} {below : List Frame} {meth : Method} {c : Code} {T : State} {locs : List Loc} {cells slots : Nat}
theorem vx_callV (X : Stand p l e R s m args below meth c T locs cells slots) (hexec : p.tables.exec = Jvm.exec) {own C : String} {index : Nat} {y : MethodName} {bytes : ByteArray} {maxL : Nat} {ret : Option FieldType}
    (hown : s.vm.findClass own = some m.cls) (hlink : (Cond.methodLink own index y).before args s = true) (hinst : (Cond.instanceMethod y).before args s = true) (hsel : (Cond.selects C y y).before args s = true)
    (hcode : (Cond.code y bytes maxL ret).before args s = true) (hy : y.cls ≠ "java/lang/invoke/MethodHandle" ∧ y.cls ≠ "java/lang/invoke/VarHandle")
    {W9 : Nat} {Pre : Pt → Array Value → Prop} {Post : Pt → Array Value → Option Value → Pt → Prop} {PostX : Pt → Array Value → Addr → Pt → Prop} (hK : vx_Back l R p e below s args y 3 W9 Pre Post PostX)
    {b : Addr} {cellB : Cell} (hcell : T.heap[b]? = some cellB) (hobj : cellB.vm.isStatics = false) (hcls : s.vm.findClass C = some cellB.cls)
    {g : JFrame} (hg : g.method = m) (hsize : g.locals.size = c.maxLocals) {argsL rest : List Value} (hlen : ∀ sig, parseMethodDescriptor y.desc = some sig → argsL.length = sig.parameters.length)
    (hstack : g.stack = argsL.reverse ++ .ref b :: rest) (hW : 2 * g.monitorRoom + (rest.map fun v => v.category).sum ≤ W9) (hdg : decode c.code g.pc = .ok (.invokevirtual index, 3))
    (hpre : ∀ vm₁, s.WarmedH vm₁ → Pre ⟨T.setVm vm₁, locs, cells, slots⟩ (Value.ref b :: argsL).toArray) :
    (∃ (v : Option Value) (vm₁ : Vm) (B : Pt), s.WarmedH vm₁ ∧ Stand p l e R s m args below meth c B.U B.locs B.cells B.slots ∧ Post ⟨T.setVm vm₁, locs, cells, slots⟩ (Value.ref b :: argsL).toArray v B ∧
      ∀ target, Steps p.tables e below (B.U.setTop { g with pc := g.pc + 3, stack := v.toList ++ rest }) target → Steps p.tables e below (T.setTop g) target) ∨
    (∃ (q : Addr) (vm₁ : Vm) (B : Pt), s.WarmedH vm₁ ∧ Stand p l e R s m args below meth c B.U B.locs B.cells B.slots ∧ PostX ⟨T.setVm vm₁, locs, cells, slots⟩ (Value.ref b :: argsL).toArray q B ∧
      Steps p.tables e below (T.setTop g) ((B.U.setTop { g with stack := rest }).pushFrame (.throwing q))) := by
  obtain ⟨mk, methM, hnamed, hmethM, hstM, habM⟩ := Cond.instanceMethod_spec hinst
  obtain ⟨methM', cM, hmethM', -, -, -, -, -, -, hsigM⟩ := Cond.code_spec hnamed hcode
  cases hmethM.symm.trans hmethM'
  obtain ⟨c2, r2, m2, q1, q2, q3, q4, kP, hkP, hkPi⟩ := Cond.selects_spec hsel
  cases hcls.symm.trans q1
  cases (State.methodFound?_of_named hnamed hy).symm.trans q2
  cases hnamed.symm.trans q3
  have hselP : selectMethod e.platform s.vm cellB.cls mk = .method mk := by rw [Launch.admits_selectMethod X.admits]; exact q4
  obtain ⟨vm₁, X₁, hstep₁⟩ := X.invokevirtual hexec hown hlink hnamed hmethM hstM hkP hkPi hy (a := b) (cell := cellB) hcell
    (fun z h => by rw [h] at hobj; cases hobj) hselP hmethM habM hkP hkPi (g := g) hg (argsL := argsL) (rest := rest) (hlen _ hsigM) hstack hdg
  rcases hK m meth c ⟨T.setVm vm₁, locs, cells, slots⟩ { g with stack := rest } (.invokevirtual index) mk (Value.ref b :: argsL).toArray X₁ hg hsize hdg hW (X₁.named hnamed) (hpre vm₁ X₁.warmed) with ⟨v, B, X', hpost, hsteps⟩ | ⟨q, B, X', hpost, hsteps⟩
  · exact Or.inl ⟨v, vm₁, B, X₁.warmed, X', hpost, fun target h => hstep₁ _ fun acts => by rw [doInvoke_state]; exact hsteps.trans h⟩
  · exact Or.inr ⟨q, vm₁, B, X₁.warmed, X', hpost, hstep₁ _ fun acts => by rw [doInvoke_state]; exact hsteps⟩
theorem vx_callS (X : Stand p l e R s m args below meth c T locs cells slots) (hexec : p.tables.exec = Jvm.exec) {own : String} {index : Nat} {y : MethodName} {bytes : ByteArray} {maxL : Nat} {ret : Option FieldType}
    (hown : s.vm.findClass own = some m.cls) (hlink : (Cond.methodLink own index y).before args s = true) (hstat : (Cond.static y).before args s = true) (hinit : (Cond.initialized y.cls).before args s = true)
    (hcode : (Cond.code y bytes maxL ret).before args s = true) (hy : y.cls ≠ "java/lang/invoke/MethodHandle" ∧ y.cls ≠ "java/lang/invoke/VarHandle")
    {W9 : Nat} {Pre : Pt → Array Value → Prop} {Post : Pt → Array Value → Option Value → Pt → Prop} {PostX : Pt → Array Value → Addr → Pt → Prop} (hK : vx_Back l R p e below s args y 3 W9 Pre Post PostX)
    {g : JFrame} (hg : g.method = m) (hsize : g.locals.size = c.maxLocals) {argsL rest : List Value} (hlen : ∀ sig, parseMethodDescriptor y.desc = some sig → argsL.length = sig.parameters.length)
    (hstack : g.stack = argsL.reverse ++ rest) (hW : 2 * g.monitorRoom + (rest.map fun v => v.category).sum ≤ W9) (hdg : decode c.code g.pc = .ok (.invokestatic index, 3))
    (hpre : ∀ vm₁, s.WarmedH vm₁ → Pre ⟨T.setVm vm₁, locs, cells, slots⟩ argsL.toArray) :
    (∃ (v : Option Value) (vm₁ : Vm) (B : Pt), s.WarmedH vm₁ ∧ Stand p l e R s m args below meth c B.U B.locs B.cells B.slots ∧ Post ⟨T.setVm vm₁, locs, cells, slots⟩ argsL.toArray v B ∧
      ∀ target, Steps p.tables e below (B.U.setTop { g with pc := g.pc + 3, stack := v.toList ++ rest }) target → Steps p.tables e below (T.setTop g) target) ∨
    (∃ (q : Addr) (vm₁ : Vm) (B : Pt), s.WarmedH vm₁ ∧ Stand p l e R s m args below meth c B.U B.locs B.cells B.slots ∧ PostX ⟨T.setVm vm₁, locs, cells, slots⟩ argsL.toArray q B ∧
      Steps p.tables e below (T.setTop g) ((B.U.setTop { g with stack := rest }).pushFrame (.throwing q))) := by
  obtain ⟨mk, hnamed⟩ := Cond.code_named hcode
  obtain ⟨methM, cM, hmethM, -, -, -, -, -, -, hsigM⟩ := Cond.code_spec hnamed hcode
  have hstatic : methM.isStatic = true := Cond.static_spec hnamed hmethM hstat
  obtain ⟨kP, hkP, -⟩ := className_of_methodNamed hnamed
  have hinitP : kP.init = .initialized := Cond.initialized_spec (findClass_of_methodNamed hnamed) hkP hinit
  obtain ⟨vm₁, X₁, hstep₁⟩ := X.invokestatic hexec hown hlink hnamed hmethM hstatic hkP hinitP hy (g := g) hg (argsL := argsL) (rest := rest) (hlen _ hsigM) hstack hdg
  rcases hK m meth c ⟨T.setVm vm₁, locs, cells, slots⟩ { g with stack := rest } (.invokestatic index) mk argsL.toArray X₁ hg hsize hdg hW (X₁.named hnamed) (hpre vm₁ X₁.warmed) with ⟨v, B, X', hpost, hsteps⟩ | ⟨q, B, X', hpost, hsteps⟩
  · exact Or.inl ⟨v, vm₁, B, X₁.warmed, X', hpost, fun target h => hstep₁ _ fun acts => by rw [doInvoke_state]; exact hsteps.trans h⟩
  · exact Or.inr ⟨q, vm₁, B, X₁.warmed, X', hpost, hstep₁ _ fun acts => by rw [doInvoke_state]; exact hsteps⟩
end Calls
theorem vx_cls {s : State} {T : State} {vm₁ : Vm} {E : String} {k : ClassId} (hW : s.WarmedH vm₁) (h : (T.setVm vm₁).vm.findClass E = some k) : s.vm.findClass E = some k := by
  have h1 : vm₁.findClass E = some k := h
  rw [hW.alike.findClass] at h1
  exact h1
/-- the method's frame g, with q thrown over it -/
def vx_W (p : Program) (l : Launch) (e : Env) (R : Room) (s : State) (m : MethodId) (args : Array Value) (below : List Frame) (meth : Method) (c : Code) (H : Heap) (locs : List Loc) (cells slots : Nat) (Q : State → Prop) (g : JFrame) (q : Addr) : Prop :=
  ∀ T : State, T.heap = H → Stand p l e R s m args below meth c T locs cells slots → ∃ t, Steps p.tables e below ((T.setTop g).pushFrame (.throwing q)) t ∧ Q t
def vx_Run (p : Program) (l : Launch) (e : Env) (R : Room) (s : State) (m : MethodId) (args : Array Value) (below : List Frame) (meth : Method) (c : Code) (H : Heap) (locs : List Loc) (cells slots mc ms : Nat) (g : JFrame) (rest : List Value) (Qa : State → Outcome → State → Prop) (XC : String → State → State → Prop) (free : Addr → Prop) : Prop :=
  ∀ T : State, T.heap = H → Stand p l e R s m args below meth c T locs cells slots →
    (∃ (v : Option Value) (st₀ t T' : State) (L : List Loc), st₀.heap = H ∧ Stand p l e R s m args below meth c T' (locs ++ L) (cells + mc) (slots + ms) ∧ (∀ q ∈ L, free q.base) ∧ T'.heap = t.heap ∧ T'.vm = t.vm ∧ Qa st₀ (.returned v) t ∧
      Goes p e below T g T' { g with pc := g.pc + 3, stack := v.toList ++ rest }) ∨
    (∃ (q : Addr) (st₀ t T' : State) (L : List Loc) (E : String) (ce : Cell), st₀.heap = H ∧ Stand p l e R s m args below meth c T' (locs ++ L) (cells + mc) (slots + ms) ∧ (∀ z ∈ L, free z.base) ∧ T'.heap = t.heap ∧ T'.vm = t.vm ∧ XC E st₀ t ∧ t.heap[q]? = some ce ∧ ce.vm = .none ∧ s.vm.findClass E = some ce.cls ∧
      Steps p.tables e below (T.setTop g) ((T'.setTop { g with stack := rest }).pushFrame (.throwing q)))
def vx_X {S : Type} (px : S → Prop) (B : String → S → State → Prop) (A : Nat → Prop) : String → State → State → Prop := fun E st t => ∃ u : S, px u ∧ B E u t ∧ va_F A st t
section Runs
variable {p : Program} {l : Launch} {e : Env} {R : Room} {s : State} {m : MethodId} {args : Array Value} {below : List Frame} {meth : Method} {c : Code} {H : Heap} {locs : List Loc} {cells slots : Nat}
variable {y : MethodName} {bytes cc : ByteArray} {maxL nL mc ms n index : Nat} {ret : Option FieldType} {ws : List Cond} {rm : Room} {Pc : Array Value → State → Prop} {Qc : Array Value → State → Outcome → State → Prop} {XC : String → State → State → Prop} {free : Addr → Prop} {Ts : List Cond} {own C : String} {b : Addr} {As rest : List Value} {g : JFrame}
theorem vx_callBack (cb : CallB R s args own index y bytes maxL ret ws rm mc ms n) (hM : vx_Met l y ws rm Pc Qc XC mc ms free) (hbl : FrameBlind Pc) : vx_Back l R p e below s args y 3 8 (PreOf R mc ms Pc) (PostOf Qc mc ms free) (vx_Post XC mc ms free) := by
  obtain ⟨hrc, hrs, hfr, hlo, hws, hcw, -, hini, -⟩ := cb
  exact vx_back (bytes := bytes) (maxL := maxL) (ret := ret) hM hbl hrc hrs hfr hlo hws hcw (fun a' U hW => word_at hW (Or.inl (by first | rfl | simp [Cond.onTables, Cond.keeps, Cond.steady])) hini)
theorem vx_runV (S : CallFix p m c cc nL s args Ts own) (hM : vx_Met l y ws rm Pc Qc XC mc ms free) (cw : CallW R s args own C index y bytes maxL ret ws rm mc ms n) (hp : PreV s H C b Pc As)
    (hg : g.method = m) (hn : As.length = n) (hsize : g.locals.size = nL) (hstack : g.stack = As.reverse ++ .ref b :: rest) (hW : 2 * g.monitorRoom + (rest.map fun v => v.category).sum ≤ 8) (hdg : decode cc g.pc = .ok (.invokevirtual index, 3)) (hf : cells + mc ≤ R.cells ∧ slots + ms ≤ R.slots) :
    vx_Run p l e R s m args below meth c H locs cells slots mc ms g rest (Qc (Value.ref b :: As).toArray) XC free := by
  have hK : vx_Back l R p e below s args y 3 8 (PreOf R mc ms Pc) (PostOf Qc mc ms free) (vx_Post XC mc ms free) := vx_callBack cw.1 hM hp.1
  obtain ⟨⟨-, -, -, -, -, -, hcode, -, hy, hlen, hl⟩, hin, hse⟩ := cw
  obtain ⟨hx, hb, hml, ho, -⟩ := S
  obtain ⟨-, ⟨cellB, hcB, hoB, hclB⟩, hPc⟩ := hp
  intro T hT X
  rcases vx_callV X hx (C := C) (bytes := bytes) (maxL := maxL) (ret := ret) ho hl hin hse hcode hy hK (by rw [hT]; exact hcB) hoB hclB hg (hsize.trans hml.symm) (argsL := As) (rest := rest) (fun sig h => hn.trans (hlen sig h)) hstack hW (by rw [hb]; exact hdg)
    (fun vm₁ hW₁ => ⟨hf.1, hf.2, hPc (T.setVm vm₁) hT hW₁⟩) with ⟨v, vm₁, ⟨U', l2, c2, s2⟩, hW₁, X', ⟨g', mk, t, L, e1, e2, hq, h1, hL, h2, h3⟩, st⟩ | ⟨q, vm₁, ⟨U', l2, c2, s2⟩, hW₁, X', ⟨g', mk, t, L, E, ce, e1, e2, hq, hce, hcv, hcl, h1, hL, h2, h3⟩, st⟩
  · dsimp only [Pt.U, Pt.locs, Pt.cells, Pt.slots] at X' e1 e2 h1 h2 h3 st
    subst h1; subst h2; subst h3
    exact Or.inl ⟨v, (T.setVm vm₁).calling g' mk (Value.ref b :: As).toArray, t, U', L, hT, X', hL, e1, e2, hq, st⟩
  · dsimp only [Pt.U, Pt.locs, Pt.cells, Pt.slots] at X' e1 e2 h1 h2 h3 st hcl
    subst h1; subst h2; subst h3
    exact Or.inr ⟨q, (T.setVm vm₁).calling g' mk (Value.ref b :: As).toArray, t, U', L, E, ce, hT, X', hL, e1, e2, hq, hce, hcv, vx_cls hW₁ hcl, st⟩
theorem vx_runS (S : CallFix p m c cc nL s args Ts own) (hM : vx_Met l y ws rm Pc Qc XC mc ms free) (cw : CallB R s args own index y bytes maxL ret ws rm mc ms n ∧ (Cond.static y).before args s = true) (hp : PreS s H Pc As)
    (hg : g.method = m) (hn : As.length = n) (hsize : g.locals.size = nL) (hstack : g.stack = As.reverse ++ rest) (hW : 2 * g.monitorRoom + (rest.map fun v => v.category).sum ≤ 8) (hdg : decode cc g.pc = .ok (.invokestatic index, 3)) (hf : cells + mc ≤ R.cells ∧ slots + ms ≤ R.slots) :
    vx_Run p l e R s m args below meth c H locs cells slots mc ms g rest (Qc As.toArray) XC free := by
  have hK : vx_Back l R p e below s args y 3 8 (PreOf R mc ms Pc) (PostOf Qc mc ms free) (vx_Post XC mc ms free) := vx_callBack cw.1 hM hp.1
  obtain ⟨⟨-, -, -, -, -, -, hcode, hini, hy, hlen, hl⟩, hstt⟩ := cw
  obtain ⟨hx, hb, hml, ho, -⟩ := S
  intro T hT X
  rcases vx_callS X hx (bytes := bytes) (maxL := maxL) (ret := ret) ho hl hstt hini hcode hy hK hg (hsize.trans hml.symm) (argsL := As) (rest := rest) (fun sig h => hn.trans (hlen sig h)) hstack hW (by rw [hb]; exact hdg)
    (fun vm₁ hW₁ => ⟨hf.1, hf.2, hp.2 (T.setVm vm₁) hT hW₁⟩) with ⟨v, vm₁, ⟨U', l2, c2, s2⟩, hW₁, X', ⟨g', mk, t, L, e1, e2, hq, h1, hL, h2, h3⟩, st⟩ | ⟨q, vm₁, ⟨U', l2, c2, s2⟩, hW₁, X', ⟨g', mk, t, L, E, ce, e1, e2, hq, hce, hcv, hcl, h1, hL, h2, h3⟩, st⟩
  · dsimp only [Pt.U, Pt.locs, Pt.cells, Pt.slots] at X' e1 e2 h1 h2 h3 st
    subst h1; subst h2; subst h3
    exact Or.inl ⟨v, (T.setVm vm₁).calling g' mk As.toArray, t, U', L, hT, X', hL, e1, e2, hq, st⟩
  · dsimp only [Pt.U, Pt.locs, Pt.cells, Pt.slots] at X' e1 e2 h1 h2 h3 st hcl
    subst h1; subst h2; subst h3
    exact Or.inr ⟨q, (T.setVm vm₁).calling g' mk As.toArray, t, U', L, E, ce, hT, X', hL, e1, e2, hq, hce, hcv, vx_cls hW₁ hcl, st⟩
end Runs
section Rows
variable {p : Program} {l : Launch} {e : Env} {R : Room} {s : State} {m : MethodId} {args : Array Value} {below : List Frame} {meth : Method} {c : Code} {H : Heap} {locs : List Loc} {cells slots : Nat} {Q : State → Prop}
variable {mc ms : Nat} {free : Addr → Prop} {A0 A1 : Nat → Prop} {H0 : Heap} {a : Array Value} {pc : Nat} {ls : Array Slot} {st0 rest : List Value}
theorem vx_keep {st₀ t T' : State} {L : List Loc} (h0 : st₀.heap = H) (e1 : T'.heap = t.heap) (hS : va_S A0 H0 H locs) (hA : ∀ q, q < H.size → A1 q → A0 q) (hf : ∀ q, free q → A0 q) (hL : ∀ q ∈ L, free q.base) (hF : va_F A1 st₀ t) :
    H.size ≤ T'.heap.size ∧ (∀ q : Nat, q < H.size → ¬ A1 q → T'.heap[q]? = H[q]?) ∧ va_S A0 H0 T'.heap (locs ++ L) := by
  obtain ⟨hz, hk⟩ := hF
  rw [h0] at hz hk
  exact ⟨by rw [e1]; exact hz, fun q h1 h2 => by rw [e1]; exact hk q h1 h2,
    ⟨Nat.le_trans hS.1 (by rw [e1]; exact hz), fun q h1 h2 => by rw [e1, hk q (Nat.lt_of_lt_of_le h1 hS.1) (fun z => h2 (hA q (Nat.lt_of_lt_of_le h1 hS.1) z))]; exact hS.2.1 q h1 h2, fun q hq => by
      rcases List.mem_append.mp hq with h | h
      · exact hS.2.2 q h
      · exact hf _ (hL q h)⟩⟩
theorem vx_calli {S SX : Type} {post : Int32 → S → Prop} {px : SX → Prop} {B : S → State → Prop} {BX : String → SX → State → Prop} {AX : Nat → Prop} (hr : vx_Run p l e R s m args below meth c H locs cells slots mc ms (F0 m pc ls st0) rest (va_Qi post B A1 a) (vx_X px BX AX) free) (hS : va_S A0 H0 H locs) (hA : ∀ q, q < H.size → A1 q → A0 q) (hf : ∀ q, free q → A0 q) (hAX : ∀ q, q < H.size → AX q → A0 q)
    (kx : ∀ (E : String) (ce : Cell) (q9 : Addr) (u : SX) (t : State) (H1 : Heap) (locs1 : List Loc), t.heap = H1 → s.vm.Alike t.vm → px u → BX E u t → H.size ≤ H1.size → (∀ q : Nat, q < H.size → ¬ AX q → H1[q]? = H[q]?) → va_S A0 H0 H1 locs1 → H1[q9]? = some ce → ce.vm = .none → s.vm.findClass E = some ce.cls → vx_W p l e R s m args below meth c H1 locs1 (cells + mc) (slots + ms) Q (F0 m pc ls rest) q9)
    (kk : ∀ (r : Int32) (u : S) (t : State) (H1 : Heap) (locs1 : List Loc), t.heap = H1 → s.vm.Alike t.vm → post r u → B u t → H.size ≤ H1.size → (∀ q : Nat, q < H.size → ¬ A1 q → H1[q]? = H[q]?) → va_S A0 H0 H1 locs1 → W p l e R s m args below meth c H1 locs1 (cells + mc) (slots + ms) Q (F0 m (pc + 3) ls (.int r :: rest))) : W p l e R s m args below meth c H locs cells slots Q (F0 m pc ls st0) := by
  intro T hT X
  rcases hr T hT X with ⟨v, st₀, t, T', L, h0, X', hL, e1, e2, ⟨⟨r, u, hv, hp, hb⟩, hF⟩, st⟩ | ⟨q, st₀, t, T', L, E, ce, h0, X', hL, e1, e2, ⟨u, hp, hb, hF⟩, hce, hcv, hcl, st⟩
  · cases hv
    obtain ⟨k1, k2, k3⟩ := vx_keep h0 e1 hS hA hf hL hF
    obtain ⟨t2, a1, b1⟩ := kk r u t T'.heap (locs ++ L) e1.symm (by rw [← e2]; exact X'.warmed.alike) hp hb k1 k2 k3 T' rfl X'
    exact ⟨t2, st t2 a1, b1⟩
  · obtain ⟨k1, k2, k3⟩ := vx_keep h0 e1 hS hAX hf hL hF
    obtain ⟨t2, a1, b1⟩ := kx E ce q u t T'.heap (locs ++ L) e1.symm (by rw [← e2]; exact X'.warmed.alike) hp hb k1 k2 k3 (by rw [e1]; exact hce) hcv hcl T' rfl X'
    exact ⟨t2, st.trans a1, b1⟩
theorem vx_calll {S SX : Type} {post : Int64 → S → Prop} {px : SX → Prop} {B : S → State → Prop} {BX : String → SX → State → Prop} {AX : Nat → Prop} (hr : vx_Run p l e R s m args below meth c H locs cells slots mc ms (F0 m pc ls st0) rest (va_Ql post B A1 a) (vx_X px BX AX) free) (hS : va_S A0 H0 H locs) (hA : ∀ q, q < H.size → A1 q → A0 q) (hf : ∀ q, free q → A0 q) (hAX : ∀ q, q < H.size → AX q → A0 q)
    (kx : ∀ (E : String) (ce : Cell) (q9 : Addr) (u : SX) (t : State) (H1 : Heap) (locs1 : List Loc), t.heap = H1 → s.vm.Alike t.vm → px u → BX E u t → H.size ≤ H1.size → (∀ q : Nat, q < H.size → ¬ AX q → H1[q]? = H[q]?) → va_S A0 H0 H1 locs1 → H1[q9]? = some ce → ce.vm = .none → s.vm.findClass E = some ce.cls → vx_W p l e R s m args below meth c H1 locs1 (cells + mc) (slots + ms) Q (F0 m pc ls rest) q9)
    (kk : ∀ (r : Int64) (u : S) (t : State) (H1 : Heap) (locs1 : List Loc), t.heap = H1 → s.vm.Alike t.vm → post r u → B u t → H.size ≤ H1.size → (∀ q : Nat, q < H.size → ¬ A1 q → H1[q]? = H[q]?) → va_S A0 H0 H1 locs1 → W p l e R s m args below meth c H1 locs1 (cells + mc) (slots + ms) Q (F0 m (pc + 3) ls (.long r :: rest))) : W p l e R s m args below meth c H locs cells slots Q (F0 m pc ls st0) := by
  intro T hT X
  rcases hr T hT X with ⟨v, st₀, t, T', L, h0, X', hL, e1, e2, ⟨⟨r, u, hv, hp, hb⟩, hF⟩, st⟩ | ⟨q, st₀, t, T', L, E, ce, h0, X', hL, e1, e2, ⟨u, hp, hb, hF⟩, hce, hcv, hcl, st⟩
  · cases hv
    obtain ⟨k1, k2, k3⟩ := vx_keep h0 e1 hS hA hf hL hF
    obtain ⟨t2, a1, b1⟩ := kk r u t T'.heap (locs ++ L) e1.symm (by rw [← e2]; exact X'.warmed.alike) hp hb k1 k2 k3 T' rfl X'
    exact ⟨t2, st t2 a1, b1⟩
  · obtain ⟨k1, k2, k3⟩ := vx_keep h0 e1 hS hAX hf hL hF
    obtain ⟨t2, a1, b1⟩ := kx E ce q u t T'.heap (locs ++ L) e1.symm (by rw [← e2]; exact X'.warmed.alike) hp hb k1 k2 k3 (by rw [e1]; exact hce) hcv hcl T' rfl X'
    exact ⟨t2, st.trans a1, b1⟩
theorem vx_callf {S SX : Type} {post : UInt32 → S → Prop} {px : SX → Prop} {B : S → State → Prop} {BX : String → SX → State → Prop} {AX : Nat → Prop} (hr : vx_Run p l e R s m args below meth c H locs cells slots mc ms (F0 m pc ls st0) rest (va_Qf post B A1 a) (vx_X px BX AX) free) (hS : va_S A0 H0 H locs) (hA : ∀ q, q < H.size → A1 q → A0 q) (hf : ∀ q, free q → A0 q) (hAX : ∀ q, q < H.size → AX q → A0 q)
    (kx : ∀ (E : String) (ce : Cell) (q9 : Addr) (u : SX) (t : State) (H1 : Heap) (locs1 : List Loc), t.heap = H1 → s.vm.Alike t.vm → px u → BX E u t → H.size ≤ H1.size → (∀ q : Nat, q < H.size → ¬ AX q → H1[q]? = H[q]?) → va_S A0 H0 H1 locs1 → H1[q9]? = some ce → ce.vm = .none → s.vm.findClass E = some ce.cls → vx_W p l e R s m args below meth c H1 locs1 (cells + mc) (slots + ms) Q (F0 m pc ls rest) q9)
    (kk : ∀ (r : UInt32) (u : S) (t : State) (H1 : Heap) (locs1 : List Loc), t.heap = H1 → s.vm.Alike t.vm → post r u → B u t → H.size ≤ H1.size → (∀ q : Nat, q < H.size → ¬ A1 q → H1[q]? = H[q]?) → va_S A0 H0 H1 locs1 → W p l e R s m args below meth c H1 locs1 (cells + mc) (slots + ms) Q (F0 m (pc + 3) ls (.float r :: rest))) : W p l e R s m args below meth c H locs cells slots Q (F0 m pc ls st0) := by
  intro T hT X
  rcases hr T hT X with ⟨v, st₀, t, T', L, h0, X', hL, e1, e2, ⟨⟨r, u, hv, hp, hb⟩, hF⟩, st⟩ | ⟨q, st₀, t, T', L, E, ce, h0, X', hL, e1, e2, ⟨u, hp, hb, hF⟩, hce, hcv, hcl, st⟩
  · cases hv
    obtain ⟨k1, k2, k3⟩ := vx_keep h0 e1 hS hA hf hL hF
    obtain ⟨t2, a1, b1⟩ := kk r u t T'.heap (locs ++ L) e1.symm (by rw [← e2]; exact X'.warmed.alike) hp hb k1 k2 k3 T' rfl X'
    exact ⟨t2, st t2 a1, b1⟩
  · obtain ⟨k1, k2, k3⟩ := vx_keep h0 e1 hS hAX hf hL hF
    obtain ⟨t2, a1, b1⟩ := kx E ce q u t T'.heap (locs ++ L) e1.symm (by rw [← e2]; exact X'.warmed.alike) hp hb k1 k2 k3 (by rw [e1]; exact hce) hcv hcl T' rfl X'
    exact ⟨t2, st.trans a1, b1⟩
theorem vx_calld {S SX : Type} {post : UInt64 → S → Prop} {px : SX → Prop} {B : S → State → Prop} {BX : String → SX → State → Prop} {AX : Nat → Prop} (hr : vx_Run p l e R s m args below meth c H locs cells slots mc ms (F0 m pc ls st0) rest (va_Qd post B A1 a) (vx_X px BX AX) free) (hS : va_S A0 H0 H locs) (hA : ∀ q, q < H.size → A1 q → A0 q) (hf : ∀ q, free q → A0 q) (hAX : ∀ q, q < H.size → AX q → A0 q)
    (kx : ∀ (E : String) (ce : Cell) (q9 : Addr) (u : SX) (t : State) (H1 : Heap) (locs1 : List Loc), t.heap = H1 → s.vm.Alike t.vm → px u → BX E u t → H.size ≤ H1.size → (∀ q : Nat, q < H.size → ¬ AX q → H1[q]? = H[q]?) → va_S A0 H0 H1 locs1 → H1[q9]? = some ce → ce.vm = .none → s.vm.findClass E = some ce.cls → vx_W p l e R s m args below meth c H1 locs1 (cells + mc) (slots + ms) Q (F0 m pc ls rest) q9)
    (kk : ∀ (r : UInt64) (u : S) (t : State) (H1 : Heap) (locs1 : List Loc), t.heap = H1 → s.vm.Alike t.vm → post r u → B u t → H.size ≤ H1.size → (∀ q : Nat, q < H.size → ¬ A1 q → H1[q]? = H[q]?) → va_S A0 H0 H1 locs1 → W p l e R s m args below meth c H1 locs1 (cells + mc) (slots + ms) Q (F0 m (pc + 3) ls (.double r :: rest))) : W p l e R s m args below meth c H locs cells slots Q (F0 m pc ls st0) := by
  intro T hT X
  rcases hr T hT X with ⟨v, st₀, t, T', L, h0, X', hL, e1, e2, ⟨⟨r, u, hv, hp, hb⟩, hF⟩, st⟩ | ⟨q, st₀, t, T', L, E, ce, h0, X', hL, e1, e2, ⟨u, hp, hb, hF⟩, hce, hcv, hcl, st⟩
  · cases hv
    obtain ⟨k1, k2, k3⟩ := vx_keep h0 e1 hS hA hf hL hF
    obtain ⟨t2, a1, b1⟩ := kk r u t T'.heap (locs ++ L) e1.symm (by rw [← e2]; exact X'.warmed.alike) hp hb k1 k2 k3 T' rfl X'
    exact ⟨t2, st t2 a1, b1⟩
  · obtain ⟨k1, k2, k3⟩ := vx_keep h0 e1 hS hAX hf hL hF
    obtain ⟨t2, a1, b1⟩ := kx E ce q u t T'.heap (locs ++ L) e1.symm (by rw [← e2]; exact X'.warmed.alike) hp hb k1 k2 k3 (by rw [e1]; exact hce) hcv hcl T' rfl X'
    exact ⟨t2, st.trans a1, b1⟩
theorem vx_callv {S SX : Type} {post : S → Prop} {px : SX → Prop} {B : S → State → Prop} {BX : String → SX → State → Prop} {AX : Nat → Prop} (hr : vx_Run p l e R s m args below meth c H locs cells slots mc ms (F0 m pc ls st0) rest (va_Qv post B A1 a) (vx_X px BX AX) free) (hS : va_S A0 H0 H locs) (hA : ∀ q, q < H.size → A1 q → A0 q) (hf : ∀ q, free q → A0 q) (hAX : ∀ q, q < H.size → AX q → A0 q)
    (kx : ∀ (E : String) (ce : Cell) (q9 : Addr) (u : SX) (t : State) (H1 : Heap) (locs1 : List Loc), t.heap = H1 → s.vm.Alike t.vm → px u → BX E u t → H.size ≤ H1.size → (∀ q : Nat, q < H.size → ¬ AX q → H1[q]? = H[q]?) → va_S A0 H0 H1 locs1 → H1[q9]? = some ce → ce.vm = .none → s.vm.findClass E = some ce.cls → vx_W p l e R s m args below meth c H1 locs1 (cells + mc) (slots + ms) Q (F0 m pc ls rest) q9)
    (kk : ∀ (u : S) (t : State) (H1 : Heap) (locs1 : List Loc), t.heap = H1 → s.vm.Alike t.vm → post u → B u t → H.size ≤ H1.size → (∀ q : Nat, q < H.size → ¬ A1 q → H1[q]? = H[q]?) → va_S A0 H0 H1 locs1 → W p l e R s m args below meth c H1 locs1 (cells + mc) (slots + ms) Q (F0 m (pc + 3) ls (rest))) : W p l e R s m args below meth c H locs cells slots Q (F0 m pc ls st0) := by
  intro T hT X
  rcases hr T hT X with ⟨v, st₀, t, T', L, h0, X', hL, e1, e2, ⟨⟨u, hv, hp, hb⟩, hF⟩, st⟩ | ⟨q, st₀, t, T', L, E, ce, h0, X', hL, e1, e2, ⟨u, hp, hb, hF⟩, hce, hcv, hcl, st⟩
  · cases hv
    obtain ⟨k1, k2, k3⟩ := vx_keep h0 e1 hS hA hf hL hF
    obtain ⟨t2, a1, b1⟩ := kk u t T'.heap (locs ++ L) e1.symm (by rw [← e2]; exact X'.warmed.alike) hp hb k1 k2 k3 T' rfl X'
    exact ⟨t2, st t2 a1, b1⟩
  · obtain ⟨k1, k2, k3⟩ := vx_keep h0 e1 hS hAX hf hL hF
    obtain ⟨t2, a1, b1⟩ := kx E ce q u t T'.heap (locs ++ L) e1.symm (by rw [← e2]; exact X'.warmed.alike) hp hb k1 k2 k3 (by rw [e1]; exact hce) hcv hcl T' rfl X'
    exact ⟨t2, st.trans a1, b1⟩
/-- caught by the row x of this method's table; the rows ahead don't take it -/
theorem vx_catch {own name : String} {E : String} {ce : Cell} {q : Addr} (hown : s.vm.findClass own = some m.cls) (pre : List ExceptionTableEntry) (x : ExceptionTableEntry) (suf : List ExceptionTableEntry) (hsplit : c.exceptionTable.toList = pre ++ x :: suf)
    (hpass : ∀ z ∈ pre, covers z pc = false ∨ (z.catchType ≠ 0 ∧ ∃ nm : String, (Cond.classLink own z.catchType nm).before args s = true ∧ va_Nc E nm s)) (hx : covers x pc = true) (h0 : x.catchType ≠ 0)
    (hlink : (Cond.classLink own x.catchType name).before args s = true) (hcast : (Cond.castable E name).before args s = true) (hcell : H[q]? = some ce) (hv : ce.vm = .none) (hcl : s.vm.findClass E = some ce.cls)
    (kk : W p l e R s m args below meth c H locs cells slots Q (F0 m x.handlerPc ls [.ref q])) : vx_W p l e R s m args below meth c H locs cells slots Q (F0 m pc ls rest) q := by
  intro T hT X
  have hpl : e.platform.magicAccessors = ({} : Platform).magicAccessors := by rw [X.admits.platform]
  obtain ⟨c3, c4, hc3, hc4, hasg⟩ := Cond.castable_spec hcast
  cases Option.some.inj (hc3.symm.trans hcl)
  obtain ⟨c5, hc5, hcl5⟩ := Cond.classLink_spec hown hlink e.platform hpl
  cases Option.some.inj (hc4.symm.trans hc5)
  obtain ⟨vm', X', st⟩ := X.thenCaughtThrough q (g := F0 m pc ls rest) rfl (Steps.refl _) (by rw [hT]; exact hcell) (by rw [hv]; rfl) (by obtain ⟨k9, h9, -⟩ := Vm.findClass_spec hcl; exact ⟨k9, h9⟩) pre x suf hsplit
    (fun z hz => by
      rcases hpass z hz with h | ⟨hz0, nm, hl1, hn1⟩
      · exact Or.inl h
      · obtain ⟨c6, hc6, hcl6⟩ := Cond.classLink_spec hown hl1 e.platform hpl
        obtain ⟨a8, b8, h1, h2, h3⟩ := hn1
        cases Option.some.inj (h1.symm.trans hcl)
        cases Option.some.inj (h2.symm.trans hc6)
        exact Or.inr ⟨hz0, _, hcl6, h3⟩) hx (Or.inr ⟨h0, c4, hcl5, hasg⟩)
  obtain ⟨t, a1, b1⟩ := kk (T.setVm vm') hT X'
  exact ⟨t, st.trans a1, b1⟩
end Rows
section Ends
variable {p : Program} {l : Launch} {e : Env} {R : Room} {s : State} {m : MethodId} {args : Array Value} {below : List Frame} {meth : Method} {c : Code} {H : Heap} {locs : List Loc} {cells slots : Nat} {Q : State → Prop}
variable {mc ms : Nat} {free : Addr → Prop} {A0 A1 : Nat → Prop} {H0 : Heap} {a : Array Value} {ls : Array Slot} {st0 rest : List Value}
variable {Qc : Array Value → State → Outcome → State → Prop} {XC : String → State → State → Prop}
/-- what a body that may throw owes at its end -/
def vx_MQ (below : List Frame) (Qc : Array Value → State → Outcome → State → Prop) (XC : String → State → State → Prop) (a : Array Value) (s : State) (mc ms : Nat) (free : Addr → Prop) : State → Prop := fun t =>
  ∃ o, t.status = .running ∧ Ended t below o ∧ vx_Q Qc XC mc ms free a s o t
theorem vx_ret {g : JFrame} {mc ms : Nat} (k : W p l e R s m args below meth c H locs cells slots (MQ below Qc args s mc ms free) g) : W p l e R s m args below meth c H locs cells slots (vx_MQ below Qc XC args s mc ms free) g := by
  intro T hT X
  obtain ⟨t, a1, o, b1, b2, b3, b4⟩ := k T hT X
  exact ⟨t, a1, o, b1, b2, Or.inl ⟨b3, b4⟩⟩
/-- not caught here: it goes on to the caller -/
theorem vx_widen {g : JFrame} {q : Addr} {k n : Nat} (h1 : cells ≤ k) (h2 : slots ≤ n) (kk : vx_W p l e R s m args below meth c H locs k n Q g q) : vx_W p l e R s m args below meth c H locs cells slots Q g q := fun T hT X => kk T hT (stand_widen X h1 h2)
theorem vx_out {pc : Nat} {E : String} {ce : Cell} {q : Addr} {mc ms : Nat} (hout : ∀ x ∈ c.exceptionTable.toList, covers x pc = false) (hlocks : meth.locks = false) (hcell : H[q]? = some ce) (hv : ce.vm = .none) (hcl : s.vm.findClass E = some ce.cls)
    (hx : ∀ t : State, t.heap = H → s.vm.Alike t.vm → XC E s t) (hf : ∀ z ∈ locs, free z.base) (hc : cells ≤ mc) (hs : slots ≤ ms) :
    vx_W p l e R s m args below meth c H locs cells slots (vx_MQ below Qc XC args s mc ms free) (F0 m pc ls rest) q := by
  intro T hT X
  obtain ⟨st1, hrun, hend, hW, hsm⟩ := X.leaveThrown q (g := F0 m pc ls rest) rfl rfl rfl hout hlocks
  have hcell9 : (T.setFrames (.throwing q :: below)).heap[q]? = some ce := by
    show T.heap[q]? = some ce
    rw [hT]; exact hcell
  exact ⟨_, st1, .threw q, hrun, hend, Or.inr ⟨q, rfl, E, ce, locs, hx _ hT hW.alike, hcell9, hv, hcl, hW, hsm.mono hc hs, hf⟩⟩
theorem vx_frame {U : State} {k n : Nat} (h : s.sameButNew ({ U with vm := s.vm } : State) locs k n) : s.heap.size ≤ U.heap.size ∧ ∀ q : Nat, q < s.heap.size → (∀ z ∈ locs, z.base ≠ q) → U.heap[q]? = s.heap[q]? := by
  obtain ⟨-, h2, -, -, -, h6⟩ := h
  refine ⟨h2, fun q hq hz => ?_⟩
  obtain ⟨c9, e1, e2, e3, e4⟩ := h6 q _ (Array.getElem?_eq_getElem hq)
  have hs : c9.slots = (s.heap[q]).slots := Array.ext_getElem? fun i => e4 i fun hm => hz _ hm rfl
  have h9 : c9 = s.heap[q] := by
    rw [hs] at e2
    exact e2
  have e5 : U.heap[q]? = some c9 := e1
  rw [e5, h9, Array.getElem?_eq_getElem hq]
/-- the words of a throw but the four that speak of the heap -/
def vx_no (w : Cond) : Bool := decide (w ≠ .isRef (.static Bundle.tN "UNASSIGNED_STACK" Bundle.steD)) && decide (w ≠ .isRef (.static Bundle.tN "SUPPRESSED_SENTINEL" Bundle.listD)) && decide (w ≠ .laysStatic Bundle.tN "UNASSIGNED_STACK" Bundle.steD) && decide (w ≠ .laysStatic Bundle.tN "SUPPRESSED_SENTINEL" Bundle.listD)
def vx_at0 (own : String) (ic : Nat) (X : String) (names : List String) : List Cond := (Bundle.ownAtoms0 own ic X names).filter vx_no
def vx_atS (own : String) (ic : Nat) (X : String) (names : List String) : List Cond := (Bundle.ownAtoms own ic X names).filter vx_no
/-- a word that the tables alone decide, or a good one -/
def vx_ot (w : Cond) : Bool := w.onTables || goodWord w
theorem vx_ot_at {args a' : Array Value} {s U : State} {w : Cond} (hW : s.WarmedH U.vm) (hvm : s.vm = U.vm) (hg : vx_ot w = true) (h : w.before args s = true) : w.before a' U = true := by
  simp only [vx_ot, Bool.or_eq_true] at hg
  rcases hg with hg | hg
  · exact va_tabs hg hvm h
  · exact word_at hW (good_of_word hg) h
/-- a list's words: the good ones out of the method's own list, the others by premises of their own -/
theorem vx_hat {args : Array Value} {s : State} {L B : List Cond} (h1 : ∀ w ∈ L.filter goodWord, w.before args s = true) (h2 : ∀ w ∈ L.filter (fun w => !goodWord w), w ∈ B) (h3 : ∀ w ∈ B, w.before args s = true) : ∀ w ∈ L, w.before args s = true := by
  intro w hw
  by_cases g : goodWord w = true
  · exact h1 w (List.mem_filter.mpr ⟨hw, g⟩)
  · refine h3 w (h2 w (List.mem_filter.mpr ⟨hw, ?_⟩))
    show (!goodWord w) = true
    cases hgw : goodWord w
    · rfl
    · exact absurd hgw g
theorem vx_c {args : Array Value} {s : State} {w : Cond} {B : List Cond} (h : w.before args s = true) (t : ∀ w ∈ B, w.before args s = true) : ∀ w' ∈ w :: B, w'.before args s = true := fun w' h' => (List.mem_cons.mp h').elim (fun e => by rw [e]; exact h) (t w')
theorem vx_n {args : Array Value} {s : State} : ∀ w ∈ ([] : List Cond), w.before args s = true := fun _ h => nomatch h
theorem vx_own {args : Array Value} {s : State} {L : List Cond} (h1 : ∀ w ∈ L.filter vx_no, w.before args s = true)
    (hU : (Cond.isRef (.static Bundle.tN "UNASSIGNED_STACK" Bundle.steD)).before args s = true) (hN : (Cond.isRef (.static Bundle.tN "SUPPRESSED_SENTINEL" Bundle.listD)).before args s = true)
    (lU : (Cond.laysStatic Bundle.tN "UNASSIGNED_STACK" Bundle.steD).before args s = true) (lN : (Cond.laysStatic Bundle.tN "SUPPRESSED_SENTINEL" Bundle.listD).before args s = true) : ∀ w ∈ L, w.before args s = true := by
  intro w hw
  by_cases e1 : w = .isRef (.static Bundle.tN "UNASSIGNED_STACK" Bundle.steD)
  · rw [e1]; exact hU
  · by_cases e2 : w = .isRef (.static Bundle.tN "SUPPRESSED_SENTINEL" Bundle.listD)
    · rw [e2]; exact hN
    · by_cases e3 : w = .laysStatic Bundle.tN "UNASSIGNED_STACK" Bundle.steD
      · rw [e3]; exact lU
      · by_cases e4 : w = .laysStatic Bundle.tN "SUPPRESSED_SENTINEL" Bundle.listD
        · rw [e4]; exact lN
        · exact h1 w (List.mem_filter.mpr ⟨hw, by unfold vx_no; rw [decide_eq_true e1, decide_eq_true e2, decide_eq_true e3, decide_eq_true e4]; rfl⟩)
/-- where a static field lies, its class's statics cell in H -/
def vx_L (C n d : String) (A : Nat → Prop) (U : State) (H : Heap) : Prop := ∃ (c : ClassId) (k : Class) (i : Nat) (f : Field) (a : Nat) (cell : Cell), U.vm.findClass C = some c ∧ U.fieldFound? C n d = some (c, k, i, f) ∧ f.isStatic = true ∧ k.statics = some a ∧ H[a]? = some cell ∧ cell.vm.isStatics = true ∧ cell.cls = c ∧ f.slot < cell.slots.size ∧ k.staticTypes[f.slot]? = some f.type ∧ ¬ A a
theorem vx_L.moved {C n d : String} {A : Nat → Prop} {u U : State} {H : Heap} (hvm : u.vm.Alike U.vm) (h : vx_L C n d A u H) : vx_L C n d A U H := by
  obtain ⟨c, k, i, f, a, cell, h1, h2, h3, h4, h5, h6, h7, h8, h9, h10⟩ := h
  obtain ⟨k', hi', he⟩ := State.fieldFound?_setVm hvm h2
  exact ⟨c, k', i, f, a, cell, by rw [hvm.findClass]; exact h1, hi', h3, by rw [he]; exact h4, h5, h6, h7, h8, by rw [he]; exact h9, h10⟩
theorem vx_L.kept {C n d : String} {A : Nat → Prop} {U : State} {H H1 : Heap} (h : vx_L C n d A U H) (hq : ∀ a : Nat, a < H.size → ¬ A a → H1[a]? = H[a]?) : vx_L C n d A U H1 := by
  obtain ⟨c, k, i, f, a, cell, h1, h2, h3, h4, h5, h6, h7, h8, h9, h10⟩ := h
  exact ⟨c, k, i, f, a, cell, h1, h2, h3, h4, by rw [hq a (Array.getElem?_eq_some_iff.mp h5).1 h10]; exact h5, h6, h7, h8, h9, h10⟩
theorem vx_L.narrow {C n d : String} {A B : Nat → Prop} {U : State} {H : Heap} (h : vx_L C n d A U H) (hAB : ∀ q, B q → A q) : vx_L C n d B U H := by
  obtain ⟨c, k, i, f, a, cell, h1, h2, h3, h4, h5, h6, h7, h8, h9, h10⟩ := h
  exact ⟨c, k, i, f, a, cell, h1, h2, h3, h4, h5, h6, h7, h8, h9, fun z => h10 (hAB _ z)⟩
theorem vx_L.word {C n d : String} {A : Nat → Prop} {s : State} {args : Array Value} (h : vx_L C n d A s s.heap) : (Cond.laysStatic C n d).before args s = true := by
  obtain ⟨c, k, i, f, a, cell, h1, h2, h3, h4, h5, h6, h7, h8, h9, -⟩ := h
  show (Cond.laysStatic C n d).holds args s none s [] = true
  exact Cond.laysStatic_of h1 h2 h3 h4 h5 h6 h7 h8 h9
/-- .. and what it holds: null or some reference -/
def vx_Zq (C n d : String) (A : Nat → Prop) (U : State) (H : Heap) : Prop := va_Zq C n d A U H ∧ vx_L C n d A U H
theorem vx_Zq.moved {C n d : String} {A : Nat → Prop} {u U : State} {H : Heap} (hvm : u.vm.Alike U.vm) (h : vx_Zq C n d A u H) : vx_Zq C n d A U H := ⟨va_Zq.moved hvm h.1, vx_L.moved hvm h.2⟩
theorem vx_Zq.kept {C n d : String} {A : Nat → Prop} {U : State} {H H1 : Heap} (h : vx_Zq C n d A U H) (hq : ∀ a : Nat, a < H.size → ¬ A a → H1[a]? = H[a]?) : vx_Zq C n d A U H1 := ⟨va_Zq.kept h.1 hq, vx_L.kept h.2 hq⟩
theorem vx_Zq.narrow {C n d : String} {A B : Nat → Prop} {U : State} {H : Heap} (h : vx_Zq C n d A U H) (hAB : ∀ q, B q → A q) : vx_Zq C n d B U H := ⟨va_Zq.narrow h.1 hAB, vx_L.narrow h.2 hAB⟩
theorem vx_Zqof {args : Array Value} {s : State} {C n d : String} {A : Nat → Prop} (hl : (Cond.laysStatic C n d).before args s = true) (hini : (Cond.initialized C).before args s = true) (h : (Cond.isRef (.static C n d)).before args s = true) (hA : ∀ a : Nat, a < s.heap.size → ¬ A a) : vx_Zq C n d A s s.heap := by
  refine ⟨va_Zqof hl hini h hA, ?_⟩
  obtain ⟨c, k, i, f, a, cell, h1, h2, h3, h4, h5, h6, h7, h8, h9⟩ := Cond.laysStatic_spec hl
  exact ⟨c, k, i, f, a, cell, h1, h2, h3, h4, h5, h6, h7, h8, h9, hA a (Array.getElem?_eq_some_iff.mp h5).1⟩
theorem vx_isRef {C n d : String} {v : Value} {A : Nat → Prop} {s : State} {args : Array Value} (h : va_Z C n d v A s s.heap) (hv : v.isRef = true) : (Cond.isRef (.static C n d)).before args s = true := by
  obtain ⟨cf, kf, fi, f, a, cell, h1, h2, h3, h4, h5, h6, h7, -⟩ := h
  have he : (Term.static C n d).eval args s none [] s = some v := by
    simp [Term.eval, State.fieldNamed?, h1, h2, h4, h5, h6, h7]
  simp only [Cond.before, Cond.holds, Cond.value, he]
  cases v <;> simp_all [Value.isRef]
theorem vx_isRefq {C n d : String} {A : Nat → Prop} {s : State} {args : Array Value} (h : va_Zq C n d A s s.heap) : (Cond.isRef (.static C n d)).before args s = true := by
  rcases h with h | ⟨t, h⟩
  · exact vx_isRef h rfl
  · exact vx_isRef h rfl
/-- the same frame, seen from here: as if the method were called anew in this heap -/
theorem vx_rebase {T : State} (X : Stand p l e R s m args below meth c T locs cells slots) {R' : Room} (hf : R'.frames ≤ R.frames) (hl : R'.locals ≤ R.locals) (hc : cells + R'.cells ≤ R.cells) (hs : slots + R'.slots ≤ R.slots) :
    Stand p l e R' ((T.setVm s.vm).setFrames (.invoking m args :: below)) m args below meth c T [] 0 0 := by
  have htop : (T.setVm s.vm).topJava?.isSome := X.here.top
  have hF : ((T.setVm s.vm).setFrames (.invoking m args :: below)).frames = .invoking m args :: below := State.frames_setFrames _ (State.cur_lt_of_top htop)
  obtain ⟨g₀, hg0⟩ := Option.isSome_iff_exists.mp htop
  obtain ⟨r, hr⟩ := State.topJava?_eq_some.mp hg0
  have hl9 : e.platform.stackLimits (T.setVm s.vm).me = e.platform.stackLimits s.me := X.limits
  have hb9 : (T.setVm s.vm).me.stackBytes = s.me.stackBytes := X.bytes
  refine ⟨X.admits, X.cas, X.clock, hF, ?_, X.hears, X.method, X.code, X.here, X.tail, X.warmed, ?_, ?_, ?_⟩
  · have h := X.room
    have hU : ((T.setVm s.vm).setFrames (.invoking m args :: below)).localsInUse = s.localsInUse := by
      rw [State.localsInUse_invoking hF (meth := meth) (c := c) X.method X.code, State.localsInUse_invoking X.frames X.method X.code]
    simp only [State.hasRoom, Bool.and_eq_true, decide_eq_true_eq] at h ⊢
    obtain ⟨⟨⟨⟨h1, h2, h3, h4, h5, h6⟩, h7⟩, h8⟩, h9⟩ := h
    rw [X.frames, List.length_cons] at h2 h3
    have q1 := X.heapSize
    have q2 := X.used
    simp only [hF, hU, List.length_cons, State.stackLimits_setFrames, State.stackBytes_setFrames, hl9, hb9]
    refine ⟨⟨⟨⟨by omega, by omega, by omega, by omega, by omega, h6⟩, ?_⟩, ?_⟩, X.book⟩
    · show T.heap.size + R'.cells ≤ e.platform.maxCells
      omega
    · show T.slotsUsed + R'.slots ≤ e.platform.maxSlots
      omega
  · rw [State.stackLimits_setFrames]; rfl
  · rw [State.stackBytes_setFrames]; rfl
  · refine ⟨?_, Nat.le_refl _, Nat.le_refl _, ?_, ?_, fun a c9 h9 => ⟨c9, h9, rfl, rfl, fun _ _ => rfl⟩⟩
    · obtain ⟨t, ht, -⟩ := State.frames_cons hr
      show T.setVm s.vm = { ((T.setVm s.vm).setFrames (.invoking m args :: below)).setFrames (T.setVm s.vm).frames with heap := T.heap, slotsUsed := T.slotsUsed }
      rw [State.setFrames_setFrames, State.setFrames_self ht]
      rfl
    · show T.slotsUsed = T.slotsUsed + ((T.heap.toList.drop T.heap.size).map (·.slots.size)).sum
      rw [List.drop_eq_nil_of_le (Nat.le_of_eq Array.length_toList)]
      rfl
    · show ((T.heap.toList.drop T.heap.size).map (·.slots.size)).sum ≤ 0
      rw [List.drop_eq_nil_of_le (Nat.le_of_eq Array.length_toList)]
      exact Nat.le_refl _
/-- 'throw new E()': new; dup; invokespecial; athrow -/
theorem vx_throw0 {cc : ByteArray} {pc : Nat} (hexec : p.tables.exec = Jvm.exec) (hb : c.code = cc) (hl : l.stackTraces = false) {own cls : String} {names : List String} {ik ic mc ms : Nat} {A : Nat → Prop}
    (hown : s.vm.findClass own = some m.cls) (hcls : Bundle.fit cls = true) (hnames : ∀ n ∈ names, Bundle.fit n = true)
    (hk : (Cond.classLink own ik cls).before args s = true) (hini : (Cond.initialized cls).before args s = true) (hat : ∀ w ∈ vx_at0 own ic cls names, w.before args s = true)
    (hgood : ∀ w ∈ Cond.classLink own ik cls :: Cond.initialized cls :: vx_at0 own ic cls names, vx_ot w = true)
    (hU : vx_Zq Bundle.tN "UNASSIGNED_STACK" Bundle.steD A s s.heap) (hN : vx_Zq Bundle.tN "SUPPRESSED_SENTINEL" Bundle.listD A s s.heap) (hS : va_S A s.heap H locs) (hsize : ls.size = c.maxLocals)
    (d0 : decode cc pc = .ok (.new ik, 3)) (d3 : decode cc (pc + 3) = .ok (.dup, 1)) (d4 : decode cc (pc + 4) = .ok (.invokespecial ic, 3)) (d7 : decode cc (pc + 7) = .ok (.athrow, 1))
    (hout : ∀ x ∈ c.exceptionTable.toList, covers x (pc + 7) = false)
    (hRframes : names.length + 3 < R.frames) (hRlocals : (rest.map fun v => v.category).sum + (13 * (names.length + 1) + 42) ≤ R.locals) (hRcells : cells + 1 ≤ R.cells) (hRslots : slots + 6 ≤ R.slots) (hlocks : meth.locks = false)
    (hx : ∀ t : State, s.vm.Alike t.vm → H.size ≤ t.heap.size → (∀ q : Nat, q < H.size → t.heap[q]? = H[q]?) → XC cls s t)
    (hf : ∀ z ∈ locs, free z.base) (hc : cells + 1 ≤ mc) (hs : slots + 6 ≤ ms) :
    W p l e R s m args below meth c H locs cells slots (vx_MQ below Qc XC args s mc ms free) (F0 m pc ls rest) := by
  intro T hT X
  have htr : e.platform.stackTraces = false := (show e.platform.stackTraces = l.stackTraces by rw [X.admits.platform]).trans hl
  have Y := vx_rebase X (R' := { frames := R.frames, locals := R.locals, cells := 1, slots := 6 }) (Nat.le_refl _) (Nat.le_refl _) hRcells hRslots
  obtain ⟨s', hA⟩ : ∃ z, z = (T.setVm s.vm).setFrames (.invoking m args :: below) := ⟨_, rfl⟩
  rw [← hA] at Y
  have hvm : s'.vm = s.vm := by rw [hA]; rfl
  have hhp : s'.heap = H := by rw [hA]; exact hT
  have hW0 : s.WarmedH s'.vm := by rw [hvm]; exact State.WarmedH.refl s
  have hat' : ∀ w ∈ vx_at0 own ic cls names, w.before args s' = true := fun w hw => vx_ot_at hW0 hvm.symm (hgood w (List.mem_cons_of_mem _ (List.mem_cons_of_mem _ hw))) (hat w hw)
  have hk' : (Cond.classLink own ik cls).before args s' = true := vx_ot_at hW0 hvm.symm (hgood _ List.mem_cons_self) hk
  have hini' : (Cond.initialized cls).before args s' = true := vx_ot_at hW0 hvm.symm (hgood _ (List.mem_cons_of_mem _ List.mem_cons_self)) hini
  have hU' : vx_Zq Bundle.tN "UNASSIGNED_STACK" Bundle.steD A s' s'.heap := by rw [hhp]; exact vx_Zq.moved hW0.alike (hU.kept hS.2.1)
  have hN' : vx_Zq Bundle.tN "SUPPRESSED_SENTINEL" Bundle.listD A s' s'.heap := by rw [hhp]; exact vx_Zq.moved hW0.alike (hN.kept hS.2.1)
  have h : ∀ w ∈ Bundle.ownAtoms0 own ic cls names, w.before args s' = true := vx_own hat' (vx_isRefq hU'.1) (vx_isRefq hN'.1) hU'.2.word hN'.2.word
  have hown' : s'.vm.findClass own = some m.cls := by rw [hvm]; exact hown
  have hins : (Cond.instantiable cls 6).before args s' = true := h _ (by simp [Bundle.ownAtoms0])
  obtain ⟨vm₁, cX, kX, hfX, hkX, -, -, X₁, st1⟩ := Y.newCold hexec (own := own) (C := cls) (index := ik) (n := 6) hown' hk' hins hini'
    (g := F0 m pc ls rest) rfl (by rw [hb]; exact d0) (Nat.le_refl _) (Nat.le_refl _)
  generalize hT1 : (T.setVm vm₁).pushCell { cls := cX, slots := kX.instanceTypes.map defaultValue, vm := .none } = T1 at X₁ st1
  have hcat : (Value.ref T.heap.size).category = 1 := rfl
  have hcellA : T1.heap[T.heap.size]? = some (freshCell cX kX) := by rw [← hT1]; exact State.heap_pushCell_size _ _
  have d3' : decode c.code (pc + 3) = .ok (.dup, 1) := by rw [hb]; exact d3
  obtain ⟨U, hsteps, hrun, hend, hW, hsame, ce, hce, hO⟩ := X₁.ctorThrow0 hexec htr (own := own) (cls := cls) (names := names) (ic := ic) hown' hcls hnames h (fun x hx => nomatch hx) hfX hkX hcellA (by rw [hhp, hT]; exact Nat.le_refl _)
    (g := { method := m, pc := pc + 4, locals := ls, stack := .ref T.heap.size :: .ref T.heap.size :: rest, locked := none }) rfl hsize rfl rfl (rest := rest) rfl
    (by rw [hb]; exact d4) (by rw [hb]; exact d7) hout hRframes (by simp only [List.map_cons, List.sum_cons, hcat]; omega) hlocks
  obtain ⟨f1, f2⟩ := vx_frame hsame
  rw [hhp] at f1 f2
  have hWs : s.WarmedH U.vm := State.WarmedH.trans hW0 hW
  have hcl : s.vm.findClass cls = some ce.cls := by
    have h9 := hO.cls
    rw [hvm] at h9
    exact h9
  have hall : s.sameButNew ({ U with vm := s.vm } : State) locs mc ms := by
    subst hA
    obtain ⟨e1, e2⟩ := hsame
    rw [State.setFrames_setFrames] at e1
    have h2 : (T.setVm s.vm).sameButNew ({ U with vm := s.vm } : State) [] (0 + 1) (0 + 6) := ⟨e1, e2⟩
    have h3 := X.same.trans h2
    rw [List.append_nil] at h3
    exact h3.mono hc hs
  refine ⟨U, ?_, .threw T.heap.size, hrun, hend, Or.inr ⟨T.heap.size, rfl, cls, ce, locs, hx U hWs.alike f1 (fun q hq => f2 q hq (fun z hz => nomatch hz)), hce, hO.vm, hcl, hWs, hall, hf⟩⟩
  refine st1 _ ?_
  show Steps p.tables e below (T1.setTop { method := m, pc := pc + 3, locals := ls, stack := .ref T.heap.size :: rest, locked := none }) _
  jvm_step X₁.here [X₁.here.top, hexec, d3', Value.category]
  exact hsteps
/-- 'throw new E("text")': new; dup; ldc; invokespecial; athrow -/
theorem vx_throwS {cc : ByteArray} {pc : Nat} (hexec : p.tables.exec = Jvm.exec) (hb : c.code = cc) (hl : l.stackTraces = false) {own cls text : String} {names : List String} {ik is ic mc ms sa : Nat} {A : Nat → Prop}
    (hown : s.vm.findClass own = some m.cls) (hcls : Bundle.fit cls = true) (hnames : ∀ n ∈ names, Bundle.fit n = true)
    (hk : (Cond.classLink own ik cls).before args s = true) (hini : (Cond.initialized cls).before args s = true) (hstr : vk_R own is text sa s) (hat : ∀ w ∈ vx_atS own ic cls names, w.before args s = true)
    (hgood : ∀ w ∈ Cond.classLink own ik cls :: Cond.initialized cls :: vx_atS own ic cls names, vx_ot w = true)
    (hU : vx_Zq Bundle.tN "UNASSIGNED_STACK" Bundle.steD A s s.heap) (hN : vx_Zq Bundle.tN "SUPPRESSED_SENTINEL" Bundle.listD A s s.heap) (hS : va_S A s.heap H locs) (hsize : ls.size = c.maxLocals)
    (d0 : decode cc pc = .ok (.new ik, 3)) (d3 : decode cc (pc + 3) = .ok (.dup, 1)) (d4 : decode cc (pc + 4) = .ok (.ldc is, 2)) (d6 : decode cc (pc + 6) = .ok (.invokespecial ic, 3)) (d9 : decode cc (pc + 9) = .ok (.athrow, 1))
    (hout : ∀ x ∈ c.exceptionTable.toList, covers x (pc + 9) = false)
    (hRframes : names.length + 3 < R.frames) (hRlocals : (rest.map fun v => v.category).sum + (13 * (names.length + 1) + 43) ≤ R.locals) (hRcells : cells + 1 ≤ R.cells) (hRslots : slots + 6 ≤ R.slots) (hlocks : meth.locks = false)
    (hx : ∀ t : State, s.vm.Alike t.vm → H.size ≤ t.heap.size → (∀ q : Nat, q < H.size → t.heap[q]? = H[q]?) → XC cls s t)
    (hf : ∀ z ∈ locs, free z.base) (hc : cells + 1 ≤ mc) (hs : slots + 6 ≤ ms) :
    W p l e R s m args below meth c H locs cells slots (vx_MQ below Qc XC args s mc ms free) (F0 m pc ls rest) := by
  intro T hT X
  have htr : e.platform.stackTraces = false := (show e.platform.stackTraces = l.stackTraces by rw [X.admits.platform]).trans hl
  have Y := vx_rebase X (R' := { frames := R.frames, locals := R.locals, cells := 1, slots := 6 }) (Nat.le_refl _) (Nat.le_refl _) hRcells hRslots
  obtain ⟨s', hA⟩ : ∃ z, z = (T.setVm s.vm).setFrames (.invoking m args :: below) := ⟨_, rfl⟩
  rw [← hA] at Y
  have hvm : s'.vm = s.vm := by rw [hA]; rfl
  have hhp : s'.heap = H := by rw [hA]; exact hT
  have hW0 : s.WarmedH s'.vm := by rw [hvm]; exact State.WarmedH.refl s
  have hat' : ∀ w ∈ vx_atS own ic cls names, w.before args s' = true := fun w hw => vx_ot_at hW0 hvm.symm (hgood w (List.mem_cons_of_mem _ (List.mem_cons_of_mem _ hw))) (hat w hw)
  have hk' : (Cond.classLink own ik cls).before args s' = true := vx_ot_at hW0 hvm.symm (hgood _ List.mem_cons_self) hk
  have hini' : (Cond.initialized cls).before args s' = true := vx_ot_at hW0 hvm.symm (hgood _ (List.mem_cons_of_mem _ List.mem_cons_self)) hini
  have hU' : vx_Zq Bundle.tN "UNASSIGNED_STACK" Bundle.steD A s' s'.heap := by rw [hhp]; exact vx_Zq.moved hW0.alike (hU.kept hS.2.1)
  have hN' : vx_Zq Bundle.tN "SUPPRESSED_SENTINEL" Bundle.listD A s' s'.heap := by rw [hhp]; exact vx_Zq.moved hW0.alike (hN.kept hS.2.1)
  have h : ∀ w ∈ Bundle.ownAtoms own ic cls names, w.before args s' = true := vx_own hat' (vx_isRefq hU'.1) (vx_isRefq hN'.1) hU'.2.word hN'.2.word
  have hown' : s'.vm.findClass own = some m.cls := by rw [hvm]; exact hown
  have hins : (Cond.instantiable cls 6).before args s' = true := h _ (by simp [Bundle.ownAtoms])
  obtain ⟨vm₁, cX, kX, hfX, hkX, -, -, X₁, st1⟩ := Y.newCold hexec (own := own) (C := cls) (index := ik) (n := 6) hown' hk' hins hini'
    (g := F0 m pc ls rest) rfl (by rw [hb]; exact d0) (Nat.le_refl _) (Nat.le_refl _)
  generalize hT1 : (T.setVm vm₁).pushCell { cls := cX, slots := kX.instanceTypes.map defaultValue, vm := .none } = T1 at X₁ st1
  have hcat : (Value.ref T.heap.size).category = 1 := rfl
  have hcellA : T1.heap[T.heap.size]? = some (freshCell cX kX) := by rw [← hT1]; exact State.heap_pushCell_size _ _
  have d3' : decode c.code (pc + 3) = .ok (.dup, 1) := by rw [hb]; exact d3
  have d4' : decode c.code (pc + 4) = .ok (.ldc is, 2) := by rw [hb]; exact d4
  have hstr' : vk_R own is text sa s' := vk_R.warm hW0 hstr
  obtain ⟨U, hsteps, hrun, hend, hW, hsame, ce, hce, hO⟩ := X₁.ctorThrowS hexec htr (own := own) (cls := cls) (names := names) (ic := ic) hown' hcls hnames h (fun x hx => nomatch hx) hfX hkX hcellA (by rw [hhp, hT]; exact Nat.le_refl _) (msg := .ref sa) rfl
    (g := { method := m, pc := pc + 6, locals := ls, stack := .ref sa :: .ref T.heap.size :: .ref T.heap.size :: rest, locked := none }) rfl hsize rfl rfl (rest := rest) rfl
    (by rw [hb]; exact d6) (by rw [hb]; exact d9) hout hRframes (by simp only [List.map_cons, List.sum_cons, hcat]; omega) hlocks
  obtain ⟨f1, f2⟩ := vx_frame hsame
  rw [hhp] at f1 f2
  have hWs : s.WarmedH U.vm := State.WarmedH.trans hW0 hW
  have hcl : s.vm.findClass cls = some ce.cls := by
    have h9 := hO.cls
    rw [hvm] at h9
    exact h9
  have hall : s.sameButNew ({ U with vm := s.vm } : State) locs mc ms := by
    subst hA
    obtain ⟨e1, e2⟩ := hsame
    rw [State.setFrames_setFrames] at e1
    have h2 : (T.setVm s.vm).sameButNew ({ U with vm := s.vm } : State) [] (0 + 1) (0 + 6) := ⟨e1, e2⟩
    have h3 := X.same.trans h2
    rw [List.append_nil] at h3
    exact h3.mono hc hs
  refine ⟨U, ?_, .threw T.heap.size, hrun, hend, Or.inr ⟨T.heap.size, rfl, cls, ce, locs, hx U hWs.alike f1 (fun q hq => f2 q hq (fun z hz => nomatch hz)), hce, hO.vm, hcl, hWs, hall, hf⟩⟩
  refine st1 _ ?_
  show Steps p.tables e below (T1.setTop { method := m, pc := pc + 3, locals := ls, stack := .ref T.heap.size :: rest, locked := none }) _
  jvm_step X₁.here [X₁.here.top, hexec, d3', Value.category]
  exact X₁.ldcString hexec (own := own) (text := text) (index := is) (a := sa) hown' hstr'.1 hstr'.2
    (g := { method := m, pc := pc + 4, locals := ls, stack := .ref T.heap.size :: .ref T.heap.size :: rest, locked := none }) rfl d4' _ hsteps
/-- 'throw new E("text")', the text by a wide index -/
theorem vx_throwSW {cc : ByteArray} {pc : Nat} (hexec : p.tables.exec = Jvm.exec) (hb : c.code = cc) (hl : l.stackTraces = false) {own cls text : String} {names : List String} {ik is ic mc ms sa : Nat} {A : Nat → Prop}
    (hown : s.vm.findClass own = some m.cls) (hcls : Bundle.fit cls = true) (hnames : ∀ n ∈ names, Bundle.fit n = true)
    (hk : (Cond.classLink own ik cls).before args s = true) (hini : (Cond.initialized cls).before args s = true) (hstr : vk_R own is text sa s) (hat : ∀ w ∈ vx_atS own ic cls names, w.before args s = true)
    (hgood : ∀ w ∈ Cond.classLink own ik cls :: Cond.initialized cls :: vx_atS own ic cls names, vx_ot w = true)
    (hU : vx_Zq Bundle.tN "UNASSIGNED_STACK" Bundle.steD A s s.heap) (hN : vx_Zq Bundle.tN "SUPPRESSED_SENTINEL" Bundle.listD A s s.heap) (hS : va_S A s.heap H locs) (hsize : ls.size = c.maxLocals)
    (d0 : decode cc pc = .ok (.new ik, 3)) (d3 : decode cc (pc + 3) = .ok (.dup, 1)) (d4 : decode cc (pc + 4) = .ok (.ldc_w is, 3)) (d7 : decode cc (pc + 7) = .ok (.invokespecial ic, 3)) (d10 : decode cc (pc + 10) = .ok (.athrow, 1))
    (hout : ∀ x ∈ c.exceptionTable.toList, covers x (pc + 10) = false)
    (hRframes : names.length + 3 < R.frames) (hRlocals : (rest.map fun v => v.category).sum + (13 * (names.length + 1) + 43) ≤ R.locals) (hRcells : cells + 1 ≤ R.cells) (hRslots : slots + 6 ≤ R.slots) (hlocks : meth.locks = false)
    (hx : ∀ t : State, s.vm.Alike t.vm → H.size ≤ t.heap.size → (∀ q : Nat, q < H.size → t.heap[q]? = H[q]?) → XC cls s t)
    (hf : ∀ z ∈ locs, free z.base) (hc : cells + 1 ≤ mc) (hs : slots + 6 ≤ ms) :
    W p l e R s m args below meth c H locs cells slots (vx_MQ below Qc XC args s mc ms free) (F0 m pc ls rest) := by
  intro T hT X
  have htr : e.platform.stackTraces = false := (show e.platform.stackTraces = l.stackTraces by rw [X.admits.platform]).trans hl
  have Y := vx_rebase X (R' := { frames := R.frames, locals := R.locals, cells := 1, slots := 6 }) (Nat.le_refl _) (Nat.le_refl _) hRcells hRslots
  obtain ⟨s', hA⟩ : ∃ z, z = (T.setVm s.vm).setFrames (.invoking m args :: below) := ⟨_, rfl⟩
  rw [← hA] at Y
  have hvm : s'.vm = s.vm := by rw [hA]; rfl
  have hhp : s'.heap = H := by rw [hA]; exact hT
  have hW0 : s.WarmedH s'.vm := by rw [hvm]; exact State.WarmedH.refl s
  have hat' : ∀ w ∈ vx_atS own ic cls names, w.before args s' = true := fun w hw => vx_ot_at hW0 hvm.symm (hgood w (List.mem_cons_of_mem _ (List.mem_cons_of_mem _ hw))) (hat w hw)
  have hk' : (Cond.classLink own ik cls).before args s' = true := vx_ot_at hW0 hvm.symm (hgood _ List.mem_cons_self) hk
  have hini' : (Cond.initialized cls).before args s' = true := vx_ot_at hW0 hvm.symm (hgood _ (List.mem_cons_of_mem _ List.mem_cons_self)) hini
  have hU' : vx_Zq Bundle.tN "UNASSIGNED_STACK" Bundle.steD A s' s'.heap := by rw [hhp]; exact vx_Zq.moved hW0.alike (hU.kept hS.2.1)
  have hN' : vx_Zq Bundle.tN "SUPPRESSED_SENTINEL" Bundle.listD A s' s'.heap := by rw [hhp]; exact vx_Zq.moved hW0.alike (hN.kept hS.2.1)
  have h : ∀ w ∈ Bundle.ownAtoms own ic cls names, w.before args s' = true := vx_own hat' (vx_isRefq hU'.1) (vx_isRefq hN'.1) hU'.2.word hN'.2.word
  have hown' : s'.vm.findClass own = some m.cls := by rw [hvm]; exact hown
  have hins : (Cond.instantiable cls 6).before args s' = true := h _ (by simp [Bundle.ownAtoms])
  obtain ⟨vm₁, cX, kX, hfX, hkX, -, -, X₁, st1⟩ := Y.newCold hexec (own := own) (C := cls) (index := ik) (n := 6) hown' hk' hins hini'
    (g := F0 m pc ls rest) rfl (by rw [hb]; exact d0) (Nat.le_refl _) (Nat.le_refl _)
  generalize hT1 : (T.setVm vm₁).pushCell { cls := cX, slots := kX.instanceTypes.map defaultValue, vm := .none } = T1 at X₁ st1
  have hcat : (Value.ref T.heap.size).category = 1 := rfl
  have hcellA : T1.heap[T.heap.size]? = some (freshCell cX kX) := by rw [← hT1]; exact State.heap_pushCell_size _ _
  have d3' : decode c.code (pc + 3) = .ok (.dup, 1) := by rw [hb]; exact d3
  have d4' : decode c.code (pc + 4) = .ok (.ldc_w is, 3) := by rw [hb]; exact d4
  have hstr' : vk_R own is text sa s' := vk_R.warm hW0 hstr
  obtain ⟨U, hsteps, hrun, hend, hW, hsame, ce, hce, hO⟩ := X₁.ctorThrowS hexec htr (own := own) (cls := cls) (names := names) (ic := ic) hown' hcls hnames h (fun x hx => nomatch hx) hfX hkX hcellA (by rw [hhp, hT]; exact Nat.le_refl _) (msg := .ref sa) rfl
    (g := { method := m, pc := pc + 7, locals := ls, stack := .ref sa :: .ref T.heap.size :: .ref T.heap.size :: rest, locked := none }) rfl hsize rfl rfl (rest := rest) rfl
    (by rw [hb]; exact d7) (by rw [hb]; exact d10) hout hRframes (by simp only [List.map_cons, List.sum_cons, hcat]; omega) hlocks
  obtain ⟨f1, f2⟩ := vx_frame hsame
  rw [hhp] at f1 f2
  have hWs : s.WarmedH U.vm := State.WarmedH.trans hW0 hW
  have hcl : s.vm.findClass cls = some ce.cls := by
    have h9 := hO.cls
    rw [hvm] at h9
    exact h9
  have hall : s.sameButNew ({ U with vm := s.vm } : State) locs mc ms := by
    subst hA
    obtain ⟨e1, e2⟩ := hsame
    rw [State.setFrames_setFrames] at e1
    have h2 : (T.setVm s.vm).sameButNew ({ U with vm := s.vm } : State) [] (0 + 1) (0 + 6) := ⟨e1, e2⟩
    have h3 := X.same.trans h2
    rw [List.append_nil] at h3
    exact h3.mono hc hs
  refine ⟨U, ?_, .threw T.heap.size, hrun, hend, Or.inr ⟨T.heap.size, rfl, cls, ce, locs, hx U hWs.alike f1 (fun q hq => f2 q hq (fun z hz => nomatch hz)), hce, hO.vm, hcl, hWs, hall, hf⟩⟩
  refine st1 _ ?_
  show Steps p.tables e below (T1.setTop { method := m, pc := pc + 3, locals := ls, stack := .ref T.heap.size :: rest, locked := none }) _
  jvm_step X₁.here [X₁.here.top, hexec, d3', Value.category]
  exact X₁.ldcStringW hexec (own := own) (text := text) (index := is) (a := sa) hown' hstr'.1 hstr'.2
    (g := { method := m, pc := pc + 4, locals := ls, stack := .ref T.heap.size :: .ref T.heap.size :: rest, locked := none }) rfl d4' _ hsteps
end Ends
section Bodies
variable {l : Launch}
theorem vx_ofW {y : MethodName} {ws ws' : List Cond} {rm : Room} {Pc : Array Value → State → Prop} {Qc : Array Value → State → Outcome → State → Prop} {XC : String → State → State → Prop} {mc ms : Nat} {free : Addr → Prop} {cc : ByteArray} {maxL : Nat} {ret : Option FieldType}
    (hy : plainName y.cls = true) (hw : ws = Cond.code y cc maxL ret :: ws')
    (body : ∀ p e s m args below meth c s₁, BodyLoose p l y (headSpec ws rm) cc maxL ret e s m args below meth c s₁ → c.maxLocals = maxL → (∀ x ∈ c.exceptionTable.toList, False) → Pc args s →
      W p l e (headSpec ws rm).room s m args below meth c s.heap [] 0 0 (vx_MQ below Qc XC args s mc ms free) (entryFrame m args maxL)) : vx_Met l y ws rm Pc Qc XC mc ms free := by
  refine MetFree.of_bodyS (code := cc) (maxLocals := maxL) (ret := ret) hy ?_ ?_
  · intro args s m h hn
    obtain ⟨meth, c, h1, h2, h3, h4, h5, h6, -, -⟩ := Cond.code_spec hn (atoms_spec (ws := ws) h _ (by rw [hw]; exact List.mem_cons_self))
    exact ⟨meth, c, h1, h2, h3, h4, h5, h6⟩
  · intro p e s m args below meth c s₁ B hml hP _
    have hh0 : s₁.heap = s.heap := by rw [B.state]; rfl
    have ht : ∀ x ∈ c.exceptionTable.toList, False := by
      obtain ⟨meth9, c9, h1, h2, -, -, -, -, h7, -⟩ := Cond.code_spec B.named (atoms_spec (ws := ws) B.pre _ (by rw [hw]; exact List.mem_cons_self))
      cases Option.some.inj (h1.symm.trans B.method)
      cases Option.some.inj (h2.symm.trans (Stand.of_body B).code)
      intro x hx
      rw [Array.isEmpty_iff.mp h7] at hx
      cases hx
    obtain ⟨t, a1, o, b1, b2, b3⟩ := body p e s m args below meth c s₁ B hml ht hP s₁ hh0 (Stand.of_body B)
    exact ⟨t, o, a1, b1, b2, b3⟩
/-- the table of a body with handlers -/
theorem vx_table {p : Program} {x y : MethodName} {S : Spec} {cc bytes : ByteArray} {maxL maxL' : Nat} {ret ret' : Option FieldType} {e : Env} {s s₁ : State} {m : MethodId} {args : Array Value} {below : List Frame} {meth : Method} {c : Code} {hh : List (Nat × Nat × Nat × Nat)}
    (B : BodyLoose p l y S cc maxL ret e s m args below meth c s₁) (h : (Cond.codeWith y bytes maxL' ret' hh).before args s = true) : c.exceptionTable.toList = tableOf hh := by
  obtain ⟨m9, meth9, c9, hn9, h1, h2, -, -, h6, -⟩ := Cond.codeWith_spec h
  cases Option.some.inj (hn9.symm.trans B.named)
  cases Option.some.inj (h1.symm.trans B.method)
  cases Option.some.inj (h2.symm.trans (Stand.of_body B).code)
  rw [← h6, table_eq]
end Bodies
end VXA
/-! ===== END ===== -/
/-! ===== BEGIN a static call of a method with an exception table ===== -/
section VXS
variable {p : Program} {l : Launch} {e : Env} {R : Room} {s : State} {m : MethodId} {args : Array Value} {below : List Frame} {meth : Method} {c : Code} {T : State} {H : Heap} {locs : List Loc} {cells slots : Nat}
abbrev vx_CSW (R : Room) (s : State) (args : Array Value) (own : String) (index : Nat) (y : MethodName) (bytes : ByteArray) (maxL : Nat) (ret : Option FieldType) (hh : List (Nat × Nat × Nat × Nat)) (ws : List Cond) (rm : Room) (mc ms n : Nat) : Prop :=
  (rm.cells = mc ∧ rm.slots = ms ∧ rm.frames + 1 ≤ R.frames ∧ 8 + (maxL + 11) + rm.locals ≤ R.locals ∧ (∀ w ∈ ws, ∀ (a' : Array Value) (U : State), s.WarmedH U.vm → w.before a' U = true) ∧ Cond.codeWith y bytes maxL ret hh ∈ ws) ∧
  (Cond.codeWith y bytes maxL ret hh).before args s = true ∧ (Cond.initialized y.cls).before args s = true ∧ (y.cls ≠ "java/lang/invoke/MethodHandle" ∧ y.cls ≠ "java/lang/invoke/VarHandle") ∧
  (∀ sig, parseMethodDescriptor y.desc = some sig → n = sig.parameters.length) ∧ (Cond.methodLink own index y).before args s = true ∧ (Cond.static y).before args s = true
theorem vx_cwSW {own : String} {index maxL mc ms : Nat} {y : MethodName} {bytes : ByteArray} {ret : Option FieldType} {hh : List (Nat × Nat × Nat × Nat)} {Ts ws ws' : List Cond} {rm : Room} (n : Nat) (ht : ∀ w ∈ Ts, w.before args s = true) (hT : GoodIn Ts (va_wsS own index y ws)) (hw : ws = Cond.codeWith y bytes maxL ret hh :: ws') (hrc : rm.cells = mc) (hrs : rm.slots = ms)
    (hd : y.cls ≠ "java/lang/invoke/MethodHandle" ∧ y.cls ≠ "java/lang/invoke/VarHandle" ∧ (parseMethodDescriptor y.desc).map (fun d => d.parameters.length) = some n) (hR : rm.frames + 1 ≤ R.frames ∧ 8 + (maxL + 11) + rm.locals ≤ R.locals) :
    vx_CSW R s args own index y bytes maxL ret hh ws rm mc ms n := by
  have ok : ∀ w ∈ va_wsS own index y ws, w.before args s = true := fun w h => ht w (hT w h).1
  have hG : GoodIn Ts ws := fun w h => hT w (by unfold va_wsS; exact List.mem_append_right _ h)
  have hc : Cond.codeWith y bytes maxL ret hh ∈ ws := by rw [hw]; exact List.mem_cons_self
  refine ⟨⟨hrc, hrs, hR.1, hR.2, pay_in ht hG, hc⟩, ht _ (hG _ hc).1, ok _ (by simp [va_wsS]), ⟨hd.1, hd.2.1⟩, fun sig h => ?_, ok _ (by simp [va_wsS]), ok _ (by simp [va_wsS])⟩
  have h2 := hd.2.2
  rw [h] at h2
  exact (Option.some.inj h2).symm
theorem vx_callSW (X : Stand p l e R s m args below meth c T locs cells slots) (hexec : p.tables.exec = Jvm.exec) {own : String} {index : Nat} {y : MethodName} {bytes : ByteArray} {maxL : Nat} {ret : Option FieldType} {hh : List (Nat × Nat × Nat × Nat)}
    (hown : s.vm.findClass own = some m.cls) (hlink : (Cond.methodLink own index y).before args s = true) (hstat : (Cond.static y).before args s = true) (hinit : (Cond.initialized y.cls).before args s = true)
    (hcode : (Cond.codeWith y bytes maxL ret hh).before args s = true) (hy : y.cls ≠ "java/lang/invoke/MethodHandle" ∧ y.cls ≠ "java/lang/invoke/VarHandle")
    {W9 : Nat} {Pre : Pt → Array Value → Prop} {Post : Pt → Array Value → Option Value → Pt → Prop} (hK : Back l R p e below s args y 3 W9 Pre Post)
    {g : JFrame} (hg : g.method = m) (hsize : g.locals.size = c.maxLocals) {argsL rest : List Value} (hlen : ∀ sig, parseMethodDescriptor y.desc = some sig → argsL.length = sig.parameters.length)
    (hstack : g.stack = argsL.reverse ++ rest) (hW : 2 * g.monitorRoom + (rest.map fun v => v.category).sum ≤ W9) (hdg : decode c.code g.pc = .ok (.invokestatic index, 3))
    (hpre : ∀ vm₁, s.WarmedH vm₁ → Pre ⟨T.setVm vm₁, locs, cells, slots⟩ argsL.toArray) :
    ∃ (v : Option Value) (vm₁ : Vm) (B : Pt), s.WarmedH vm₁ ∧ Stand p l e R s m args below meth c B.U B.locs B.cells B.slots ∧ Post ⟨T.setVm vm₁, locs, cells, slots⟩ argsL.toArray v B ∧
      ∀ target, Steps p.tables e below (B.U.setTop { g with pc := g.pc + 3, stack := v.toList ++ rest }) target → Steps p.tables e below (T.setTop g) target := by
  obtain ⟨mk, methM, cM, hnamed, hmethM, -, -, -, -, -, -, hsigM⟩ := Cond.codeWith_spec hcode
  have hstatic : methM.isStatic = true := Cond.static_spec hnamed hmethM hstat
  obtain ⟨kP, hkP, -⟩ := className_of_methodNamed hnamed
  have hinitP : kP.init = .initialized := Cond.initialized_spec (findClass_of_methodNamed hnamed) hkP hinit
  obtain ⟨vm₁, X₁, hstep₁⟩ := X.invokestatic hexec hown hlink hnamed hmethM hstatic hkP hinitP hy (g := g) hg (argsL := argsL) (rest := rest) (hlen _ hsigM) hstack hdg
  obtain ⟨v, B, X', hpost, hsteps⟩ := hK m meth c ⟨T.setVm vm₁, locs, cells, slots⟩ { g with stack := rest } (.invokestatic index) mk argsL.toArray X₁ hg hsize hdg hW (X₁.named hnamed) (hpre vm₁ X₁.warmed)
  exact ⟨v, vm₁, B, X₁.warmed, X', hpost, fun target h => hstep₁ _ fun acts => by rw [doInvoke_state]; exact hsteps.trans h⟩
theorem vx_runSW {y : MethodName} {bytes cc : ByteArray} {maxL nL mc ms n index : Nat} {ret : Option FieldType} {hh : List (Nat × Nat × Nat × Nat)} {ws : List Cond} {rm : Room} {Pc : Array Value → State → Prop} {Qc : Array Value → State → Outcome → State → Prop} {free : Addr → Prop} {Ts : List Cond} {own : String} {As rest : List Value} {g : JFrame}
    (S : CallFix p m c cc nL s args Ts own) (hM : Met l y ws rm Pc Qc mc ms free) (cw : vx_CSW R s args own index y bytes maxL ret hh ws rm mc ms n) (hp : PreS s H Pc As)
    (hg : g.method = m) (hn : As.length = n) (hsize : g.locals.size = nL) (hstack : g.stack = As.reverse ++ rest) (hW : 2 * g.monitorRoom + (rest.map fun v => v.category).sum ≤ 8) (hdg : decode cc g.pc = .ok (.invokestatic index, 3)) (hf : cells + mc ≤ R.cells ∧ slots + ms ≤ R.slots) :
    va_Run p l e R s m args below meth c H locs cells slots mc ms g rest (Qc As.toArray) (free) := by
  obtain ⟨⟨hrc, hrs, hfr, hlo, hws, hcw⟩, hcode, hini, hy, hlen, hl, hstt⟩ := cw
  have hK : Back l R p e below s args y 3 8 (PreOf R mc ms Pc) (PostOf Qc mc ms free) := va_backW (hh := hh) (bytes := bytes) (maxL := maxL) (ret := ret) hM hp.1 hrc hrs hfr hlo hws hcw (fun a' U hW => word_at hW (Or.inl (by first | rfl | simp [Cond.onTables, Cond.keeps, Cond.steady])) hini)
  obtain ⟨hx, hb, hml, ho, -⟩ := S
  intro T hT X
  obtain ⟨v, vm₁, ⟨U', l2, c2, s2⟩, hW₁, X', ⟨g', mk, t, L, e1, e2, hq, h1, hL, h2, h3⟩, st⟩ := vx_callSW X hx (hh := hh) (bytes := bytes) (maxL := maxL) (ret := ret) ho hl hstt hini hcode hy hK hg (hsize.trans hml.symm) (argsL := As) (rest := rest) (fun sig h => hn.trans (hlen sig h)) hstack hW (by rw [hb]; exact hdg)
    (fun vm₁ hW₁ => ⟨hf.1, hf.2, hp.2 (T.setVm vm₁) hT hW₁⟩)
  dsimp only [Pt.U, Pt.locs, Pt.cells, Pt.slots] at X' e1 e2 h1 h2 h3 st
  subst h1; subst h2; subst h3
  exact ⟨v, (T.setVm vm₁).calling g' mk As.toArray, t, U', L, hT, X', hL, e1, e2, hq, st⟩
/-- not caught here, past rows that name other classes: it goes on to the caller -/
theorem vx_outP {p : Program} {l : Launch} {e : Env} {R : Room} {s : State} {m : MethodId} {args : Array Value} {below : List Frame} {meth : Method} {c : Code} {H : Heap} {locs : List Loc} {cells slots : Nat} {free : Addr → Prop} {ls : Array Slot} {rest : List Value} {Qc : Array Value → State → Outcome → State → Prop} {XC : String → State → State → Prop}
    {pc : Nat} {own E : String} {ce : Cell} {q : Addr} {mc ms : Nat} (hown : s.vm.findClass own = some m.cls) (hlocks : meth.locks = false)
    (hpass : ∀ z ∈ c.exceptionTable.toList, covers z pc = false ∨ (z.catchType ≠ 0 ∧ ∃ nm : String, (Cond.classLink own z.catchType nm).before args s = true ∧ va_Nc E nm s)) (hcell : H[q]? = some ce) (hv : ce.vm = .none) (hcl : s.vm.findClass E = some ce.cls)
    (hx : ∀ t : State, t.heap = H → s.vm.Alike t.vm → XC E s t) (hf : ∀ z ∈ locs, free z.base) (hc : cells ≤ mc) (hs : slots ≤ ms) :
    vx_W p l e R s m args below meth c H locs cells slots (vx_MQ below Qc XC args s mc ms free) (F0 m pc ls rest) q := by
  intro T hT X
  have hpl : e.platform.magicAccessors = ({} : Platform).magicAccessors := by rw [X.admits.platform]
  obtain ⟨vm', hW', X', st⟩ := X.outThrough hlocks q (g := F0 m pc ls rest) rfl rfl rfl (cell := ce) (by rw [hT]; exact hcell) (by rw [hv]; rfl)
    (by obtain ⟨k9, h9, -⟩ := Vm.findClass_spec hcl; exact ⟨k9, h9⟩) (fun z hz => by
      rcases hpass z hz with h | ⟨hz0, nm, hl1, hn1⟩
      · exact Or.inl h
      · obtain ⟨c6, hc6, hcl6⟩ := Cond.classLink_spec hown hl1 e.platform hpl
        obtain ⟨a8, b8, h1, h2, h3⟩ := hn1
        cases Option.some.inj (h1.symm.trans hcl)
        cases Option.some.inj (h2.symm.trans hc6)
        exact Or.inr ⟨hz0, _, hcl6, h3⟩)
  obtain ⟨g₀, hfr⟩ := X'.frames_eq
  have hcell9 : ((T.setVm vm').setFrames (.throwing q :: below)).heap[q]? = some ce := by
    show T.heap[q]? = some ce
    rw [hT]; exact hcell
  have hend : Ended ((T.setVm vm').setFrames (.throwing q :: below)) below (.threw q) := State.frames_setFrames _ (State.cur_lt_of_frames hfr)
  refine ⟨(T.setVm vm').setFrames (.throwing q :: below), ?_, .threw q, X'.here.running, hend, Or.inr ⟨q, rfl, E, ce, locs, hx _ hT (X'.ends _).1.alike, hcell9, hv, hcl, (X'.ends _).1, (X'.ends _).2.mono hc hs, hf⟩⟩
  rw [X.pushThrowing_eq]
  exact st
/-- a thing of a world lies in the heap -/
theorem vx_lt {D : va_G} {cl : List vw_C} {ws : va_W} {H1 : Heap} (h : va_P D cl ws H1) {k : Nat} {q : Nat × va_E} (hk : ws[k]? = some q) : q.1 < H1.size := (h k q hk).lt
end VXS
/-! ===== END ===== -/
/-! ===== BEGIN methods with a table of their own: called by a name, returning or throwing ===== -/
section VXH
/-! vx_backW, vx_callVX, vx_callSX, vx_callVW, vx_runVW, vx_runVX, vx_runSX, vx_ofWH follow the same proofs as their sisters above (Free/Laws.lean, Shelf42/LK1.lean); vx_outP calls Shelf42/NT130.lean (outThrough). -/
section
variable {l : Launch} {R : Room} {p : Program} {e : Env} {below : List Frame} {s : State} {sargs : Array Value} {y : MethodName} {len W9 : Nat}
theorem vx_backW {ws : List Cond} {rm : Room} {Pc : Array Value → State → Prop} {Qc : Array Value → State → Outcome → State → Prop} {XC : String → State → State → Prop} {mc ms : Nat} {free : Addr → Prop} {bytes : ByteArray} {maxL : Nat} {ret : Option FieldType} {hh : List (Nat × Nat × Nat × Nat)}
    (hM : vx_Met l y ws rm Pc Qc XC mc ms free) (hblind : FrameBlind Pc) (hrc : rm.cells = mc) (hrs : rm.slots = ms)
    (hframes : rm.frames + 1 ≤ R.frames) (hlocals : W9 + (maxL + 11) + rm.locals ≤ R.locals)
    (hws : ∀ w ∈ ws, ∀ a' U, s.WarmedH U.vm → w.before a' U = true) (hcode : Cond.codeWith y bytes maxL ret hh ∈ ws) (hinit : ∀ a' U, s.WarmedH U.vm → (Cond.initialized y.cls).before a' U = true) :
    vx_Back l R p e below s sargs y len W9 (PreOf R mc ms Pc) (PostOf Qc mc ms free) (vx_Post XC mc ms free) := by
  intro m meth c A g ig mk a X hg hsize hdg hW hn hp
  have h1 : (headSpec ws rm).pre.before a A.U = true := atoms_intro fun w hw => hws w hw _ _ X.warmed
  have h2 : (Cond.codeWith y bytes maxL ret hh).before a A.U = true := hws _ hcode _ _ X.warmed
  have h3 : (Cond.initialized y.cls).before a A.U = true := hinit _ _ X.warmed
  have h4 : A.cells + (headSpec ws rm).room.cells ≤ R.cells := by rw [show (headSpec ws rm).room.cells = mc from hrc]; exact hp.1
  have h5 : A.slots + (headSpec ws rm).room.slots ≤ R.slots := by rw [show (headSpec ws rm).room.slots = ms from hrs]; exact hp.2.1
  have hPc : Pc a (A.U.calling g mk a) := hblind _ _ _ _ hp.2.2
  obtain ⟨U, Ls, c0, s0⟩ := A
  dsimp only [Pt.U, Pt.locs, Pt.cells, Pt.slots] at h1 h2 h3 h4 h5 X hn hPc ⊢
  obtain ⟨m9, methY, cY, hn9, hmY, hcY, -, hlY, -⟩ := Cond.codeWith_spec h2
  cases Option.some.inj (hn9.symm.trans hn)
  obtain ⟨kY, hkY, -⟩ := className_of_methodNamed hn
  have hinitY : kY.init = .initialized := Cond.initialized_spec (findClass_of_methodNamed hn) hkY h3
  have h : At U g.method c below := by rw [hg]; exact X.here
  have hlocals9 : W9 + (maxL + 11) + (headSpec ws rm).room.locals ≤ R.locals := hlocals
  have happ : (headSpec ws rm).appliesLoose y e.platform (U.calling g mk a) = true :=
    Spec.appliesLoose_calling (g := g) h hdg hn hkY hinitY
      (X.room_calling (g := g) (R' := (headSpec ws rm).room) hsize hmY hcY hframes (by rw [hlY]; omega) h4 h5) h1
  obtain ⟨mid, hmid⟩ := h.above
  have hfr : (U.setTop g).frames = (.java g :: mid) ++ below := by rw [State.frames_setTop' g h.top, hmid]; rfl
  obtain ⟨o, s₂, hsteps, -, hend, hq⟩ := Steps.callFree hM p X.admits X.cas X.clock (acts := []) hfr happ hPc trivial
  have hq' : vx_Q Qc XC mc ms free a (U.calling g mk a) o s₂ := hq
  rw [State.frames_setTop' g h.top] at hend
  obtain ⟨g₀, hg0⟩ := Option.isSome_iff_exists.mp h.top
  obtain ⟨r, hr⟩ := State.topJava?_eq_some.mp hg0
  have hr' : (({ U with heap := s₂.heap, slotsUsed := s₂.slotsUsed } : State).setVm s₂.vm).frames = .java g₀ :: r := hr
  rcases hq' with ⟨hqc, L, hfe, hL⟩ | ⟨q, rfl, E, ce, L, hx, hce, hcv, hcl, hW₂, hsm, hL⟩
  · obtain ⟨⟨v, rfl⟩, hW₂, e2, q2, q3, q4, q5, q6⟩ := id hfe
    have e3 : s₂ = ({ (U.calling g mk a).setFrames s₂.frames with heap := s₂.heap, slotsUsed := s₂.slotsUsed } : State).setVm s₂.vm := by
      have : s₂ = ({ s₂ with vm := (U.calling g mk a).vm } : State).setVm s₂.vm := rfl
      rw [e2] at this
      exact this
    obtain ⟨c₂, i₂, len₂, hc₂, hd₂, hf₂⟩ := hend
    have hW' : U.WarmedH s₂.vm := hW₂
    have hcc : c₂ = c := by
      have h1 : s₂.code? g.method = U.code? g.method := by
        rw [State.code?_eq, State.code?_eq, hW'.alike.method?]
      exact Option.some.inj (hc₂.symm.trans (h1.trans h.code))
    subst hcc
    have hlen : len₂ = len := by rw [hdg] at hd₂; cases hd₂; rfl
    subst hlen
    have hs₂ : s₂ = (({ U with heap := s₂.heap, slotsUsed := s₂.slotsUsed } : State).setVm s₂.vm).setTop { g with pc := g.pc + len₂, stack := v.toList ++ g.stack } := by
      refine e3.trans ?_
      rw [hf₂, State.calling_eq h.top, State.setFrames_setFrames, State.setTop_of_frames _ hr', hr]
      rfl
    have hsame : U.sameButNew ({ U with heap := s₂.heap, slotsUsed := s₂.slotsUsed } : State) L mc ms := by
      refine ⟨?_, q2, q3, q4, q5, q6⟩
      obtain ⟨t, ht, -⟩ := State.frames_cons hr
      show ({ U with heap := s₂.heap, slotsUsed := s₂.slotsUsed } : State) = { U.setFrames U.frames with heap := s₂.heap, slotsUsed := s₂.slotsUsed }
      rw [State.setFrames_self ht]
    subst hg
    refine Or.inl ⟨v, ⟨(({ U with heap := s₂.heap, slotsUsed := s₂.slotsUsed } : State).setVm s₂.vm), Ls ++ L, c0 + mc, s0 + ms⟩,
      ⟨X.admits, X.cas, X.clock, X.frames, X.room, X.hears, X.method, X.code, (X.here.setHeapUsed s₂.heap s₂.slotsUsed).setVm hW'.alike, X.tail, State.WarmedH.trans X.warmed hW', X.limits, X.bytes, X.same.trans (hsame.setVm s.vm)⟩,
      ⟨g, mk, s₂, L, rfl, rfl, hqc, rfl, hL, rfl, rfl⟩, ?_⟩
    show Steps p.tables e below _ ((({ U with heap := s₂.heap, slotsUsed := s₂.slotsUsed } : State).setVm s₂.vm).setTop { g with pc := g.pc + len₂, stack := v.toList ++ g.stack })
    rw [← hs₂]
    exact hsteps
  · obtain ⟨e2, q2, q3, q4, q5, q6⟩ := id hsm
    have e3 : s₂ = ({ (U.calling g mk a).setFrames s₂.frames with heap := s₂.heap, slotsUsed := s₂.slotsUsed } : State).setVm s₂.vm := by
      have : s₂ = ({ s₂ with vm := (U.calling g mk a).vm } : State).setVm s₂.vm := rfl
      rw [e2] at this
      exact this
    have hf₂ : s₂.frames = .throwing q :: .java g :: U.frames.tail := hend
    have hW' : U.WarmedH s₂.vm := hW₂
    have hs₂ : s₂ = ((({ U with heap := s₂.heap, slotsUsed := s₂.slotsUsed } : State).setVm s₂.vm).setTop g).pushFrame (.throwing q) := by
      refine e3.trans ?_
      rw [hf₂, State.calling_eq h.top, State.setFrames_setFrames, State.pushFrame, State.frames_setTop _ hr', State.setTop_of_frames _ hr', State.setFrames_setFrames, hr]
      rfl
    have hsame : U.sameButNew ({ U with heap := s₂.heap, slotsUsed := s₂.slotsUsed } : State) L mc ms := by
      refine ⟨?_, q2, q3, q4, q5, q6⟩
      obtain ⟨t, ht, -⟩ := State.frames_cons hr
      show ({ U with heap := s₂.heap, slotsUsed := s₂.slotsUsed } : State) = { U.setFrames U.frames with heap := s₂.heap, slotsUsed := s₂.slotsUsed }
      rw [State.setFrames_self ht]
    subst hg
    refine Or.inr ⟨q, ⟨(({ U with heap := s₂.heap, slotsUsed := s₂.slotsUsed } : State).setVm s₂.vm), Ls ++ L, c0 + mc, s0 + ms⟩,
      ⟨X.admits, X.cas, X.clock, X.frames, X.room, X.hears, X.method, X.code, (X.here.setHeapUsed s₂.heap s₂.slotsUsed).setVm hW'.alike, X.tail, State.WarmedH.trans X.warmed hW', X.limits, X.bytes, X.same.trans (hsame.setVm s.vm)⟩,
      ⟨g, mk, s₂, L, E, ce, rfl, rfl, hx, hce, hcv, hcl, rfl, hL, rfl, rfl⟩, ?_⟩
    show Steps p.tables e below _ (((({ U with heap := s₂.heap, slotsUsed := s₂.slotsUsed } : State).setVm s₂.vm).setTop g).pushFrame (.throwing q))
    rw [← hs₂]
    exact hsteps
end
variable {p : Program} {l : Launch} {e : Env} {R : Room} {s : State} {m : MethodId} {args : Array Value} {below : List Frame} {meth : Method} {c : Code} {T : State} {H : Heap} {locs : List Loc} {cells slots : Nat}
theorem vx_callVX (X : Stand p l e R s m args below meth c T locs cells slots) (hexec : p.tables.exec = Jvm.exec) {own C : String} {index : Nat} {y : MethodName} {bytes : ByteArray} {maxL : Nat} {ret : Option FieldType} {hh : List (Nat × Nat × Nat × Nat)}
    (hown : s.vm.findClass own = some m.cls) (hlink : (Cond.methodLink own index y).before args s = true) (hinst : (Cond.instanceMethod y).before args s = true) (hsel : (Cond.selects C y y).before args s = true)
    (hcode : (Cond.codeWith y bytes maxL ret hh).before args s = true) (hy : y.cls ≠ "java/lang/invoke/MethodHandle" ∧ y.cls ≠ "java/lang/invoke/VarHandle")
    {W9 : Nat} {Pre : Pt → Array Value → Prop} {Post : Pt → Array Value → Option Value → Pt → Prop} {PostX : Pt → Array Value → Addr → Pt → Prop} (hK : vx_Back l R p e below s args y 3 W9 Pre Post PostX)
    {b : Addr} {cellB : Cell} (hcell : T.heap[b]? = some cellB) (hobj : cellB.vm.isStatics = false) (hcls : s.vm.findClass C = some cellB.cls)
    {g : JFrame} (hg : g.method = m) (hsize : g.locals.size = c.maxLocals) {argsL rest : List Value} (hlen : ∀ sig, parseMethodDescriptor y.desc = some sig → argsL.length = sig.parameters.length)
    (hstack : g.stack = argsL.reverse ++ .ref b :: rest) (hW : 2 * g.monitorRoom + (rest.map fun v => v.category).sum ≤ W9) (hdg : decode c.code g.pc = .ok (.invokevirtual index, 3))
    (hpre : ∀ vm₁, s.WarmedH vm₁ → Pre ⟨T.setVm vm₁, locs, cells, slots⟩ (Value.ref b :: argsL).toArray) :
    (∃ (v : Option Value) (vm₁ : Vm) (B : Pt), s.WarmedH vm₁ ∧ Stand p l e R s m args below meth c B.U B.locs B.cells B.slots ∧ Post ⟨T.setVm vm₁, locs, cells, slots⟩ (Value.ref b :: argsL).toArray v B ∧
      ∀ target, Steps p.tables e below (B.U.setTop { g with pc := g.pc + 3, stack := v.toList ++ rest }) target → Steps p.tables e below (T.setTop g) target) ∨
    (∃ (q : Addr) (vm₁ : Vm) (B : Pt), s.WarmedH vm₁ ∧ Stand p l e R s m args below meth c B.U B.locs B.cells B.slots ∧ PostX ⟨T.setVm vm₁, locs, cells, slots⟩ (Value.ref b :: argsL).toArray q B ∧
      Steps p.tables e below (T.setTop g) ((B.U.setTop { g with stack := rest }).pushFrame (.throwing q))) := by
  obtain ⟨mk, methM, hnamed, hmethM, hstM, habM⟩ := Cond.instanceMethod_spec hinst
  obtain ⟨m8, methM', cM, hn8, hmethM', -, -, -, -, -, -, hsigM⟩ := Cond.codeWith_spec hcode
  cases Option.some.inj (hn8.symm.trans hnamed)
  cases hmethM.symm.trans hmethM'
  obtain ⟨c2, r2, m2, q1, q2, q3, q4, kP, hkP, hkPi⟩ := Cond.selects_spec hsel
  cases hcls.symm.trans q1
  cases (State.methodFound?_of_named hnamed hy).symm.trans q2
  cases hnamed.symm.trans q3
  have hselP : selectMethod e.platform s.vm cellB.cls mk = .method mk := by rw [Launch.admits_selectMethod X.admits]; exact q4
  obtain ⟨vm₁, X₁, hstep₁⟩ := X.invokevirtual hexec hown hlink hnamed hmethM hstM hkP hkPi hy (a := b) (cell := cellB) hcell
    (fun z h => by rw [h] at hobj; cases hobj) hselP hmethM habM hkP hkPi (g := g) hg (argsL := argsL) (rest := rest) (hlen _ hsigM) hstack hdg
  rcases hK m meth c ⟨T.setVm vm₁, locs, cells, slots⟩ { g with stack := rest } (.invokevirtual index) mk (Value.ref b :: argsL).toArray X₁ hg hsize hdg hW (X₁.named hnamed) (hpre vm₁ X₁.warmed) with ⟨v, B, X', hpost, hsteps⟩ | ⟨q, B, X', hpost, hsteps⟩
  · exact Or.inl ⟨v, vm₁, B, X₁.warmed, X', hpost, fun target h => hstep₁ _ fun acts => by rw [doInvoke_state]; exact hsteps.trans h⟩
  · exact Or.inr ⟨q, vm₁, B, X₁.warmed, X', hpost, hstep₁ _ fun acts => by rw [doInvoke_state]; exact hsteps⟩
theorem vx_callSX (X : Stand p l e R s m args below meth c T locs cells slots) (hexec : p.tables.exec = Jvm.exec) {own : String} {index : Nat} {y : MethodName} {bytes : ByteArray} {maxL : Nat} {ret : Option FieldType} {hh : List (Nat × Nat × Nat × Nat)}
    (hown : s.vm.findClass own = some m.cls) (hlink : (Cond.methodLink own index y).before args s = true) (hstat : (Cond.static y).before args s = true) (hinit : (Cond.initialized y.cls).before args s = true)
    (hcode : (Cond.codeWith y bytes maxL ret hh).before args s = true) (hy : y.cls ≠ "java/lang/invoke/MethodHandle" ∧ y.cls ≠ "java/lang/invoke/VarHandle")
    {W9 : Nat} {Pre : Pt → Array Value → Prop} {Post : Pt → Array Value → Option Value → Pt → Prop} {PostX : Pt → Array Value → Addr → Pt → Prop} (hK : vx_Back l R p e below s args y 3 W9 Pre Post PostX)
    {g : JFrame} (hg : g.method = m) (hsize : g.locals.size = c.maxLocals) {argsL rest : List Value} (hlen : ∀ sig, parseMethodDescriptor y.desc = some sig → argsL.length = sig.parameters.length)
    (hstack : g.stack = argsL.reverse ++ rest) (hW : 2 * g.monitorRoom + (rest.map fun v => v.category).sum ≤ W9) (hdg : decode c.code g.pc = .ok (.invokestatic index, 3))
    (hpre : ∀ vm₁, s.WarmedH vm₁ → Pre ⟨T.setVm vm₁, locs, cells, slots⟩ argsL.toArray) :
    (∃ (v : Option Value) (vm₁ : Vm) (B : Pt), s.WarmedH vm₁ ∧ Stand p l e R s m args below meth c B.U B.locs B.cells B.slots ∧ Post ⟨T.setVm vm₁, locs, cells, slots⟩ argsL.toArray v B ∧
      ∀ target, Steps p.tables e below (B.U.setTop { g with pc := g.pc + 3, stack := v.toList ++ rest }) target → Steps p.tables e below (T.setTop g) target) ∨
    (∃ (q : Addr) (vm₁ : Vm) (B : Pt), s.WarmedH vm₁ ∧ Stand p l e R s m args below meth c B.U B.locs B.cells B.slots ∧ PostX ⟨T.setVm vm₁, locs, cells, slots⟩ argsL.toArray q B ∧
      Steps p.tables e below (T.setTop g) ((B.U.setTop { g with stack := rest }).pushFrame (.throwing q))) := by
  obtain ⟨mk, methM, cM, hnamed, hmethM, -, -, -, -, -, -, hsigM⟩ := Cond.codeWith_spec hcode
  have hstatic : methM.isStatic = true := Cond.static_spec hnamed hmethM hstat
  obtain ⟨kP, hkP, -⟩ := className_of_methodNamed hnamed
  have hinitP : kP.init = .initialized := Cond.initialized_spec (findClass_of_methodNamed hnamed) hkP hinit
  obtain ⟨vm₁, X₁, hstep₁⟩ := X.invokestatic hexec hown hlink hnamed hmethM hstatic hkP hinitP hy (g := g) hg (argsL := argsL) (rest := rest) (hlen _ hsigM) hstack hdg
  rcases hK m meth c ⟨T.setVm vm₁, locs, cells, slots⟩ { g with stack := rest } (.invokestatic index) mk argsL.toArray X₁ hg hsize hdg hW (X₁.named hnamed) (hpre vm₁ X₁.warmed) with ⟨v, B, X', hpost, hsteps⟩ | ⟨q, B, X', hpost, hsteps⟩
  · exact Or.inl ⟨v, vm₁, B, X₁.warmed, X', hpost, fun target h => hstep₁ _ fun acts => by rw [doInvoke_state]; exact hsteps.trans h⟩
  · exact Or.inr ⟨q, vm₁, B, X₁.warmed, X', hpost, hstep₁ _ fun acts => by rw [doInvoke_state]; exact hsteps⟩
theorem vx_callVW (X : Stand p l e R s m args below meth c T locs cells slots) (hexec : p.tables.exec = Jvm.exec) {own C : String} {index : Nat} {y : MethodName} {bytes : ByteArray} {maxL : Nat} {ret : Option FieldType} {hh : List (Nat × Nat × Nat × Nat)}
    (hown : s.vm.findClass own = some m.cls) (hlink : (Cond.methodLink own index y).before args s = true) (hinst : (Cond.instanceMethod y).before args s = true) (hsel : (Cond.selects C y y).before args s = true)
    (hcode : (Cond.codeWith y bytes maxL ret hh).before args s = true) (hy : y.cls ≠ "java/lang/invoke/MethodHandle" ∧ y.cls ≠ "java/lang/invoke/VarHandle")
    {W9 : Nat} {Pre : Pt → Array Value → Prop} {Post : Pt → Array Value → Option Value → Pt → Prop} (hK : Back l R p e below s args y 3 W9 Pre Post)
    {b : Addr} {cellB : Cell} (hcell : T.heap[b]? = some cellB) (hobj : cellB.vm.isStatics = false) (hcls : s.vm.findClass C = some cellB.cls)
    {g : JFrame} (hg : g.method = m) (hsize : g.locals.size = c.maxLocals) {argsL rest : List Value} (hlen : ∀ sig, parseMethodDescriptor y.desc = some sig → argsL.length = sig.parameters.length)
    (hstack : g.stack = argsL.reverse ++ .ref b :: rest) (hW : 2 * g.monitorRoom + (rest.map fun v => v.category).sum ≤ W9) (hdg : decode c.code g.pc = .ok (.invokevirtual index, 3))
    (hpre : ∀ vm₁, s.WarmedH vm₁ → Pre ⟨T.setVm vm₁, locs, cells, slots⟩ (Value.ref b :: argsL).toArray) :
    ∃ (v : Option Value) (vm₁ : Vm) (B : Pt), s.WarmedH vm₁ ∧ Stand p l e R s m args below meth c B.U B.locs B.cells B.slots ∧ Post ⟨T.setVm vm₁, locs, cells, slots⟩ (Value.ref b :: argsL).toArray v B ∧
      ∀ target, Steps p.tables e below (B.U.setTop { g with pc := g.pc + 3, stack := v.toList ++ rest }) target → Steps p.tables e below (T.setTop g) target := by
  obtain ⟨mk, methM, hnamed, hmethM, hstM, habM⟩ := Cond.instanceMethod_spec hinst
  obtain ⟨m8, methM', cM, hn8, hmethM', -, -, -, -, -, -, hsigM⟩ := Cond.codeWith_spec hcode
  cases Option.some.inj (hn8.symm.trans hnamed)
  cases hmethM.symm.trans hmethM'
  obtain ⟨c2, r2, m2, q1, q2, q3, q4, kP, hkP, hkPi⟩ := Cond.selects_spec hsel
  cases hcls.symm.trans q1
  cases (State.methodFound?_of_named hnamed hy).symm.trans q2
  cases hnamed.symm.trans q3
  have hselP : selectMethod e.platform s.vm cellB.cls mk = .method mk := by rw [Launch.admits_selectMethod X.admits]; exact q4
  obtain ⟨vm₁, X₁, hstep₁⟩ := X.invokevirtual hexec hown hlink hnamed hmethM hstM hkP hkPi hy (a := b) (cell := cellB) hcell
    (fun z h => by rw [h] at hobj; cases hobj) hselP hmethM habM hkP hkPi (g := g) hg (argsL := argsL) (rest := rest) (hlen _ hsigM) hstack hdg
  obtain ⟨v, B, X', hpost, hsteps⟩ := hK m meth c ⟨T.setVm vm₁, locs, cells, slots⟩ { g with stack := rest } (.invokevirtual index) mk (Value.ref b :: argsL).toArray X₁ hg hsize hdg hW (X₁.named hnamed) (hpre vm₁ X₁.warmed)
  exact ⟨v, vm₁, B, X₁.warmed, X', hpost, fun target h => hstep₁ _ fun acts => by rw [doInvoke_state]; exact hsteps.trans h⟩
abbrev vx_CVW (R : Room) (s : State) (args : Array Value) (own C : String) (index : Nat) (y : MethodName) (bytes : ByteArray) (maxL : Nat) (ret : Option FieldType) (hh : List (Nat × Nat × Nat × Nat)) (ws : List Cond) (rm : Room) (mc ms n : Nat) : Prop :=
  (rm.cells = mc ∧ rm.slots = ms ∧ rm.frames + 1 ≤ R.frames ∧ 8 + (maxL + 11) + rm.locals ≤ R.locals ∧ (∀ w ∈ ws, ∀ (a' : Array Value) (U : State), s.WarmedH U.vm → w.before a' U = true) ∧ Cond.codeWith y bytes maxL ret hh ∈ ws) ∧
  (Cond.codeWith y bytes maxL ret hh).before args s = true ∧ (Cond.initialized y.cls).before args s = true ∧ (y.cls ≠ "java/lang/invoke/MethodHandle" ∧ y.cls ≠ "java/lang/invoke/VarHandle") ∧
  (∀ sig, parseMethodDescriptor y.desc = some sig → n = sig.parameters.length) ∧ (Cond.methodLink own index y).before args s = true ∧ (Cond.instanceMethod y).before args s = true ∧ (Cond.selects C y y).before args s = true
theorem vx_cwVW {own C : String} {index maxL mc ms : Nat} {y : MethodName} {bytes : ByteArray} {ret : Option FieldType} {hh : List (Nat × Nat × Nat × Nat)} {Ts ws ws' : List Cond} {rm : Room} (n : Nat) (ht : ∀ w ∈ Ts, w.before args s = true) (hT : GoodIn Ts (wsV own index C y ws)) (hw : ws = Cond.codeWith y bytes maxL ret hh :: ws') (hrc : rm.cells = mc) (hrs : rm.slots = ms)
    (hd : y.cls = C ∧ y.cls ≠ "java/lang/invoke/MethodHandle" ∧ y.cls ≠ "java/lang/invoke/VarHandle" ∧ (parseMethodDescriptor y.desc).map (fun d => d.parameters.length) = some n) (hR : rm.frames + 1 ≤ R.frames ∧ 8 + (maxL + 11) + rm.locals ≤ R.locals) :
    vx_CVW R s args own C index y bytes maxL ret hh ws rm mc ms n := by
  obtain ⟨hC, hd⟩ := hd
  subst hC
  have ok : ∀ w ∈ wsV own index y.cls y ws, w.before args s = true := fun w h => ht w (hT w h).1
  have hG : GoodIn Ts ws := fun w h => hT w (by unfold wsV; exact List.mem_append_right _ h)
  have hc : Cond.codeWith y bytes maxL ret hh ∈ ws := by rw [hw]; exact List.mem_cons_self
  refine ⟨⟨hrc, hrs, hR.1, hR.2, pay_in ht hG, hc⟩, ht _ (hG _ hc).1, ok _ (by simp [wsV]), ⟨hd.1, hd.2.1⟩, fun sig h => ?_, ok _ (by simp [wsV]), ok _ (by simp [wsV]), ok _ (by simp [wsV])⟩
  have h2 := hd.2.2
  rw [h] at h2
  exact (Option.some.inj h2).symm
theorem vx_runVW {y : MethodName} {bytes cc : ByteArray} {maxL nL mc ms n index : Nat} {ret : Option FieldType} {hh : List (Nat × Nat × Nat × Nat)} {ws : List Cond} {rm : Room} {Pc : Array Value → State → Prop} {Qc : Array Value → State → Outcome → State → Prop} {free : Addr → Prop} {Ts : List Cond} {own C : String} {b : Addr} {As rest : List Value} {g : JFrame}
    (S : CallFix p m c cc nL s args Ts own) (hM : Met l y ws rm Pc Qc mc ms free) (cw : vx_CVW R s args own C index y bytes maxL ret hh ws rm mc ms n) (hp : PreV s H C b Pc As)
    (hg : g.method = m) (hn : As.length = n) (hsize : g.locals.size = nL) (hstack : g.stack = As.reverse ++ .ref b :: rest) (hW : 2 * g.monitorRoom + (rest.map fun v => v.category).sum ≤ 8) (hdg : decode cc g.pc = .ok (.invokevirtual index, 3)) (hf : cells + mc ≤ R.cells ∧ slots + ms ≤ R.slots) :
    va_Run p l e R s m args below meth c H locs cells slots mc ms g rest (Qc (Value.ref b :: As).toArray) free := by
  obtain ⟨⟨hrc, hrs, hfr, hlo, hws, hcw⟩, hcode, hini, hy, hlen, hl, hin, hse⟩ := cw
  have hK : Back l R p e below s args y 3 8 (PreOf R mc ms Pc) (PostOf Qc mc ms free) := va_backW (hh := hh) (bytes := bytes) (maxL := maxL) (ret := ret) hM hp.1 hrc hrs hfr hlo hws hcw (fun a' U hW => word_at hW (Or.inl (by first | rfl | simp [Cond.onTables, Cond.keeps, Cond.steady])) hini)
  obtain ⟨hx, hb, hml, ho, -⟩ := S
  obtain ⟨-, ⟨cellB, hcB, hoB, hclB⟩, hPc⟩ := hp
  intro T hT X
  obtain ⟨v, vm₁, ⟨U', l2, c2, s2⟩, hW₁, X', ⟨g', mk, t, L, e1, e2, hq, h1, hL, h2, h3⟩, st⟩ := vx_callVW X hx (C := C) (hh := hh) (bytes := bytes) (maxL := maxL) (ret := ret) ho hl hin hse hcode hy hK (by rw [hT]; exact hcB) hoB hclB hg (hsize.trans hml.symm) (argsL := As) (rest := rest) (fun sig h => hn.trans (hlen sig h)) hstack hW (by rw [hb]; exact hdg)
    (fun vm₁ hW₁ => ⟨hf.1, hf.2, hPc (T.setVm vm₁) hT hW₁⟩)
  dsimp only [Pt.U, Pt.locs, Pt.cells, Pt.slots] at X' e1 e2 h1 h2 h3 st
  subst h1; subst h2; subst h3
  exact ⟨v, (T.setVm vm₁).calling g' mk (Value.ref b :: As).toArray, t, U', L, hT, X', hL, e1, e2, hq, st⟩
section
variable {y : MethodName} {bytes cc : ByteArray} {maxL nL mc ms n index : Nat} {ret : Option FieldType} {ws : List Cond} {rm : Room} {Pc : Array Value → State → Prop} {Qc : Array Value → State → Outcome → State → Prop} {XC : String → State → State → Prop} {free : Addr → Prop} {Ts : List Cond} {own C : String} {b : Addr} {As rest : List Value} {g : JFrame}
theorem vx_runVX {hh : List (Nat × Nat × Nat × Nat)} (S : CallFix p m c cc nL s args Ts own) (hM : vx_Met l y ws rm Pc Qc XC mc ms free) (cw : vx_CVW R s args own C index y bytes maxL ret hh ws rm mc ms n) (hp : PreV s H C b Pc As)
    (hg : g.method = m) (hn : As.length = n) (hsize : g.locals.size = nL) (hstack : g.stack = As.reverse ++ .ref b :: rest) (hW : 2 * g.monitorRoom + (rest.map fun v => v.category).sum ≤ 8) (hdg : decode cc g.pc = .ok (.invokevirtual index, 3)) (hf : cells + mc ≤ R.cells ∧ slots + ms ≤ R.slots) :
    vx_Run p l e R s m args below meth c H locs cells slots mc ms g rest (Qc (Value.ref b :: As).toArray) XC free := by
  obtain ⟨⟨hrc, hrs, hfr, hlo, hws, hcw⟩, hcode, hini, hy, hlen, hl, hin, hse⟩ := cw
  have hK : vx_Back l R p e below s args y 3 8 (PreOf R mc ms Pc) (PostOf Qc mc ms free) (vx_Post XC mc ms free) := vx_backW (hh := hh) (bytes := bytes) (maxL := maxL) (ret := ret) hM hp.1 hrc hrs hfr hlo hws hcw (fun a' U hW => word_at hW (Or.inl (by first | rfl | simp [Cond.onTables, Cond.keeps, Cond.steady])) hini)
  obtain ⟨hx, hb, hml, ho, -⟩ := S
  obtain ⟨-, ⟨cellB, hcB, hoB, hclB⟩, hPc⟩ := hp
  intro T hT X
  rcases vx_callVX X hx (C := C) (hh := hh) (bytes := bytes) (maxL := maxL) (ret := ret) ho hl hin hse hcode hy hK (by rw [hT]; exact hcB) hoB hclB hg (hsize.trans hml.symm) (argsL := As) (rest := rest) (fun sig h => hn.trans (hlen sig h)) hstack hW (by rw [hb]; exact hdg)
    (fun vm₁ hW₁ => ⟨hf.1, hf.2, hPc (T.setVm vm₁) hT hW₁⟩) with ⟨v, vm₁, ⟨U', l2, c2, s2⟩, hW₁, X', ⟨g', mk, t, L, e1, e2, hq, h1, hL, h2, h3⟩, st⟩ | ⟨q, vm₁, ⟨U', l2, c2, s2⟩, hW₁, X', ⟨g', mk, t, L, E, ce, e1, e2, hq, hce, hcv, hcl, h1, hL, h2, h3⟩, st⟩
  · dsimp only [Pt.U, Pt.locs, Pt.cells, Pt.slots] at X' e1 e2 h1 h2 h3 st
    subst h1; subst h2; subst h3
    exact Or.inl ⟨v, (T.setVm vm₁).calling g' mk (Value.ref b :: As).toArray, t, U', L, hT, X', hL, e1, e2, hq, st⟩
  · dsimp only [Pt.U, Pt.locs, Pt.cells, Pt.slots] at X' e1 e2 h1 h2 h3 st hcl
    subst h1; subst h2; subst h3
    exact Or.inr ⟨q, (T.setVm vm₁).calling g' mk (Value.ref b :: As).toArray, t, U', L, E, ce, hT, X', hL, e1, e2, hq, hce, hcv, vx_cls hW₁ hcl, st⟩
theorem vx_runSX {hh : List (Nat × Nat × Nat × Nat)} (S : CallFix p m c cc nL s args Ts own) (hM : vx_Met l y ws rm Pc Qc XC mc ms free) (cw : vx_CSW R s args own index y bytes maxL ret hh ws rm mc ms n) (hp : PreS s H Pc As)
    (hg : g.method = m) (hn : As.length = n) (hsize : g.locals.size = nL) (hstack : g.stack = As.reverse ++ rest) (hW : 2 * g.monitorRoom + (rest.map fun v => v.category).sum ≤ 8) (hdg : decode cc g.pc = .ok (.invokestatic index, 3)) (hf : cells + mc ≤ R.cells ∧ slots + ms ≤ R.slots) :
    vx_Run p l e R s m args below meth c H locs cells slots mc ms g rest (Qc As.toArray) XC free := by
  obtain ⟨⟨hrc, hrs, hfr, hlo, hws, hcw⟩, hcode, hini, hy, hlen, hl, hstt⟩ := cw
  have hK : vx_Back l R p e below s args y 3 8 (PreOf R mc ms Pc) (PostOf Qc mc ms free) (vx_Post XC mc ms free) := vx_backW (hh := hh) (bytes := bytes) (maxL := maxL) (ret := ret) hM hp.1 hrc hrs hfr hlo hws hcw (fun a' U hW => word_at hW (Or.inl (by first | rfl | simp [Cond.onTables, Cond.keeps, Cond.steady])) hini)
  obtain ⟨hx, hb, hml, ho, -⟩ := S
  intro T hT X
  rcases vx_callSX X hx (hh := hh) (bytes := bytes) (maxL := maxL) (ret := ret) ho hl hstt hini hcode hy hK hg (hsize.trans hml.symm) (argsL := As) (rest := rest) (fun sig h => hn.trans (hlen sig h)) hstack hW (by rw [hb]; exact hdg)
    (fun vm₁ hW₁ => ⟨hf.1, hf.2, hp.2 (T.setVm vm₁) hT hW₁⟩) with ⟨v, vm₁, ⟨U', l2, c2, s2⟩, hW₁, X', ⟨g', mk, t, L, e1, e2, hq, h1, hL, h2, h3⟩, st⟩ | ⟨q, vm₁, ⟨U', l2, c2, s2⟩, hW₁, X', ⟨g', mk, t, L, E, ce, e1, e2, hq, hce, hcv, hcl, h1, hL, h2, h3⟩, st⟩
  · dsimp only [Pt.U, Pt.locs, Pt.cells, Pt.slots] at X' e1 e2 h1 h2 h3 st
    subst h1; subst h2; subst h3
    exact Or.inl ⟨v, (T.setVm vm₁).calling g' mk As.toArray, t, U', L, hT, X', hL, e1, e2, hq, st⟩
  · dsimp only [Pt.U, Pt.locs, Pt.cells, Pt.slots] at X' e1 e2 h1 h2 h3 st hcl
    subst h1; subst h2; subst h3
    exact Or.inr ⟨q, (T.setVm vm₁).calling g' mk As.toArray, t, U', L, E, ce, hT, X', hL, e1, e2, hq, hce, hcv, vx_cls hW₁ hcl, st⟩
end
end VXH
theorem vx_ofWH {l : Launch} {y : MethodName} {ws ws' : List Cond} {rm : Room} {Pc : Array Value → State → Prop} {Qc : Array Value → State → Outcome → State → Prop} {XC : String → State → State → Prop} {mc ms : Nat} {free : Addr → Prop} {cc : ByteArray} {maxL : Nat} {ret : Option FieldType} {hh : List (Nat × Nat × Nat × Nat)}
    (hy : plainName y.cls = true) (hw : ws = Cond.codeWith y cc maxL ret hh :: ws')
    (body : ∀ p e s m args below meth c s₁, BodyLoose p l y (headSpec ws rm) cc maxL ret e s m args below meth c s₁ → c.maxLocals = maxL → Pc args s →
      W p l e (headSpec ws rm).room s m args below meth c s.heap [] 0 0 (vx_MQ below Qc XC args s mc ms free) (entryFrame m args maxL)) : vx_Met l y ws rm Pc Qc XC mc ms free := by
  refine MetFree.of_bodyS (code := cc) (maxLocals := maxL) (ret := ret) hy ?_ ?_
  · intro args s m h hn
    obtain ⟨m9, meth, c, hn9, h1, h2, h3, h4, -, h5, h6, -⟩ := Cond.codeWith_spec (atoms_spec (ws := ws) h _ (by rw [hw]; exact List.mem_cons_self))
    cases hn.symm.trans hn9
    exact ⟨meth, c, h1, h2, h3, h4, h5, h6⟩
  · intro p e s m args below meth c s₁ B hml hP _
    have hh0 : s₁.heap = s.heap := by rw [B.state]; rfl
    obtain ⟨t, a1, o, b1, b2, b3⟩ := body p e s m args below meth c s₁ B hml hP s₁ hh0 (Stand.of_body B)
    exact ⟨t, o, a1, b1, b2, b3⟩
/-! ===== END ===== -/
end
section
def RX0 : String := "Relationrows$Bits"
def TX0 : u_T := fun k => match k with
  | 0 => ("Relationrows$Bits", "low", "J", false)
  | _ => ("Relationrows$Bits", "high", "J", false)
def tyX0 : Nat → FieldType := fun k => match k with
  | 0 => .long
  | _ => .long
abbrev wsX00 : List Cond := u_ws RX0 TX0 2
theorem nmX0 : ∀ a, a < 2 → ∀ b, b < 2 → a ≠ b → (TX0 a).2.1 ≠ (TX0 b).2.1 := by decide +kernel
theorem tyX0_ok : ∀ k, k < 2 → parseFieldDescriptor (TX0 k).2.2.1 = some (tyX0 k) := by decide +kernel
abbrev cX0_init : ByteArray := prog_2_method_1_code
def yX0_init : MethodName := ⟨RX0, "<init>", "()V"⟩
abbrev cX0_below : ByteArray := prog_2_method_2_code
def yX0_below : MethodName := ⟨RX0, "below", "(I)J"⟩
abbrev cX0_lowRange : ByteArray := prog_2_method_3_code
def yX0_lowRange : MethodName := ⟨RX0, "lowRange", "(II)J"⟩
abbrev cX0_highRange : ByteArray := prog_2_method_4_code
def yX0_highRange : MethodName := ⟨RX0, "highRange", "(II)J"⟩
abbrev cX0_clear : ByteArray := prog_2_method_5_code
def yX0_clear : MethodName := ⟨RX0, "clear", "()V"⟩
abbrev cX0_become : ByteArray := prog_2_method_6_code
def yX0_become : MethodName := ⟨RX0, "become", "(LRelationrows$Bits;)V"⟩
abbrev cX0_unite : ByteArray := prog_2_method_7_code
def yX0_unite : MethodName := ⟨RX0, "unite", "(LRelationrows$Bits;)V"⟩
abbrev cX0_remove : ByteArray := prog_2_method_8_code
def yX0_remove : MethodName := ⟨RX0, "remove", "(LRelationrows$Bits;)V"⟩
abbrev cX0_putRange : ByteArray := prog_2_method_9_code
def yX0_putRange : MethodName := ⟨RX0, "putRange", "(IIZ)V"⟩
abbrev cX0_invert : ByteArray := prog_2_method_10_code
def yX0_invert : MethodName := ⟨RX0, "invert", "(II)V"⟩
abbrev cX0_holds : ByteArray := prog_2_method_11_code
def yX0_holds : MethodName := ⟨RX0, "holds", "(I)Z"⟩
abbrev cX0_isEmpty : ByteArray := prog_2_method_12_code
def yX0_isEmpty : MethodName := ⟨RX0, "isEmpty", "()Z"⟩
abbrev cX0_meets : ByteArray := prog_2_method_13_code
def yX0_meets : MethodName := ⟨RX0, "meets", "(LRelationrows$Bits;)Z"⟩
abbrev cX0_isLike : ByteArray := prog_2_method_14_code
def yX0_isLike : MethodName := ⟨RX0, "isLike", "(LRelationrows$Bits;)Z"⟩
abbrev cX0_size : ByteArray := prog_2_method_15_code
def yX0_size : MethodName := ⟨RX0, "size", "()I"⟩
abbrev cX0_leastFrom : ByteArray := prog_2_method_16_code
def yX0_leastFrom : MethodName := ⟨RX0, "leastFrom", "(I)I"⟩
abbrev cX0_placeOfLeast : ByteArray := prog_2_method_17_code
def yX0_placeOfLeast : MethodName := ⟨RX0, "placeOfLeast", "(J)I"⟩
abbrev cX0_greatestTo : ByteArray := prog_2_method_18_code
def yX0_greatestTo : MethodName := ⟨RX0, "greatestTo", "(I)I"⟩
def RX1 : String := "Relationrows$Relation"
def TX1 : u_T := fun k => match k with
  | 0 => ("Relationrows$Relation", "elements", "I", false)
  | 1 => ("Relationrows$Relation", "low", "[J", true)
  | 2 => ("Relationrows$Relation", "high", "[J", true)
  | _ => ("Relationrows$Relation", "row", "LRelationrows$Bits;", true)
def tyX1 : Nat → FieldType := fun k => match k with
  | 0 => .int
  | 1 => .array .long
  | 2 => .array .long
  | _ => .object "Relationrows$Bits"
abbrev wsX10 : List Cond := u_ws RX1 TX1 4
theorem nmX1 : ∀ a, a < 4 → ∀ b, b < 4 → a ≠ b → (TX1 a).2.1 ≠ (TX1 b).2.1 := by decide +kernel
theorem tyX1_ok : ∀ k, k < 4 → parseFieldDescriptor (TX1 k).2.2.1 = some (tyX1 k) := by decide +kernel
abbrev cX1_init : ByteArray := prog_3_method_1_code
def yX1_init : MethodName := ⟨RX1, "<init>", "()V"⟩
abbrev cX1_restart : ByteArray := prog_3_method_2_code
def yX1_restart : MethodName := ⟨RX1, "restart", "(I)V"⟩
abbrev cX1_elementsInside : ByteArray := prog_3_method_3_code
def yX1_elementsInside : MethodName := ⟨RX1, "elementsInside", "()I"⟩
abbrev cX1_lowAt : ByteArray := prog_3_method_4_code
def yX1_lowAt : MethodName := ⟨RX1, "lowAt", "(I)J"⟩
abbrev cX1_highAt : ByteArray := prog_3_method_5_code
def yX1_highAt : MethodName := ⟨RX1, "highAt", "(I)J"⟩
abbrev cX1_rowInto : ByteArray := prog_3_method_6_code
def yX1_rowInto : MethodName := ⟨RX1, "rowInto", "(ILRelationrows$Bits;)V"⟩
abbrev cX1_putRow : ByteArray := prog_3_method_7_code
def yX1_putRow : MethodName := ⟨RX1, "putRow", "(ILRelationrows$Bits;)V"⟩
abbrev cX1_putWords : ByteArray := prog_3_method_8_code
def yX1_putWords : MethodName := ⟨RX1, "putWords", "(IJJ)V"⟩
abbrev cX1_holds : ByteArray := prog_3_method_9_code
def yX1_holds : MethodName := ⟨RX1, "holds", "(II)Z"⟩
abbrev cX1_join : ByteArray := prog_3_method_10_code
def yX1_join : MethodName := ⟨RX1, "join", "(II)V"⟩
abbrev cX1_joinOwn : ByteArray := prog_3_method_11_code
def yX1_joinOwn : MethodName := ⟨RX1, "joinOwn", "()V"⟩
abbrev cX1_sizeOf : ByteArray := prog_3_method_12_code
def yX1_sizeOf : MethodName := ⟨RX1, "sizeOf", "(I)I"⟩
abbrev cX1_pairs : ByteArray := prog_3_method_13_code
def yX1_pairs : MethodName := ⟨RX1, "pairs", "()I"⟩
abbrev cX1_ownPairs : ByteArray := prog_3_method_14_code
def yX1_ownPairs : MethodName := ⟨RX1, "ownPairs", "()I"⟩
abbrev cX1_take : ByteArray := prog_3_method_15_code
def yX1_take : MethodName := ⟨RX1, "take", "(LRelationrows$Relation;)V"⟩
abbrev cX1_mix : ByteArray := prog_3_method_16_code
def yX1_mix : MethodName := ⟨RX1, "mix", "(LRelationrows$Relation;I)V"⟩
abbrev cX1_mixed : ByteArray := prog_3_method_17_code
def yX1_mixed : MethodName := ⟨RX1, "mixed", "(JJI)J"⟩
abbrev cX1_product : ByteArray := prog_3_method_18_code
def yX1_product : MethodName := ⟨RX1, "product", "(LRelationrows$Relation;LRelationrows$Relation;)V"⟩
abbrev cX1_takeCovers : ByteArray := prog_3_method_19_code
def yX1_takeCovers : MethodName := ⟨RX1, "takeCovers", "(LRelationrows$Relation;)V"⟩
abbrev cX1_reverse : ByteArray := prog_3_method_20_code
def yX1_reverse : MethodName := ⟨RX1, "reverse", "()V"⟩
abbrev cX1_swapPair : ByteArray := prog_3_method_21_code
def yX1_swapPair : MethodName := ⟨RX1, "swapPair", "(II)V"⟩
abbrev cX1_invert : ByteArray := prog_3_method_22_code
def yX1_invert : MethodName := ⟨RX1, "invert", "()V"⟩
abbrev cX1_closeUp : ByteArray := prog_3_method_23_code
def yX1_closeUp : MethodName := ⟨RX1, "closeUp", "()V"⟩
abbrev cX1_imageOf : ByteArray := prog_3_method_24_code
def yX1_imageOf : MethodName := ⟨RX1, "imageOf", "(LRelationrows$Bits;LRelationrows$Bits;)V"⟩
abbrev cX1_hasAllOf : ByteArray := prog_3_method_25_code
def yX1_hasAllOf : MethodName := ⟨RX1, "hasAllOf", "(LRelationrows$Relation;)Z"⟩
abbrev cX1_isLike : ByteArray := prog_3_method_26_code
def yX1_isLike : MethodName := ⟨RX1, "isLike", "(LRelationrows$Relation;)Z"⟩
abbrev cX1_isTransitive : ByteArray := prog_3_method_27_code
def yX1_isTransitive : MethodName := ⟨RX1, "isTransitive", "()Z"⟩
abbrev cX1_everyTwoAre : ByteArray := prog_3_method_28_code
def yX1_everyTwoAre : MethodName := ⟨RX1, "everyTwoAre", "(I)Z"⟩
abbrev cX1_fits : ByteArray := prog_3_method_29_code
def yX1_fits : MethodName := ⟨RX1, "fits", "(IZZ)Z"⟩
abbrev cX1_inOneClass : ByteArray := prog_3_method_30_code
def yX1_inOneClass : MethodName := ⟨RX1, "inOneClass", "(II)Z"⟩
abbrev cX1_leastOfClass : ByteArray := prog_3_method_31_code
def yX1_leastOfClass : MethodName := ⟨RX1, "leastOfClass", "(I)I"⟩
abbrev cX1_classesInside : ByteArray := prog_3_method_32_code
def yX1_classesInside : MethodName := ⟨RX1, "classesInside", "()I"⟩
def RX2 : String := "Relationrows$Theorem"
def TX2 : u_T := fun k => match k with
  | 0 => ("Relationrows$Theorem", "walks", "LRelationrows$Walks;", true)
  | 1 => ("Relationrows$Theorem", "left", "LRelationrows$Relation;", true)
  | 2 => ("Relationrows$Theorem", "right", "LRelationrows$Relation;", true)
  | 3 => ("Relationrows$Theorem", "middle", "LRelationrows$Relation;", true)
  | 4 => ("Relationrows$Theorem", "row", "LRelationrows$Bits;", true)
  | 5 => ("Relationrows$Theorem", "other", "LRelationrows$Bits;", true)
  | _ => ("Relationrows$Theorem", "leasts", "[I", true)
def tyX2 : Nat → FieldType := fun k => match k with
  | 0 => .object "Relationrows$Walks"
  | 1 => .object "Relationrows$Relation"
  | 2 => .object "Relationrows$Relation"
  | 3 => .object "Relationrows$Relation"
  | 4 => .object "Relationrows$Bits"
  | 5 => .object "Relationrows$Bits"
  | _ => .array .int
abbrev wsX20 : List Cond := u_ws RX2 TX2 7
theorem nmX2 : ∀ a, a < 7 → ∀ b, b < 7 → a ≠ b → (TX2 a).2.1 ≠ (TX2 b).2.1 := by decide +kernel
theorem tyX2_ok : ∀ k, k < 7 → parseFieldDescriptor (TX2 k).2.2.1 = some (tyX2 k) := by decide +kernel
abbrev cX2_init : ByteArray := prog_4_method_1_code
def yX2_init : MethodName := ⟨RX2, "<init>", "()V"⟩
abbrev cX2_wrongOfOne : ByteArray := prog_4_method_2_code
def yX2_wrongOfOne : MethodName := ⟨RX2, "wrongOfOne", "(LRelationrows$Relation;)I"⟩
abbrev cX2_wrongOfThree : ByteArray := prog_4_method_3_code
def yX2_wrongOfThree : MethodName := ⟨RX2, "wrongOfThree", "(LRelationrows$Relation;LRelationrows$Relation;LRelationrows$Relation;)I"⟩
abbrev cX2_wrongUnless : ByteArray := prog_4_method_4_code
def yX2_wrongUnless : MethodName := ⟨RX2, "wrongUnless", "(Z)I"⟩
abbrev cX2_closureTellsWalks : ByteArray := prog_4_method_5_code
def yX2_closureTellsWalks : MethodName := ⟨RX2, "closureTellsWalks", "(LRelationrows$Relation;)Z"⟩
abbrev cX2_classesPartElements : ByteArray := prog_4_method_6_code
def yX2_classesPartElements : MethodName := ⟨RX2, "classesPartElements", "()Z"⟩
abbrev cX2_orderKeeps : ByteArray := prog_4_method_7_code
def yX2_orderKeeps : MethodName := ⟨RX2, "orderKeeps", "(LRelationrows$Relation;)Z"⟩
abbrev cX2_coversGiveClosure : ByteArray := prog_4_method_8_code
def yX2_coversGiveClosure : MethodName := ⟨RX2, "coversGiveClosure", "()Z"⟩
abbrev cX2_isAssociative : ByteArray := prog_4_method_9_code
def yX2_isAssociative : MethodName := ⟨RX2, "isAssociative", "(LRelationrows$Relation;LRelationrows$Relation;LRelationrows$Relation;)Z"⟩
abbrev cX2_distributesBefore : ByteArray := prog_4_method_10_code
def yX2_distributesBefore : MethodName := ⟨RX2, "distributesBefore", "(LRelationrows$Relation;LRelationrows$Relation;LRelationrows$Relation;)Z"⟩
abbrev cX2_distributesBehind : ByteArray := prog_4_method_11_code
def yX2_distributesBehind : MethodName := ⟨RX2, "distributesBehind", "(LRelationrows$Relation;LRelationrows$Relation;LRelationrows$Relation;)Z"⟩
def RX3 : String := "Relationrows$Walks"
def TX3 : u_T := fun k => match k with
  | 0 => ("Relationrows$Walks", "reached", "LRelationrows$Bits;", true)
  | 1 => ("Relationrows$Walks", "fresh", "LRelationrows$Bits;", true)
  | 2 => ("Relationrows$Walks", "left", "LRelationrows$Bits;", true)
  | 3 => ("Relationrows$Walks", "blocked", "LRelationrows$Bits;", true)
  | 4 => ("Relationrows$Walks", "free", "LRelationrows$Bits;", true)
  | _ => ("Relationrows$Walks", "order", "[I", true)
def tyX3 : Nat → FieldType := fun k => match k with
  | 0 => .object "Relationrows$Bits"
  | 1 => .object "Relationrows$Bits"
  | 2 => .object "Relationrows$Bits"
  | 3 => .object "Relationrows$Bits"
  | 4 => .object "Relationrows$Bits"
  | _ => .array .int
abbrev wsX30 : List Cond := u_ws RX3 TX3 6
theorem nmX3 : ∀ a, a < 6 → ∀ b, b < 6 → a ≠ b → (TX3 a).2.1 ≠ (TX3 b).2.1 := by decide +kernel
theorem tyX3_ok : ∀ k, k < 6 → parseFieldDescriptor (TX3 k).2.2.1 = some (tyX3 k) := by decide +kernel
abbrev cX3_init : ByteArray := prog_5_method_1_code
def yX3_init : MethodName := ⟨RX3, "<init>", "()V"⟩
abbrev cX3_stepsBetween : ByteArray := prog_5_method_2_code
def yX3_stepsBetween : MethodName := ⟨RX3, "stepsBetween", "(LRelationrows$Relation;II)I"⟩
abbrev cX3_reachFrom : ByteArray := prog_5_method_3_code
def yX3_reachFrom : MethodName := ⟨RX3, "reachFrom", "(LRelationrows$Relation;ILRelationrows$Bits;)V"⟩
abbrev cX3_leave : ByteArray := prog_5_method_4_code
def yX3_leave : MethodName := ⟨RX3, "leave", "(LRelationrows$Relation;I)V"⟩
abbrev cX3_goOn : ByteArray := prog_5_method_5_code
def yX3_goOn : MethodName := ⟨RX3, "goOn", "(LRelationrows$Relation;)V"⟩
abbrev cX3_longest : ByteArray := prog_5_method_6_code
def yX3_longest : MethodName := ⟨RX3, "longest", "(LRelationrows$Relation;)I"⟩
abbrev cX3_findOrder : ByteArray := prog_5_method_7_code
def yX3_findOrder : MethodName := ⟨RX3, "findOrder", "(LRelationrows$Relation;)Z"⟩
abbrev cX3_orderedAt : ByteArray := prog_5_method_8_code
def yX3_orderedAt : MethodName := ⟨RX3, "orderedAt", "(I)I"⟩
def RX4 : String := "Relationrows"
def TX4 : u_T := fun k => match k with
  | 0 => ("Relationrows", "elements", "I", false)
  | 1 => ("Relationrows", "relations", "[LRelationrows$Relation;", true)
  | 2 => ("Relationrows", "marks", "LRelationrows$Bits;", true)
  | 3 => ("Relationrows", "row", "LRelationrows$Bits;", true)
  | 4 => ("Relationrows", "work", "LRelationrows$Relation;", true)
  | 5 => ("Relationrows", "walks", "LRelationrows$Walks;", true)
  | _ => ("Relationrows", "theorem", "LRelationrows$Theorem;", true)
def tyX4 : Nat → FieldType := fun k => match k with
  | 0 => .int
  | 1 => .array (.object "Relationrows$Relation")
  | 2 => .object "Relationrows$Bits"
  | 3 => .object "Relationrows$Bits"
  | 4 => .object "Relationrows$Relation"
  | 5 => .object "Relationrows$Walks"
  | _ => .object "Relationrows$Theorem"
abbrev wsX40 : List Cond := u_ws RX4 TX4 7
theorem nmX4 : ∀ a, a < 7 → ∀ b, b < 7 → a ≠ b → (TX4 a).2.1 ≠ (TX4 b).2.1 := by decide +kernel
theorem tyX4_ok : ∀ k, k < 7 → parseFieldDescriptor (TX4 k).2.2.1 = some (tyX4 k) := by decide +kernel
abbrev cX4_init : ByteArray := prog_1_method_1_code
def yX4_init : MethodName := ⟨RX4, "<init>", "()V"⟩
abbrev cX4_begin : ByteArray := prog_1_method_2_code
def yX4_begin : MethodName := ⟨RX4, "begin", "(I)I"⟩
abbrev cX4_set : ByteArray := prog_1_method_3_code
def yX4_set : MethodName := ⟨RX4, "set", "(IIIZ)Z"⟩
abbrev cX4_setRange : ByteArray := prog_1_method_4_code
def yX4_setRange : MethodName := ⟨RX4, "setRange", "(IIIIZ)I"⟩
abbrev cX4_flipRange : ByteArray := prog_1_method_5_code
def yX4_flipRange : MethodName := ⟨RX4, "flipRange", "(IIII)I"⟩
abbrev cX4_setRow : ByteArray := prog_1_method_6_code
def yX4_setRow : MethodName := ⟨RX4, "setRow", "(IIJ)I"⟩
abbrev cX4_chain : ByteArray := prog_1_method_7_code
def yX4_chain : MethodName := ⟨RX4, "chain", "(I)I"⟩
abbrev cX4_draw : ByteArray := prog_1_method_8_code
def yX4_draw : MethodName := ⟨RX4, "draw", "(III)I"⟩
abbrev cX4_copy : ByteArray := prog_1_method_9_code
def yX4_copy : MethodName := ⟨RX4, "copy", "(II)I"⟩
abbrev cX4_combine : ByteArray := prog_1_method_10_code
def yX4_combine : MethodName := ⟨RX4, "combine", "(III)I"⟩
abbrev cX4_compose : ByteArray := prog_1_method_11_code
def yX4_compose : MethodName := ⟨RX4, "compose", "(III)I"⟩
abbrev cX4_turn : ByteArray := prog_1_method_12_code
def yX4_turn : MethodName := ⟨RX4, "turn", "(I)I"⟩
abbrev cX4_oppose : ByteArray := prog_1_method_13_code
def yX4_oppose : MethodName := ⟨RX4, "oppose", "(I)I"⟩
abbrev cX4_close : ByteArray := prog_1_method_14_code
def yX4_close : MethodName := ⟨RX4, "close", "(IZ)I"⟩
abbrev cX4_cover : ByteArray := prog_1_method_15_code
def yX4_cover : MethodName := ⟨RX4, "cover", "(II)I"⟩
abbrev cX4_has : ByteArray := prog_1_method_16_code
def yX4_has : MethodName := ⟨RX4, "has", "(III)Z"⟩
abbrev cX4_count : ByteArray := prog_1_method_17_code
def yX4_count : MethodName := ⟨RX4, "count", "(I)I"⟩
abbrev cX4_countOf : ByteArray := prog_1_method_18_code
def yX4_countOf : MethodName := ⟨RX4, "countOf", "(II)I"⟩
abbrev cX4_beside : ByteArray := prog_1_method_19_code
def yX4_beside : MethodName := ⟨RX4, "beside", "(IIII)I"⟩
abbrev cX4_wordOf : ByteArray := prog_1_method_20_code
def yX4_wordOf : MethodName := ⟨RX4, "wordOf", "(III)J"⟩
abbrev cX4_meet : ByteArray := prog_1_method_21_code
def yX4_meet : MethodName := ⟨RX4, "meet", "(IIII)Z"⟩
abbrev cX4_compare : ByteArray := prog_1_method_22_code
def yX4_compare : MethodName := ⟨RX4, "compare", "(II)I"⟩
abbrev cX4_is : ByteArray := prog_1_method_23_code
def yX4_is : MethodName := ⟨RX4, "is", "(II)Z"⟩
abbrev cX4_steps : ByteArray := prog_1_method_24_code
def yX4_steps : MethodName := ⟨RX4, "steps", "(III)I"⟩
abbrev cX4_classOf : ByteArray := prog_1_method_25_code
def yX4_classOf : MethodName := ⟨RX4, "classOf", "(II)I"⟩
abbrev cX4_classes : ByteArray := prog_1_method_26_code
def yX4_classes : MethodName := ⟨RX4, "classes", "(I)I"⟩
abbrev cX4_hasRing : ByteArray := prog_1_method_27_code
def yX4_hasRing : MethodName := ⟨RX4, "hasRing", "(I)Z"⟩
abbrev cX4_orderAt : ByteArray := prog_1_method_28_code
def yX4_orderAt : MethodName := ⟨RX4, "orderAt", "(II)I"⟩
abbrev cX4_longestWalk : ByteArray := prog_1_method_29_code
def yX4_longestWalk : MethodName := ⟨RX4, "longestWalk", "(I)I"⟩
abbrev cX4_mark : ByteArray := prog_1_method_30_code
def yX4_mark : MethodName := ⟨RX4, "mark", "(IIZ)I"⟩
abbrev cX4_spread : ByteArray := prog_1_method_31_code
def yX4_spread : MethodName := ⟨RX4, "spread", "(IZ)I"⟩
abbrev cX4_markedAt : ByteArray := prog_1_method_32_code
def yX4_markedAt : MethodName := ⟨RX4, "markedAt", "(I)I"⟩
abbrev cX4_endOfMarks : ByteArray := prog_1_method_33_code
def yX4_endOfMarks : MethodName := ⟨RX4, "endOfMarks", "()I"⟩
abbrev cX4_meanRow : ByteArray := prog_1_method_34_code
def yX4_meanRow : MethodName := ⟨RX4, "meanRow", "(I)D"⟩
abbrev cX4_share : ByteArray := prog_1_method_35_code
def yX4_share : MethodName := ⟨RX4, "share", "(I)F"⟩
abbrev cX4_errors : ByteArray := prog_1_method_36_code
def yX4_errors : MethodName := ⟨RX4, "errors", "()I"⟩
abbrev cX4_relationAt : ByteArray := prog_1_method_37_code
def yX4_relationAt : MethodName := ⟨RX4, "relationAt", "(I)LRelationrows$Relation;"⟩
abbrev cX4_checkElement : ByteArray := prog_1_method_38_code
def yX4_checkElement : MethodName := ⟨RX4, "checkElement", "(I)V"⟩
abbrev cX4_checkRange : ByteArray := prog_1_method_39_code
def yX4_checkRange : MethodName := ⟨RX4, "checkRange", "(II)V"⟩
abbrev cX4_seedAfter : ByteArray := prog_1_method_40_code
def yX4_seedAfter : MethodName := ⟨RX4, "seedAfter", "(I)I"⟩
abbrev cX4_elementOf : ByteArray := prog_1_method_41_code
def yX4_elementOf : MethodName := ⟨RX4, "elementOf", "(I)I"⟩
abbrev cX4_closeAside : ByteArray := prog_1_method_42_code
def yX4_closeAside : MethodName := ⟨RX4, "closeAside", "(LRelationrows$Relation;)V"⟩
def RX5 : String := "RelationrowsModel"
def TX5 : u_T := fun k => match k with
  | 0 => ("RelationrowsModel", "has", "[Z", true)
  | 1 => ("RelationrowsModel", "isMarked", "[Z", true)
  | 2 => ("RelationrowsModel", "elements", "I", false)
  | 3 => ("RelationrowsModel", "thrown", "I", false)
  | 4 => ("RelationrowsModel", "square", "[Z", true)
  | 5 => ("RelationrowsModel", "other", "[Z", true)
  | 6 => ("RelationrowsModel", "third", "[Z", true)
  | 7 => ("RelationrowsModel", "isMet", "[Z", true)
  | 8 => ("RelationrowsModel", "was", "[Z", true)
  | 9 => ("RelationrowsModel", "queue", "[I", true)
  | 10 => ("RelationrowsModel", "far", "[I", true)
  | 11 => ("RelationrowsModel", "order", "[I", true)
  | _ => ("RelationrowsModel", "longest", "[I", true)
def tyX5 : Nat → FieldType := fun k => match k with
  | 0 => .array .boolean
  | 1 => .array .boolean
  | 2 => .int
  | 3 => .int
  | 4 => .array .boolean
  | 5 => .array .boolean
  | 6 => .array .boolean
  | 7 => .array .boolean
  | 8 => .array .boolean
  | 9 => .array .int
  | 10 => .array .int
  | 11 => .array .int
  | _ => .array .int
abbrev wsX50 : List Cond := u_ws RX5 TX5 13
theorem nmX5 : ∀ a, a < 13 → ∀ b, b < 13 → a ≠ b → (TX5 a).2.1 ≠ (TX5 b).2.1 := by decide +kernel
theorem tyX5_ok : ∀ k, k < 13 → parseFieldDescriptor (TX5 k).2.2.1 = some (tyX5 k) := by decide +kernel
abbrev cX5_init : ByteArray := prog_7_method_1_code
def yX5_init : MethodName := ⟨RX5, "<init>", "()V"⟩
abbrev cX5_thrown : ByteArray := prog_7_method_2_code
def yX5_thrown : MethodName := ⟨RX5, "thrown", "()I"⟩
abbrev cX5_in : ByteArray := prog_7_method_3_code
def yX5_in : MethodName := ⟨RX5, "in", "(III)Z"⟩
abbrev cX5_isRelation : ByteArray := prog_7_method_4_code
def yX5_isRelation : MethodName := ⟨RX5, "isRelation", "(I)Z"⟩
abbrev cX5_isElement : ByteArray := prog_7_method_5_code
def yX5_isElement : MethodName := ⟨RX5, "isElement", "(I)Z"⟩
abbrev cX5_isRow : ByteArray := prog_7_method_6_code
def yX5_isRow : MethodName := ⟨RX5, "isRow", "(II)Z"⟩
abbrev cX5_isRange : ByteArray := prog_7_method_7_code
def yX5_isRange : MethodName := ⟨RX5, "isRange", "(II)Z"⟩
abbrev cX5_refuse : ByteArray := prog_7_method_8_code
def yX5_refuse : MethodName := ⟨RX5, "refuse", "(I)I"⟩
abbrev cX5_told : ByteArray := prog_7_method_9_code
def yX5_told : MethodName := ⟨RX5, "told", "(I)I"⟩
abbrev cX5_says : ByteArray := prog_7_method_10_code
def yX5_says : MethodName := ⟨RX5, "says", "(Z)Z"⟩
abbrev cX5_denies : ByteArray := prog_7_method_11_code
def yX5_denies : MethodName := ⟨RX5, "denies", "(I)Z"⟩
abbrev cX5_place : ByteArray := prog_7_method_12_code
def yX5_place : MethodName := ⟨RX5, "place", "(III)I"⟩
abbrev cX5_leads : ByteArray := prog_7_method_13_code
def yX5_leads : MethodName := ⟨RX5, "leads", "(III)Z"⟩
abbrev cX5_inRow : ByteArray := prog_7_method_14_code
def yX5_inRow : MethodName := ⟨RX5, "inRow", "(II)I"⟩
abbrev cX5_pairs : ByteArray := prog_7_method_15_code
def yX5_pairs : MethodName := ⟨RX5, "pairs", "(I)I"⟩
abbrev cX5_lays : ByteArray := prog_7_method_16_code
def yX5_lays : MethodName := ⟨RX5, "lays", "(I)I"⟩
abbrev cX5_begin : ByteArray := prog_7_method_17_code
def yX5_begin : MethodName := ⟨RX5, "begin", "(I)I"⟩
abbrev cX5_set : ByteArray := prog_7_method_18_code
def yX5_set : MethodName := ⟨RX5, "set", "(IIIZ)Z"⟩
abbrev cX5_setRange : ByteArray := prog_7_method_19_code
def yX5_setRange : MethodName := ⟨RX5, "setRange", "(IIIIZ)I"⟩
abbrev cX5_flipRange : ByteArray := prog_7_method_20_code
def yX5_flipRange : MethodName := ⟨RX5, "flipRange", "(IIII)I"⟩
abbrev cX5_setRow : ByteArray := prog_7_method_21_code
def yX5_setRow : MethodName := ⟨RX5, "setRow", "(IIJ)I"⟩
abbrev cX5_chain : ByteArray := prog_7_method_22_code
def yX5_chain : MethodName := ⟨RX5, "chain", "(I)I"⟩
abbrev cX5_draw : ByteArray := prog_7_method_23_code
def yX5_draw : MethodName := ⟨RX5, "draw", "(III)I"⟩
abbrev cX5_copy : ByteArray := prog_7_method_24_code
def yX5_copy : MethodName := ⟨RX5, "copy", "(II)I"⟩
abbrev cX5_combine : ByteArray := prog_7_method_25_code
def yX5_combine : MethodName := ⟨RX5, "combine", "(III)I"⟩
abbrev cX5_composes : ByteArray := prog_7_method_26_code
def yX5_composes : MethodName := ⟨RX5, "composes", "(II)V"⟩
abbrev cX5_compose : ByteArray := prog_7_method_27_code
def yX5_compose : MethodName := ⟨RX5, "compose", "(III)I"⟩
abbrev cX5_turn : ByteArray := prog_7_method_28_code
def yX5_turn : MethodName := ⟨RX5, "turn", "(I)I"⟩
abbrev cX5_oppose : ByteArray := prog_7_method_29_code
def yX5_oppose : MethodName := ⟨RX5, "oppose", "(I)I"⟩
abbrev cX5_walks : ByteArray := prog_7_method_30_code
def yX5_walks : MethodName := ⟨RX5, "walks", "(II)V"⟩
abbrev cX5_closes : ByteArray := prog_7_method_31_code
def yX5_closes : MethodName := ⟨RX5, "closes", "(I)V"⟩
abbrev cX5_close : ByteArray := prog_7_method_32_code
def yX5_close : MethodName := ⟨RX5, "close", "(IZ)I"⟩
abbrev cX5_isRinged : ByteArray := prog_7_method_33_code
def yX5_isRinged : MethodName := ⟨RX5, "isRinged", "(I)Z"⟩
abbrev cX5_covers : ByteArray := prog_7_method_34_code
def yX5_covers : MethodName := ⟨RX5, "covers", "()V"⟩
abbrev cX5_cover : ByteArray := prog_7_method_35_code
def yX5_cover : MethodName := ⟨RX5, "cover", "(II)I"⟩
abbrev cX5_has : ByteArray := prog_7_method_36_code
def yX5_has : MethodName := ⟨RX5, "has", "(III)Z"⟩
abbrev cX5_count : ByteArray := prog_7_method_37_code
def yX5_count : MethodName := ⟨RX5, "count", "(I)I"⟩
abbrev cX5_countOf : ByteArray := prog_7_method_38_code
def yX5_countOf : MethodName := ⟨RX5, "countOf", "(II)I"⟩
abbrev cX5_beside : ByteArray := prog_7_method_39_code
def yX5_beside : MethodName := ⟨RX5, "beside", "(IIII)I"⟩
abbrev cX5_wordOf : ByteArray := prog_7_method_40_code
def yX5_wordOf : MethodName := ⟨RX5, "wordOf", "(III)J"⟩
abbrev cX5_meet : ByteArray := prog_7_method_41_code
def yX5_meet : MethodName := ⟨RX5, "meet", "(IIII)Z"⟩
abbrev cX5_compare : ByteArray := prog_7_method_42_code
def yX5_compare : MethodName := ⟨RX5, "compare", "(II)I"⟩
abbrev cX5_keeps : ByteArray := prog_7_method_43_code
def yX5_keeps : MethodName := ⟨RX5, "keeps", "(IIII)Z"⟩
abbrev cX5_is : ByteArray := prog_7_method_44_code
def yX5_is : MethodName := ⟨RX5, "is", "(II)Z"⟩
abbrev cX5_steps : ByteArray := prog_7_method_45_code
def yX5_steps : MethodName := ⟨RX5, "steps", "(III)I"⟩
abbrev cX5_leastOf : ByteArray := prog_7_method_46_code
def yX5_leastOf : MethodName := ⟨RX5, "leastOf", "(I)I"⟩
abbrev cX5_classOf : ByteArray := prog_7_method_47_code
def yX5_classOf : MethodName := ⟨RX5, "classOf", "(II)I"⟩
abbrev cX5_classes : ByteArray := prog_7_method_48_code
def yX5_classes : MethodName := ⟨RX5, "classes", "(I)I"⟩
abbrev cX5_hasRing : ByteArray := prog_7_method_49_code
def yX5_hasRing : MethodName := ⟨RX5, "hasRing", "(I)Z"⟩
abbrev cX5_isFree : ByteArray := prog_7_method_50_code
def yX5_isFree : MethodName := ⟨RX5, "isFree", "(II)Z"⟩
abbrev cX5_orders : ByteArray := prog_7_method_51_code
def yX5_orders : MethodName := ⟨RX5, "orders", "(I)I"⟩
abbrev cX5_orderAt : ByteArray := prog_7_method_52_code
def yX5_orderAt : MethodName := ⟨RX5, "orderAt", "(II)I"⟩
abbrev cX5_longestWalk : ByteArray := prog_7_method_53_code
def yX5_longestWalk : MethodName := ⟨RX5, "longestWalk", "(I)I"⟩
abbrev cX5_marks : ByteArray := prog_7_method_54_code
def yX5_marks : MethodName := ⟨RX5, "marks", "()I"⟩
abbrev cX5_mark : ByteArray := prog_7_method_55_code
def yX5_mark : MethodName := ⟨RX5, "mark", "(IIZ)I"⟩
abbrev cX5_spread : ByteArray := prog_7_method_56_code
def yX5_spread : MethodName := ⟨RX5, "spread", "(IZ)I"⟩
abbrev cX5_markedAt : ByteArray := prog_7_method_57_code
def yX5_markedAt : MethodName := ⟨RX5, "markedAt", "(I)I"⟩
abbrev cX5_endOfMarks : ByteArray := prog_7_method_58_code
def yX5_endOfMarks : MethodName := ⟨RX5, "endOfMarks", "()I"⟩
abbrev cX5_meanRow : ByteArray := prog_7_method_59_code
def yX5_meanRow : MethodName := ⟨RX5, "meanRow", "(I)D"⟩
abbrev cX5_share : ByteArray := prog_7_method_60_code
def yX5_share : MethodName := ⟨RX5, "share", "(I)F"⟩
abbrev cX5_isClosed : ByteArray := prog_7_method_61_code
def yX5_isClosed : MethodName := ⟨RX5, "isClosed", "(I)Z"⟩
abbrev cX5_isOrdered : ByteArray := prog_7_method_62_code
def yX5_isOrdered : MethodName := ⟨RX5, "isOrdered", "(I)Z"⟩
abbrev cX5_areComposed : ByteArray := prog_7_method_63_code
def yX5_areComposed : MethodName := ⟨RX5, "areComposed", "()Z"⟩
abbrev cX5_errors : ByteArray := prog_7_method_64_code
def yX5_errors : MethodName := ⟨RX5, "errors", "()I"⟩
def RJ13 : String := "java/lang/Long"
abbrev cJ13_bitCount_95d88 : ByteArray := prog_13_method_50_code
def yJ13_bitCount_95d88 : MethodName := ⟨RJ13, "bitCount", "(J)I"⟩
def RJ9 : String := "java/lang/Math"
abbrev cJ9_min_7cf53 : ByteArray := prog_14_method_69_code
def yJ9_min_7cf53 : MethodName := ⟨RJ9, "min", "(II)I"⟩
def RJ0 : String := "java/lang/String"
def RL : String := "RelationrowsLaw"
abbrev cL_begin : ByteArray := method_3_code
def yL_begin : MethodName := ⟨RL, "begin", "(LRelationrows;I[J)I"⟩
abbrev cL_set : ByteArray := method_4_code
def yL_set : MethodName := ⟨RL, "set", "(LRelationrows;IIIZ[J)I"⟩
abbrev cL_setRange : ByteArray := method_5_code
def yL_setRange : MethodName := ⟨RL, "setRange", "(LRelationrows;IIIIZ[J)I"⟩
abbrev cL_flipRange : ByteArray := method_6_code
def yL_flipRange : MethodName := ⟨RL, "flipRange", "(LRelationrows;IIII[J)I"⟩
abbrev cL_setRow : ByteArray := method_7_code
def yL_setRow : MethodName := ⟨RL, "setRow", "(LRelationrows;IIJ[J)I"⟩
abbrev cL_chain : ByteArray := method_8_code
def yL_chain : MethodName := ⟨RL, "chain", "(LRelationrows;I[J)I"⟩
abbrev cL_draw : ByteArray := method_9_code
def yL_draw : MethodName := ⟨RL, "draw", "(LRelationrows;III[J)I"⟩
abbrev cL_copy : ByteArray := method_10_code
def yL_copy : MethodName := ⟨RL, "copy", "(LRelationrows;II[J)I"⟩
abbrev cL_combine : ByteArray := method_11_code
def yL_combine : MethodName := ⟨RL, "combine", "(LRelationrows;III[J)I"⟩
abbrev cL_compose : ByteArray := method_12_code
def yL_compose : MethodName := ⟨RL, "compose", "(LRelationrows;III[J)I"⟩
abbrev cL_turn : ByteArray := method_13_code
def yL_turn : MethodName := ⟨RL, "turn", "(LRelationrows;I[J)I"⟩
abbrev cL_oppose : ByteArray := method_14_code
def yL_oppose : MethodName := ⟨RL, "oppose", "(LRelationrows;I[J)I"⟩
abbrev cL_close : ByteArray := method_15_code
def yL_close : MethodName := ⟨RL, "close", "(LRelationrows;IZ[J)I"⟩
abbrev cL_cover : ByteArray := method_16_code
def yL_cover : MethodName := ⟨RL, "cover", "(LRelationrows;II[J)I"⟩
abbrev cL_has : ByteArray := method_17_code
def yL_has : MethodName := ⟨RL, "has", "(LRelationrows;III[J)I"⟩
abbrev cL_count : ByteArray := method_18_code
def yL_count : MethodName := ⟨RL, "count", "(LRelationrows;I[J)I"⟩
abbrev cL_countOf : ByteArray := method_19_code
def yL_countOf : MethodName := ⟨RL, "countOf", "(LRelationrows;II[J)I"⟩
abbrev cL_beside : ByteArray := method_20_code
def yL_beside : MethodName := ⟨RL, "beside", "(LRelationrows;IIII[J)I"⟩
abbrev cL_wordOf : ByteArray := method_21_code
def yL_wordOf : MethodName := ⟨RL, "wordOf", "(LRelationrows;III[J)I"⟩
abbrev cL_meet : ByteArray := method_22_code
def yL_meet : MethodName := ⟨RL, "meet", "(LRelationrows;IIII[J)I"⟩
abbrev cL_compare : ByteArray := method_23_code
def yL_compare : MethodName := ⟨RL, "compare", "(LRelationrows;II[J)I"⟩
abbrev cL_is : ByteArray := method_24_code
def yL_is : MethodName := ⟨RL, "is", "(LRelationrows;II[J)I"⟩
abbrev cL_steps : ByteArray := method_25_code
def yL_steps : MethodName := ⟨RL, "steps", "(LRelationrows;III[J)I"⟩
abbrev cL_classOf : ByteArray := method_26_code
def yL_classOf : MethodName := ⟨RL, "classOf", "(LRelationrows;II[J)I"⟩
abbrev cL_classes : ByteArray := method_27_code
def yL_classes : MethodName := ⟨RL, "classes", "(LRelationrows;I[J)I"⟩
abbrev cL_hasRing : ByteArray := method_28_code
def yL_hasRing : MethodName := ⟨RL, "hasRing", "(LRelationrows;I[J)I"⟩
abbrev cL_orderAt : ByteArray := method_29_code
def yL_orderAt : MethodName := ⟨RL, "orderAt", "(LRelationrows;II[J)I"⟩
abbrev cL_longestWalk : ByteArray := method_30_code
def yL_longestWalk : MethodName := ⟨RL, "longestWalk", "(LRelationrows;I[J)I"⟩
abbrev cL_mark : ByteArray := method_31_code
def yL_mark : MethodName := ⟨RL, "mark", "(LRelationrows;IIZ[J)I"⟩
abbrev cL_spread : ByteArray := method_32_code
def yL_spread : MethodName := ⟨RL, "spread", "(LRelationrows;IZ[J)I"⟩
abbrev cL_markedAt : ByteArray := method_33_code
def yL_markedAt : MethodName := ⟨RL, "markedAt", "(LRelationrows;I[J)I"⟩
abbrev cL_meanRow : ByteArray := method_34_code
def yL_meanRow : MethodName := ⟨RL, "meanRow", "(LRelationrows;I[D)I"⟩
abbrev cL_share : ByteArray := method_35_code
def yL_share : MethodName := ⟨RL, "share", "(LRelationrows;I[D)I"⟩
abbrev cL_law : ByteArray := code
def yL_law : MethodName := ⟨RL, "law", "([I)Z"⟩
abbrev vwCl : List vw_C := [(RX0, TX0, 2), (RX1, TX1, 4), (RX2, TX2, 7), (RX3, TX3, 6), (RX4, TX4, 7), (RX5, TX5, 13)]
end
section
section ZZW
/-- the good words of the tables -/
def zz_g : List Cond := lw_tbl.filter goodWord
theorem zz_g_good : ∀ w ∈ zz_g, goodWord w = true := fun _ h => (List.mem_filter.mp h).2
theorem zz_g_tbl : ∀ w ∈ zz_g, w ∈ lw_tbl := fun _ h => (List.mem_filter.mp h).1
theorem zz_g_in {w : Cond} {i : Nat} (h : lw_tbl[i]? = some w) (g : goodWord w = true) : w ∈ zz_g := List.mem_filter.mpr ⟨List.mem_of_getElem? h, g⟩
theorem zw_l_L_8 : Cond.classLink RL 8 RX4 ∈ zz_g := zz_g_in (i := 57) (by decide +kernel) (by decide +kernel)
theorem zw_b_X4 : Cond.instantiable RX4 7 ∈ zz_g := zz_g_in (i := 58) (by decide +kernel) (by decide +kernel)
theorem zw_n_X4 : Cond.initialized RX4 ∈ zz_g := zz_g_in (i := 42) (by decide +kernel) (by decide +kernel)
theorem zw_l_L_133 : Cond.classLink RL 133 RX5 ∈ zz_g := zz_g_in (i := 886) (by decide +kernel) (by decide +kernel)
theorem zw_b_X5 : Cond.instantiable RX5 13 ∈ zz_g := zz_g_in (i := 887) (by decide +kernel) (by decide +kernel)
theorem zw_n_X5 : Cond.initialized RX5 ∈ zz_g := zz_g_in (i := 47) (by decide +kernel) (by decide +kernel)
theorem zw_a_long : Cond.arrayClass .long ∈ zz_g := zz_g_in (i := 89) (by decide +kernel) (by decide +kernel)
theorem zw_a_double : Cond.arrayClass .double ∈ zz_g := zz_g_in (i := 1184) (by decide +kernel) (by decide +kernel)
theorem zw_k_L_158 : Cond.constantLong RL 158 (4294967295) ∈ zz_g := zz_g_in (i := 1183) (by decide +kernel) (by decide +kernel)
theorem zw_m_L_132 : Cond.methodLink RL 132 yX4_init ∈ zz_g := zz_g_in (i := 59) (by decide +kernel) (by decide +kernel)
theorem zw_i_X4_init : Cond.instanceMethod yX4_init ∈ zz_g := zz_g_in (i := 60) (by decide +kernel) (by decide +kernel)
theorem zw_c_X4_init : Cond.code yX4_init cX4_init 2 none ∈ zz_g := zz_g_in (i := 61) (by decide +kernel) (by decide +kernel)
theorem zw_m_X4_1 : Cond.methodLink RX4 1 objectInit ∈ zz_g := zz_g_in (i := 62) (by decide +kernel) (by decide +kernel)
theorem zw_i_objectInit : Cond.instanceMethod objectInit ∈ zz_g := zz_g_in (i := 63) (by decide +kernel) (by decide +kernel)
theorem zw_c_objectInit : Cond.code objectInit ⟨#[0xb1]⟩ 1 none ∈ zz_g := zz_g_in (i := 64) (by decide +kernel) (by decide +kernel)
theorem zw_f_X4_9 : Cond.fieldLink RX4 9 "Relationrows" "elements" "I" ∈ zz_g := zz_g_in (i := 167) (by decide +kernel) (by decide +kernel)
theorem zw_l_X4_13 : Cond.classLink RX4 13 RX1 ∈ zz_g := zz_g_in (i := 65) (by decide +kernel) (by decide +kernel)
theorem zw_f_X4_15 : Cond.fieldLink RX4 15 "Relationrows" "relations" "[LRelationrows$Relation;" ∈ zz_g := zz_g_in (i := 168) (by decide +kernel) (by decide +kernel)
theorem zw_b_X1 : Cond.instantiable RX1 4 ∈ zz_g := zz_g_in (i := 67) (by decide +kernel) (by decide +kernel)
theorem zw_n_X1 : Cond.initialized RX1 ∈ zz_g := zz_g_in (i := 43) (by decide +kernel) (by decide +kernel)
theorem zw_l_X4_20 : Cond.classLink RX4 20 RX0 ∈ zz_g := zz_g_in (i := 103) (by decide +kernel) (by decide +kernel)
theorem zw_b_X0 : Cond.instantiable RX0 2 ∈ zz_g := zz_g_in (i := 73) (by decide +kernel) (by decide +kernel)
theorem zw_n_X0 : Cond.initialized RX0 ∈ zz_g := zz_g_in (i := 44) (by decide +kernel) (by decide +kernel)
theorem zw_f_X4_23 : Cond.fieldLink RX4 23 "Relationrows" "marks" "LRelationrows$Bits;" ∈ zz_g := zz_g_in (i := 169) (by decide +kernel) (by decide +kernel)
theorem zw_f_X4_27 : Cond.fieldLink RX4 27 "Relationrows" "row" "LRelationrows$Bits;" ∈ zz_g := zz_g_in (i := 170) (by decide +kernel) (by decide +kernel)
theorem zw_f_X4_30 : Cond.fieldLink RX4 30 "Relationrows" "work" "LRelationrows$Relation;" ∈ zz_g := zz_g_in (i := 171) (by decide +kernel) (by decide +kernel)
theorem zw_l_X4_34 : Cond.classLink RX4 34 RX3 ∈ zz_g := zz_g_in (i := 105) (by decide +kernel) (by decide +kernel)
theorem zw_b_X3 : Cond.instantiable RX3 6 ∈ zz_g := zz_g_in (i := 106) (by decide +kernel) (by decide +kernel)
theorem zw_n_X3 : Cond.initialized RX3 ∈ zz_g := zz_g_in (i := 45) (by decide +kernel) (by decide +kernel)
theorem zw_f_X4_37 : Cond.fieldLink RX4 37 "Relationrows" "walks" "LRelationrows$Walks;" ∈ zz_g := zz_g_in (i := 172) (by decide +kernel) (by decide +kernel)
theorem zw_l_X4_41 : Cond.classLink RX4 41 RX2 ∈ zz_g := zz_g_in (i := 133) (by decide +kernel) (by decide +kernel)
theorem zw_b_X2 : Cond.instantiable RX2 7 ∈ zz_g := zz_g_in (i := 134) (by decide +kernel) (by decide +kernel)
theorem zw_n_X2 : Cond.initialized RX2 ∈ zz_g := zz_g_in (i := 46) (by decide +kernel) (by decide +kernel)
theorem zw_f_X4_44 : Cond.fieldLink RX4 44 "Relationrows" "theorem" "LRelationrows$Theorem;" ∈ zz_g := zz_g_in (i := 173) (by decide +kernel) (by decide +kernel)
theorem zw_i_X1_init : Cond.instanceMethod yX1_init ∈ zz_g := zz_g_in (i := 69) (by decide +kernel) (by decide +kernel)
theorem zw_c_X1_init : Cond.code yX1_init cX1_init 1 none ∈ zz_g := zz_g_in (i := 70) (by decide +kernel) (by decide +kernel)
theorem zw_m_X1_3 : Cond.methodLink RX1 3 objectInit ∈ zz_g := zz_g_in (i := 71) (by decide +kernel) (by decide +kernel)
theorem zw_f_X1_9 : Cond.fieldLink RX1 9 "Relationrows$Relation" "elements" "I" ∈ zz_g := zz_g_in (i := 90) (by decide +kernel) (by decide +kernel)
theorem zw_f_X1_15 : Cond.fieldLink RX1 15 "Relationrows$Relation" "low" "[J" ∈ zz_g := zz_g_in (i := 91) (by decide +kernel) (by decide +kernel)
theorem zw_f_X1_19 : Cond.fieldLink RX1 19 "Relationrows$Relation" "high" "[J" ∈ zz_g := zz_g_in (i := 92) (by decide +kernel) (by decide +kernel)
theorem zw_l_X1_22 : Cond.classLink RX1 22 RX0 ∈ zz_g := zz_g_in (i := 72) (by decide +kernel) (by decide +kernel)
theorem zw_f_X1_25 : Cond.fieldLink RX1 25 "Relationrows$Relation" "row" "LRelationrows$Bits;" ∈ zz_g := zz_g_in (i := 93) (by decide +kernel) (by decide +kernel)
theorem zw_i_X0_init : Cond.instanceMethod yX0_init ∈ zz_g := zz_g_in (i := 75) (by decide +kernel) (by decide +kernel)
theorem zw_c_X0_init : Cond.code yX0_init cX0_init 1 none ∈ zz_g := zz_g_in (i := 76) (by decide +kernel) (by decide +kernel)
theorem zw_m_X0_3 : Cond.methodLink RX0 3 objectInit ∈ zz_g := zz_g_in (i := 77) (by decide +kernel) (by decide +kernel)
theorem zw_i_X3_init : Cond.instanceMethod yX3_init ∈ zz_g := zz_g_in (i := 108) (by decide +kernel) (by decide +kernel)
theorem zw_c_X3_init : Cond.code yX3_init cX3_init 1 none ∈ zz_g := zz_g_in (i := 109) (by decide +kernel) (by decide +kernel)
theorem zw_m_X3_3 : Cond.methodLink RX3 3 objectInit ∈ zz_g := zz_g_in (i := 110) (by decide +kernel) (by decide +kernel)
theorem zw_l_X3_9 : Cond.classLink RX3 9 RX0 ∈ zz_g := zz_g_in (i := 111) (by decide +kernel) (by decide +kernel)
theorem zw_f_X3_12 : Cond.fieldLink RX3 12 "Relationrows$Walks" "reached" "LRelationrows$Bits;" ∈ zz_g := zz_g_in (i := 113) (by decide +kernel) (by decide +kernel)
theorem zw_f_X3_18 : Cond.fieldLink RX3 18 "Relationrows$Walks" "fresh" "LRelationrows$Bits;" ∈ zz_g := zz_g_in (i := 114) (by decide +kernel) (by decide +kernel)
theorem zw_f_X3_21 : Cond.fieldLink RX3 21 "Relationrows$Walks" "left" "LRelationrows$Bits;" ∈ zz_g := zz_g_in (i := 115) (by decide +kernel) (by decide +kernel)
theorem zw_f_X3_24 : Cond.fieldLink RX3 24 "Relationrows$Walks" "blocked" "LRelationrows$Bits;" ∈ zz_g := zz_g_in (i := 116) (by decide +kernel) (by decide +kernel)
theorem zw_f_X3_27 : Cond.fieldLink RX3 27 "Relationrows$Walks" "free" "LRelationrows$Bits;" ∈ zz_g := zz_g_in (i := 117) (by decide +kernel) (by decide +kernel)
theorem zw_a_int : Cond.arrayClass .int ∈ zz_g := zz_g_in (i := 132) (by decide +kernel) (by decide +kernel)
theorem zw_f_X3_30 : Cond.fieldLink RX3 30 "Relationrows$Walks" "order" "[I" ∈ zz_g := zz_g_in (i := 118) (by decide +kernel) (by decide +kernel)
theorem zw_i_X2_init : Cond.instanceMethod yX2_init ∈ zz_g := zz_g_in (i := 136) (by decide +kernel) (by decide +kernel)
theorem zw_c_X2_init : Cond.code yX2_init cX2_init 1 none ∈ zz_g := zz_g_in (i := 137) (by decide +kernel) (by decide +kernel)
theorem zw_m_X2_3 : Cond.methodLink RX2 3 objectInit ∈ zz_g := zz_g_in (i := 138) (by decide +kernel) (by decide +kernel)
theorem zw_l_X2_9 : Cond.classLink RX2 9 RX3 ∈ zz_g := zz_g_in (i := 139) (by decide +kernel) (by decide +kernel)
theorem zw_f_X2_12 : Cond.fieldLink RX2 12 "Relationrows$Theorem" "walks" "LRelationrows$Walks;" ∈ zz_g := zz_g_in (i := 145) (by decide +kernel) (by decide +kernel)
theorem zw_l_X2_18 : Cond.classLink RX2 18 RX1 ∈ zz_g := zz_g_in (i := 141) (by decide +kernel) (by decide +kernel)
theorem zw_f_X2_21 : Cond.fieldLink RX2 21 "Relationrows$Theorem" "left" "LRelationrows$Relation;" ∈ zz_g := zz_g_in (i := 146) (by decide +kernel) (by decide +kernel)
theorem zw_f_X2_25 : Cond.fieldLink RX2 25 "Relationrows$Theorem" "right" "LRelationrows$Relation;" ∈ zz_g := zz_g_in (i := 147) (by decide +kernel) (by decide +kernel)
theorem zw_f_X2_28 : Cond.fieldLink RX2 28 "Relationrows$Theorem" "middle" "LRelationrows$Relation;" ∈ zz_g := zz_g_in (i := 148) (by decide +kernel) (by decide +kernel)
theorem zw_l_X2_31 : Cond.classLink RX2 31 RX0 ∈ zz_g := zz_g_in (i := 143) (by decide +kernel) (by decide +kernel)
theorem zw_f_X2_34 : Cond.fieldLink RX2 34 "Relationrows$Theorem" "row" "LRelationrows$Bits;" ∈ zz_g := zz_g_in (i := 149) (by decide +kernel) (by decide +kernel)
theorem zw_f_X2_38 : Cond.fieldLink RX2 38 "Relationrows$Theorem" "other" "LRelationrows$Bits;" ∈ zz_g := zz_g_in (i := 150) (by decide +kernel) (by decide +kernel)
theorem zw_f_X2_41 : Cond.fieldLink RX2 41 "Relationrows$Theorem" "leasts" "[I" ∈ zz_g := zz_g_in (i := 151) (by decide +kernel) (by decide +kernel)
theorem zw_m_L_135 : Cond.methodLink RL 135 yX5_init ∈ zz_g := zz_g_in (i := 888) (by decide +kernel) (by decide +kernel)
theorem zw_i_X5_init : Cond.instanceMethod yX5_init ∈ zz_g := zz_g_in (i := 889) (by decide +kernel) (by decide +kernel)
theorem zw_c_X5_init : Cond.code yX5_init cX5_init 1 none ∈ zz_g := zz_g_in (i := 890) (by decide +kernel) (by decide +kernel)
theorem zw_m_X5_1 : Cond.methodLink RX5 1 objectInit ∈ zz_g := zz_g_in (i := 891) (by decide +kernel) (by decide +kernel)
theorem zw_a_boolean : Cond.arrayClass .boolean ∈ zz_g := zz_g_in (i := 932) (by decide +kernel) (by decide +kernel)
theorem zw_f_X5_7 : Cond.fieldLink RX5 7 "RelationrowsModel" "has" "[Z" ∈ zz_g := zz_g_in (i := 892) (by decide +kernel) (by decide +kernel)
theorem zw_f_X5_13 : Cond.fieldLink RX5 13 "RelationrowsModel" "isMarked" "[Z" ∈ zz_g := zz_g_in (i := 893) (by decide +kernel) (by decide +kernel)
theorem zw_f_X5_16 : Cond.fieldLink RX5 16 "RelationrowsModel" "elements" "I" ∈ zz_g := zz_g_in (i := 894) (by decide +kernel) (by decide +kernel)
theorem zw_f_X5_20 : Cond.fieldLink RX5 20 "RelationrowsModel" "square" "[Z" ∈ zz_g := zz_g_in (i := 896) (by decide +kernel) (by decide +kernel)
theorem zw_f_X5_23 : Cond.fieldLink RX5 23 "RelationrowsModel" "other" "[Z" ∈ zz_g := zz_g_in (i := 897) (by decide +kernel) (by decide +kernel)
theorem zw_f_X5_26 : Cond.fieldLink RX5 26 "RelationrowsModel" "third" "[Z" ∈ zz_g := zz_g_in (i := 898) (by decide +kernel) (by decide +kernel)
theorem zw_f_X5_29 : Cond.fieldLink RX5 29 "RelationrowsModel" "isMet" "[Z" ∈ zz_g := zz_g_in (i := 899) (by decide +kernel) (by decide +kernel)
theorem zw_f_X5_32 : Cond.fieldLink RX5 32 "RelationrowsModel" "was" "[Z" ∈ zz_g := zz_g_in (i := 900) (by decide +kernel) (by decide +kernel)
theorem zw_f_X5_35 : Cond.fieldLink RX5 35 "RelationrowsModel" "queue" "[I" ∈ zz_g := zz_g_in (i := 901) (by decide +kernel) (by decide +kernel)
theorem zw_f_X5_39 : Cond.fieldLink RX5 39 "RelationrowsModel" "far" "[I" ∈ zz_g := zz_g_in (i := 902) (by decide +kernel) (by decide +kernel)
theorem zw_f_X5_42 : Cond.fieldLink RX5 42 "RelationrowsModel" "order" "[I" ∈ zz_g := zz_g_in (i := 903) (by decide +kernel) (by decide +kernel)
theorem zw_f_X5_45 : Cond.fieldLink RX5 45 "RelationrowsModel" "longest" "[I" ∈ zz_g := zz_g_in (i := 904) (by decide +kernel) (by decide +kernel)
theorem zw_m_L_136 : Cond.methodLink RL 136 yL_begin ∈ zz_g := zz_g_in (i := 488) (by decide +kernel) (by decide +kernel)
theorem zw_t_L_begin : Cond.static yL_begin ∈ zz_g := zz_g_in (i := 489) (by decide +kernel) (by decide +kernel)
theorem zw_n_L : Cond.initialized RL ∈ zz_g := zz_g_in (i := 41) (by decide +kernel) (by decide +kernel)
theorem zw_c_L_begin : Cond.codeWith yL_begin cL_begin 4 (some .int) [(0, 9, 12, 13)] ∈ zz_g := zz_g_in (i := 490) (by decide +kernel) (by decide +kernel)
theorem zw_l_L_13 : Cond.classLink RL 13 "java/lang/IllegalArgumentException" ∈ zz_g := zz_g_in (i := 491) (by decide +kernel) (by decide +kernel)
theorem zw_m_L_7 : Cond.methodLink RL 7 yX4_begin ∈ zz_g := zz_g_in (i := 492) (by decide +kernel) (by decide +kernel)
theorem zw_i_X4_begin : Cond.instanceMethod yX4_begin ∈ zz_g := zz_g_in (i := 493) (by decide +kernel) (by decide +kernel)
theorem zw_s_X4_begin : Cond.selects RX4 yX4_begin yX4_begin ∈ zz_g := zz_g_in (i := 494) (by decide +kernel) (by decide +kernel)
theorem zw_c_X4_begin : Cond.code yX4_begin cX4_begin 4 (some .int) ∈ zz_g := zz_g_in (i := 495) (by decide +kernel) (by decide +kernel)
theorem zw_l_X4_48 : Cond.classLink RX4 48 "java/lang/IllegalArgumentException" ∈ zz_g := zz_g_in (i := 496) (by decide +kernel) (by decide +kernel)
theorem zw_n_java_lang_IllegalArgumentException : Cond.initialized "java/lang/IllegalArgumentException" ∈ zz_g := zz_g_in (i := 51) (by decide +kernel) (by decide +kernel)
theorem zw_m_X4_55 : Cond.methodLink RX4 55 yX4_relationAt ∈ zz_g := zz_g_in (i := 205) (by decide +kernel) (by decide +kernel)
theorem zw_i_X4_relationAt : Cond.instanceMethod yX4_relationAt ∈ zz_g := zz_g_in (i := 207) (by decide +kernel) (by decide +kernel)
theorem zw_s_X4_relationAt : Cond.selects RX4 yX4_relationAt yX4_relationAt ∈ zz_g := zz_g_in (i := 0) (by decide +kernel) (by decide +kernel)
theorem zw_c_X4_relationAt : Cond.code yX4_relationAt cX4_relationAt 2 (some (.object "Relationrows$Relation")) ∈ zz_g := zz_g_in (i := 208) (by decide +kernel) (by decide +kernel)
theorem zw_l_X4_239 : Cond.classLink RX4 239 "java/lang/IndexOutOfBoundsException" ∈ zz_g := zz_g_in (i := 209) (by decide +kernel) (by decide +kernel)
theorem zw_n_java_lang_IndexOutOfBoundsException : Cond.initialized "java/lang/IndexOutOfBoundsException" ∈ zz_g := zz_g_in (i := 52) (by decide +kernel) (by decide +kernel)
theorem zw_m_X4_59 : Cond.methodLink RX4 59 yX1_restart ∈ zz_g := zz_g_in (i := 512) (by decide +kernel) (by decide +kernel)
theorem zw_i_X1_restart : Cond.instanceMethod yX1_restart ∈ zz_g := zz_g_in (i := 513) (by decide +kernel) (by decide +kernel)
theorem zw_s_X1_restart : Cond.selects RX1 yX1_restart yX1_restart ∈ zz_g := zz_g_in (i := 514) (by decide +kernel) (by decide +kernel)
theorem zw_c_X1_restart : Cond.code yX1_restart cX1_restart 3 none ∈ zz_g := zz_g_in (i := 515) (by decide +kernel) (by decide +kernel)
theorem zw_m_X1_29 : Cond.methodLink RX1 29 yX0_clear ∈ zz_g := zz_g_in (i := 516) (by decide +kernel) (by decide +kernel)
theorem zw_i_X0_clear : Cond.instanceMethod yX0_clear ∈ zz_g := zz_g_in (i := 410) (by decide +kernel) (by decide +kernel)
theorem zw_s_X0_clear : Cond.selects RX0 yX0_clear yX0_clear ∈ zz_g := zz_g_in (i := 411) (by decide +kernel) (by decide +kernel)
theorem zw_c_X0_clear : Cond.code yX0_clear cX0_clear 1 none ∈ zz_g := zz_g_in (i := 412) (by decide +kernel) (by decide +kernel)
theorem zw_f_X0_17 : Cond.fieldLink RX0 17 "Relationrows$Bits" "low" "J" ∈ zz_g := zz_g_in (i := 78) (by decide +kernel) (by decide +kernel)
theorem zw_f_X0_21 : Cond.fieldLink RX0 21 "Relationrows$Bits" "high" "J" ∈ zz_g := zz_g_in (i := 81) (by decide +kernel) (by decide +kernel)
theorem zw_m_X1_32 : Cond.methodLink RX1 32 yX1_putRow ∈ zz_g := zz_g_in (i := 469) (by decide +kernel) (by decide +kernel)
theorem zw_i_X1_putRow : Cond.instanceMethod yX1_putRow ∈ zz_g := zz_g_in (i := 470) (by decide +kernel) (by decide +kernel)
theorem zw_s_X1_putRow : Cond.selects RX1 yX1_putRow yX1_putRow ∈ zz_g := zz_g_in (i := 471) (by decide +kernel) (by decide +kernel)
theorem zw_c_X1_putRow : Cond.code yX1_putRow cX1_putRow 3 none ∈ zz_g := zz_g_in (i := 472) (by decide +kernel) (by decide +kernel)
theorem zw_f_X1_40 : Cond.fieldLink RX1 40 "Relationrows$Bits" "low" "J" ∈ zz_g := zz_g_in (i := 79) (by decide +kernel) (by decide +kernel)
theorem zw_f_X1_46 : Cond.fieldLink RX1 46 "Relationrows$Bits" "high" "J" ∈ zz_g := zz_g_in (i := 82) (by decide +kernel) (by decide +kernel)
theorem zw_m_X1_48 : Cond.methodLink RX1 48 yX1_putWords ∈ zz_g := zz_g_in (i := 294) (by decide +kernel) (by decide +kernel)
theorem zw_i_X1_putWords : Cond.instanceMethod yX1_putWords ∈ zz_g := zz_g_in (i := 296) (by decide +kernel) (by decide +kernel)
theorem zw_s_X1_putWords : Cond.selects RX1 yX1_putWords yX1_putWords ∈ zz_g := zz_g_in (i := 2) (by decide +kernel) (by decide +kernel)
theorem zw_c_X1_putWords : Cond.code yX1_putWords cX1_putWords 6 none ∈ zz_g := zz_g_in (i := 297) (by decide +kernel) (by decide +kernel)
theorem zw_m_X4_63 : Cond.methodLink RX4 63 yX0_clear ∈ zz_g := zz_g_in (i := 517) (by decide +kernel) (by decide +kernel)
theorem zw_m_L_141 : Cond.methodLink RL 141 yX5_begin ∈ zz_g := zz_g_in (i := 937) (by decide +kernel) (by decide +kernel)
theorem zw_i_X5_begin : Cond.instanceMethod yX5_begin ∈ zz_g := zz_g_in (i := 938) (by decide +kernel) (by decide +kernel)
theorem zw_s_X5_begin : Cond.selects RX5 yX5_begin yX5_begin ∈ zz_g := zz_g_in (i := 939) (by decide +kernel) (by decide +kernel)
theorem zw_c_X5_begin : Cond.code yX5_begin cX5_begin 4 (some .int) ∈ zz_g := zz_g_in (i := 940) (by decide +kernel) (by decide +kernel)
theorem zw_m_X5_51 : Cond.methodLink RX5 51 yX5_in ∈ zz_g := zz_g_in (i := 941) (by decide +kernel) (by decide +kernel)
theorem zw_t_X5_in : Cond.static yX5_in ∈ zz_g := zz_g_in (i := 942) (by decide +kernel) (by decide +kernel)
theorem zw_c_X5_in : Cond.code yX5_in cX5_in 3 (some .boolean) ∈ zz_g := zz_g_in (i := 943) (by decide +kernel) (by decide +kernel)
theorem zw_m_X5_77 : Cond.methodLink RX5 77 yX5_refuse ∈ zz_g := zz_g_in (i := 944) (by decide +kernel) (by decide +kernel)
theorem zw_i_X5_refuse : Cond.instanceMethod yX5_refuse ∈ zz_g := zz_g_in (i := 946) (by decide +kernel) (by decide +kernel)
theorem zw_s_X5_refuse : Cond.selects RX5 yX5_refuse yX5_refuse ∈ zz_g := zz_g_in (i := 17) (by decide +kernel) (by decide +kernel)
theorem zw_c_X5_refuse : Cond.code yX5_refuse cX5_refuse 2 (some .int) ∈ zz_g := zz_g_in (i := 947) (by decide +kernel) (by decide +kernel)
theorem zw_f_X5_48 : Cond.fieldLink RX5 48 "RelationrowsModel" "thrown" "I" ∈ zz_g := zz_g_in (i := 895) (by decide +kernel) (by decide +kernel)
theorem zw_m_X5_80 : Cond.methodLink RX5 80 yX5_told ∈ zz_g := zz_g_in (i := 948) (by decide +kernel) (by decide +kernel)
theorem zw_i_X5_told : Cond.instanceMethod yX5_told ∈ zz_g := zz_g_in (i := 950) (by decide +kernel) (by decide +kernel)
theorem zw_s_X5_told : Cond.selects RX5 yX5_told yX5_told ∈ zz_g := zz_g_in (i := 18) (by decide +kernel) (by decide +kernel)
theorem zw_c_X5_told : Cond.code yX5_told cX5_told 2 (some .int) ∈ zz_g := zz_g_in (i := 951) (by decide +kernel) (by decide +kernel)
theorem zw_m_L_142 : Cond.methodLink RL 142 yX5_thrown ∈ zz_g := zz_g_in (i := 933) (by decide +kernel) (by decide +kernel)
theorem zw_i_X5_thrown : Cond.instanceMethod yX5_thrown ∈ zz_g := zz_g_in (i := 934) (by decide +kernel) (by decide +kernel)
theorem zw_s_X5_thrown : Cond.selects RX5 yX5_thrown yX5_thrown ∈ zz_g := zz_g_in (i := 935) (by decide +kernel) (by decide +kernel)
theorem zw_c_X5_thrown : Cond.code yX5_thrown cX5_thrown 1 (some .int) ∈ zz_g := zz_g_in (i := 936) (by decide +kernel) (by decide +kernel)
theorem zw_m_L_146 : Cond.methodLink RL 146 yL_set ∈ zz_g := zz_g_in (i := 518) (by decide +kernel) (by decide +kernel)
theorem zw_t_L_set : Cond.static yL_set ∈ zz_g := zz_g_in (i := 519) (by decide +kernel) (by decide +kernel)
theorem zw_c_L_set : Cond.codeWith yL_set cL_set 7 (some .int) [(0, 21, 24, 19)] ∈ zz_g := zz_g_in (i := 520) (by decide +kernel) (by decide +kernel)
theorem zw_l_L_19 : Cond.classLink RL 19 "java/lang/IndexOutOfBoundsException" ∈ zz_g := zz_g_in (i := 521) (by decide +kernel) (by decide +kernel)
theorem zw_m_L_15 : Cond.methodLink RL 15 yX4_set ∈ zz_g := zz_g_in (i := 522) (by decide +kernel) (by decide +kernel)
theorem zw_i_X4_set : Cond.instanceMethod yX4_set ∈ zz_g := zz_g_in (i := 523) (by decide +kernel) (by decide +kernel)
theorem zw_s_X4_set : Cond.selects RX4 yX4_set yX4_set ∈ zz_g := zz_g_in (i := 524) (by decide +kernel) (by decide +kernel)
theorem zw_c_X4_set : Cond.code yX4_set cX4_set 7 (some .boolean) ∈ zz_g := zz_g_in (i := 525) (by decide +kernel) (by decide +kernel)
theorem zw_m_X4_66 : Cond.methodLink RX4 66 yX4_checkElement ∈ zz_g := zz_g_in (i := 526) (by decide +kernel) (by decide +kernel)
theorem zw_i_X4_checkElement : Cond.instanceMethod yX4_checkElement ∈ zz_g := zz_g_in (i := 528) (by decide +kernel) (by decide +kernel)
theorem zw_s_X4_checkElement : Cond.selects RX4 yX4_checkElement yX4_checkElement ∈ zz_g := zz_g_in (i := 12) (by decide +kernel) (by decide +kernel)
theorem zw_c_X4_checkElement : Cond.code yX4_checkElement cX4_checkElement 2 none ∈ zz_g := zz_g_in (i := 529) (by decide +kernel) (by decide +kernel)
theorem zw_m_X4_69 : Cond.methodLink RX4 69 yX1_holds ∈ zz_g := zz_g_in (i := 531) (by decide +kernel) (by decide +kernel)
theorem zw_i_X1_holds : Cond.instanceMethod yX1_holds ∈ zz_g := zz_g_in (i := 303) (by decide +kernel) (by decide +kernel)
theorem zw_s_X1_holds : Cond.selects RX1 yX1_holds yX1_holds ∈ zz_g := zz_g_in (i := 304) (by decide +kernel) (by decide +kernel)
theorem zw_c_X1_holds : Cond.code yX1_holds cX1_holds 5 (some .boolean) ∈ zz_g := zz_g_in (i := 305) (by decide +kernel) (by decide +kernel)
theorem zw_m_X1_36 : Cond.methodLink RX1 36 yX1_lowAt ∈ zz_g := zz_g_in (i := 286) (by decide +kernel) (by decide +kernel)
theorem zw_i_X1_lowAt : Cond.instanceMethod yX1_lowAt ∈ zz_g := zz_g_in (i := 287) (by decide +kernel) (by decide +kernel)
theorem zw_s_X1_lowAt : Cond.selects RX1 yX1_lowAt yX1_lowAt ∈ zz_g := zz_g_in (i := 288) (by decide +kernel) (by decide +kernel)
theorem zw_c_X1_lowAt : Cond.code yX1_lowAt cX1_lowAt 2 (some .long) ∈ zz_g := zz_g_in (i := 289) (by decide +kernel) (by decide +kernel)
theorem zw_m_X1_43 : Cond.methodLink RX1 43 yX1_highAt ∈ zz_g := zz_g_in (i := 290) (by decide +kernel) (by decide +kernel)
theorem zw_i_X1_highAt : Cond.instanceMethod yX1_highAt ∈ zz_g := zz_g_in (i := 291) (by decide +kernel) (by decide +kernel)
theorem zw_s_X1_highAt : Cond.selects RX1 yX1_highAt yX1_highAt ∈ zz_g := zz_g_in (i := 292) (by decide +kernel) (by decide +kernel)
theorem zw_c_X1_highAt : Cond.code yX1_highAt cX1_highAt 2 (some .long) ∈ zz_g := zz_g_in (i := 293) (by decide +kernel) (by decide +kernel)
theorem zw_m_X4_73 : Cond.methodLink RX4 73 yX1_rowInto ∈ zz_g := zz_g_in (i := 532) (by decide +kernel) (by decide +kernel)
theorem zw_i_X1_rowInto : Cond.instanceMethod yX1_rowInto ∈ zz_g := zz_g_in (i := 315) (by decide +kernel) (by decide +kernel)
theorem zw_s_X1_rowInto : Cond.selects RX1 yX1_rowInto yX1_rowInto ∈ zz_g := zz_g_in (i := 316) (by decide +kernel) (by decide +kernel)
theorem zw_c_X1_rowInto : Cond.code yX1_rowInto cX1_rowInto 3 none ∈ zz_g := zz_g_in (i := 317) (by decide +kernel) (by decide +kernel)
theorem zw_m_X4_77 : Cond.methodLink RX4 77 yX0_putRange ∈ zz_g := zz_g_in (i := 533) (by decide +kernel) (by decide +kernel)
theorem zw_i_X0_putRange : Cond.instanceMethod yX0_putRange ∈ zz_g := zz_g_in (i := 414) (by decide +kernel) (by decide +kernel)
theorem zw_s_X0_putRange : Cond.selects RX0 yX0_putRange yX0_putRange ∈ zz_g := zz_g_in (i := 415) (by decide +kernel) (by decide +kernel)
theorem zw_c_X0_putRange : Cond.code yX0_putRange cX0_putRange 8 none ∈ zz_g := zz_g_in (i := 416) (by decide +kernel) (by decide +kernel)
theorem zw_k_X0_9 : Cond.constantLong RX0 9 (-1) ∈ zz_g := zz_g_in (i := 351) (by decide +kernel) (by decide +kernel)
theorem zw_m_X0_24 : Cond.methodLink RX0 24 yX0_lowRange ∈ zz_g := zz_g_in (i := 417) (by decide +kernel) (by decide +kernel)
theorem zw_t_X0_lowRange : Cond.static yX0_lowRange ∈ zz_g := zz_g_in (i := 418) (by decide +kernel) (by decide +kernel)
theorem zw_c_X0_lowRange : Cond.code yX0_lowRange cX0_lowRange 2 (some .long) ∈ zz_g := zz_g_in (i := 419) (by decide +kernel) (by decide +kernel)
theorem zw_m_X0_11 : Cond.methodLink RX0 11 yX0_below ∈ zz_g := zz_g_in (i := 348) (by decide +kernel) (by decide +kernel)
theorem zw_t_X0_below : Cond.static yX0_below ∈ zz_g := zz_g_in (i := 349) (by decide +kernel) (by decide +kernel)
theorem zw_c_X0_below : Cond.code yX0_below cX0_below 1 (some .long) ∈ zz_g := zz_g_in (i := 350) (by decide +kernel) (by decide +kernel)
theorem zw_m_X0_28 : Cond.methodLink RX0 28 yX0_highRange ∈ zz_g := zz_g_in (i := 420) (by decide +kernel) (by decide +kernel)
theorem zw_t_X0_highRange : Cond.static yX0_highRange ∈ zz_g := zz_g_in (i := 421) (by decide +kernel) (by decide +kernel)
theorem zw_c_X0_highRange : Cond.code yX0_highRange cX0_highRange 2 (some .long) ∈ zz_g := zz_g_in (i := 422) (by decide +kernel) (by decide +kernel)
theorem zw_m_X4_81 : Cond.methodLink RX4 81 yX1_putRow ∈ zz_g := zz_g_in (i := 534) (by decide +kernel) (by decide +kernel)
theorem zw_m_L_149 : Cond.methodLink RL 149 yX5_set ∈ zz_g := zz_g_in (i := 952) (by decide +kernel) (by decide +kernel)
theorem zw_i_X5_set : Cond.instanceMethod yX5_set ∈ zz_g := zz_g_in (i := 953) (by decide +kernel) (by decide +kernel)
theorem zw_s_X5_set : Cond.selects RX5 yX5_set yX5_set ∈ zz_g := zz_g_in (i := 954) (by decide +kernel) (by decide +kernel)
theorem zw_c_X5_set : Cond.code yX5_set cX5_set 6 (some .boolean) ∈ zz_g := zz_g_in (i := 955) (by decide +kernel) (by decide +kernel)
theorem zw_m_X5_83 : Cond.methodLink RX5 83 yX5_isRow ∈ zz_g := zz_g_in (i := 956) (by decide +kernel) (by decide +kernel)
theorem zw_i_X5_isRow : Cond.instanceMethod yX5_isRow ∈ zz_g := zz_g_in (i := 958) (by decide +kernel) (by decide +kernel)
theorem zw_s_X5_isRow : Cond.selects RX5 yX5_isRow yX5_isRow ∈ zz_g := zz_g_in (i := 19) (by decide +kernel) (by decide +kernel)
theorem zw_c_X5_isRow : Cond.code yX5_isRow cX5_isRow 3 (some .boolean) ∈ zz_g := zz_g_in (i := 959) (by decide +kernel) (by decide +kernel)
theorem zw_m_X5_55 : Cond.methodLink RX5 55 yX5_isRelation ∈ zz_g := zz_g_in (i := 960) (by decide +kernel) (by decide +kernel)
theorem zw_t_X5_isRelation : Cond.static yX5_isRelation ∈ zz_g := zz_g_in (i := 961) (by decide +kernel) (by decide +kernel)
theorem zw_c_X5_isRelation : Cond.code yX5_isRelation cX5_isRelation 1 (some .boolean) ∈ zz_g := zz_g_in (i := 962) (by decide +kernel) (by decide +kernel)
theorem zw_m_X5_59 : Cond.methodLink RX5 59 yX5_isElement ∈ zz_g := zz_g_in (i := 963) (by decide +kernel) (by decide +kernel)
theorem zw_i_X5_isElement : Cond.instanceMethod yX5_isElement ∈ zz_g := zz_g_in (i := 965) (by decide +kernel) (by decide +kernel)
theorem zw_s_X5_isElement : Cond.selects RX5 yX5_isElement yX5_isElement ∈ zz_g := zz_g_in (i := 20) (by decide +kernel) (by decide +kernel)
theorem zw_c_X5_isElement : Cond.code yX5_isElement cX5_isElement 2 (some .boolean) ∈ zz_g := zz_g_in (i := 966) (by decide +kernel) (by decide +kernel)
theorem zw_m_X5_87 : Cond.methodLink RX5 87 yX5_denies ∈ zz_g := zz_g_in (i := 967) (by decide +kernel) (by decide +kernel)
theorem zw_i_X5_denies : Cond.instanceMethod yX5_denies ∈ zz_g := zz_g_in (i := 969) (by decide +kernel) (by decide +kernel)
theorem zw_s_X5_denies : Cond.selects RX5 yX5_denies yX5_denies ∈ zz_g := zz_g_in (i := 21) (by decide +kernel) (by decide +kernel)
theorem zw_c_X5_denies : Cond.code yX5_denies cX5_denies 2 (some .boolean) ∈ zz_g := zz_g_in (i := 970) (by decide +kernel) (by decide +kernel)
theorem zw_m_X5_66 : Cond.methodLink RX5 66 yX5_leads ∈ zz_g := zz_g_in (i := 971) (by decide +kernel) (by decide +kernel)
theorem zw_i_X5_leads : Cond.instanceMethod yX5_leads ∈ zz_g := zz_g_in (i := 973) (by decide +kernel) (by decide +kernel)
theorem zw_s_X5_leads : Cond.selects RX5 yX5_leads yX5_leads ∈ zz_g := zz_g_in (i := 22) (by decide +kernel) (by decide +kernel)
theorem zw_c_X5_leads : Cond.code yX5_leads cX5_leads 4 (some .boolean) ∈ zz_g := zz_g_in (i := 974) (by decide +kernel) (by decide +kernel)
theorem zw_m_X5_62 : Cond.methodLink RX5 62 yX5_place ∈ zz_g := zz_g_in (i := 975) (by decide +kernel) (by decide +kernel)
theorem zw_t_X5_place : Cond.static yX5_place ∈ zz_g := zz_g_in (i := 976) (by decide +kernel) (by decide +kernel)
theorem zw_c_X5_place : Cond.code yX5_place cX5_place 3 (some .int) ∈ zz_g := zz_g_in (i := 977) (by decide +kernel) (by decide +kernel)
theorem zw_m_X5_90 : Cond.methodLink RX5 90 yX5_says ∈ zz_g := zz_g_in (i := 978) (by decide +kernel) (by decide +kernel)
theorem zw_i_X5_says : Cond.instanceMethod yX5_says ∈ zz_g := zz_g_in (i := 980) (by decide +kernel) (by decide +kernel)
theorem zw_s_X5_says : Cond.selects RX5 yX5_says yX5_says ∈ zz_g := zz_g_in (i := 23) (by decide +kernel) (by decide +kernel)
theorem zw_c_X5_says : Cond.code yX5_says cX5_says 2 (some .boolean) ∈ zz_g := zz_g_in (i := 981) (by decide +kernel) (by decide +kernel)
theorem zw_m_L_150 : Cond.methodLink RL 150 yL_setRange ∈ zz_g := zz_g_in (i := 535) (by decide +kernel) (by decide +kernel)
theorem zw_t_L_setRange : Cond.static yL_setRange ∈ zz_g := zz_g_in (i := 536) (by decide +kernel) (by decide +kernel)
theorem zw_c_L_setRange : Cond.codeWith yL_setRange cL_setRange 8 (some .int) [(0, 16, 19, 19)] ∈ zz_g := zz_g_in (i := 537) (by decide +kernel) (by decide +kernel)
theorem zw_m_L_21 : Cond.methodLink RL 21 yX4_setRange ∈ zz_g := zz_g_in (i := 538) (by decide +kernel) (by decide +kernel)
theorem zw_i_X4_setRange : Cond.instanceMethod yX4_setRange ∈ zz_g := zz_g_in (i := 539) (by decide +kernel) (by decide +kernel)
theorem zw_s_X4_setRange : Cond.selects RX4 yX4_setRange yX4_setRange ∈ zz_g := zz_g_in (i := 540) (by decide +kernel) (by decide +kernel)
theorem zw_c_X4_setRange : Cond.code yX4_setRange cX4_setRange 7 (some .int) ∈ zz_g := zz_g_in (i := 541) (by decide +kernel) (by decide +kernel)
theorem zw_m_X4_84 : Cond.methodLink RX4 84 yX4_checkRange ∈ zz_g := zz_g_in (i := 542) (by decide +kernel) (by decide +kernel)
theorem zw_i_X4_checkRange : Cond.instanceMethod yX4_checkRange ∈ zz_g := zz_g_in (i := 544) (by decide +kernel) (by decide +kernel)
theorem zw_s_X4_checkRange : Cond.selects RX4 yX4_checkRange yX4_checkRange ∈ zz_g := zz_g_in (i := 13) (by decide +kernel) (by decide +kernel)
theorem zw_c_X4_checkRange : Cond.code yX4_checkRange cX4_checkRange 3 none ∈ zz_g := zz_g_in (i := 545) (by decide +kernel) (by decide +kernel)
theorem zw_m_X4_88 : Cond.methodLink RX4 88 yX1_sizeOf ∈ zz_g := zz_g_in (i := 547) (by decide +kernel) (by decide +kernel)
theorem zw_i_X1_sizeOf : Cond.instanceMethod yX1_sizeOf ∈ zz_g := zz_g_in (i := 548) (by decide +kernel) (by decide +kernel)
theorem zw_s_X1_sizeOf : Cond.selects RX1 yX1_sizeOf yX1_sizeOf ∈ zz_g := zz_g_in (i := 549) (by decide +kernel) (by decide +kernel)
theorem zw_c_X1_sizeOf : Cond.code yX1_sizeOf cX1_sizeOf 2 (some .int) ∈ zz_g := zz_g_in (i := 550) (by decide +kernel) (by decide +kernel)
theorem zw_m_X1_63 : Cond.methodLink RX1 63 yJ13_bitCount_95d88 ∈ zz_g := zz_g_in (i := 551) (by decide +kernel) (by decide +kernel)
theorem zw_t_J13_bitCount_95d88 : Cond.static yJ13_bitCount_95d88 ∈ zz_g := zz_g_in (i := 356) (by decide +kernel) (by decide +kernel)
theorem zw_n_J13 : Cond.initialized RJ13 ∈ zz_g := zz_g_in (i := 53) (by decide +kernel) (by decide +kernel)
theorem zw_c_J13_bitCount_95d88 : Cond.code yJ13_bitCount_95d88 cJ13_bitCount_95d88 2 (some .int) ∈ zz_g := zz_g_in (i := 357) (by decide +kernel) (by decide +kernel)
theorem zw_k_J13_314 : Cond.constantLong RJ13 314 (6148914691236517205) ∈ zz_g := zz_g_in (i := 358) (by decide +kernel) (by decide +kernel)
theorem zw_k_J13_316 : Cond.constantLong RJ13 316 (3689348814741910323) ∈ zz_g := zz_g_in (i := 359) (by decide +kernel) (by decide +kernel)
theorem zw_k_J13_318 : Cond.constantLong RJ13 318 (1085102592571150095) ∈ zz_g := zz_g_in (i := 360) (by decide +kernel) (by decide +kernel)
theorem zw_m_L_153 : Cond.methodLink RL 153 yX5_setRange ∈ zz_g := zz_g_in (i := 982) (by decide +kernel) (by decide +kernel)
theorem zw_i_X5_setRange : Cond.instanceMethod yX5_setRange ∈ zz_g := zz_g_in (i := 983) (by decide +kernel) (by decide +kernel)
theorem zw_s_X5_setRange : Cond.selects RX5 yX5_setRange yX5_setRange ∈ zz_g := zz_g_in (i := 984) (by decide +kernel) (by decide +kernel)
theorem zw_c_X5_setRange : Cond.code yX5_setRange cX5_setRange 7 (some .int) ∈ zz_g := zz_g_in (i := 985) (by decide +kernel) (by decide +kernel)
theorem zw_m_X5_94 : Cond.methodLink RX5 94 yX5_isRange ∈ zz_g := zz_g_in (i := 986) (by decide +kernel) (by decide +kernel)
theorem zw_i_X5_isRange : Cond.instanceMethod yX5_isRange ∈ zz_g := zz_g_in (i := 988) (by decide +kernel) (by decide +kernel)
theorem zw_s_X5_isRange : Cond.selects RX5 yX5_isRange yX5_isRange ∈ zz_g := zz_g_in (i := 24) (by decide +kernel) (by decide +kernel)
theorem zw_c_X5_isRange : Cond.code yX5_isRange cX5_isRange 3 (some .boolean) ∈ zz_g := zz_g_in (i := 989) (by decide +kernel) (by decide +kernel)
theorem zw_m_X5_69 : Cond.methodLink RX5 69 yX5_inRow ∈ zz_g := zz_g_in (i := 990) (by decide +kernel) (by decide +kernel)
theorem zw_i_X5_inRow : Cond.instanceMethod yX5_inRow ∈ zz_g := zz_g_in (i := 992) (by decide +kernel) (by decide +kernel)
theorem zw_s_X5_inRow : Cond.selects RX5 yX5_inRow yX5_inRow ∈ zz_g := zz_g_in (i := 25) (by decide +kernel) (by decide +kernel)
theorem zw_c_X5_inRow : Cond.code yX5_inRow cX5_inRow 5 (some .int) ∈ zz_g := zz_g_in (i := 993) (by decide +kernel) (by decide +kernel)
theorem zw_m_L_154 : Cond.methodLink RL 154 yL_flipRange ∈ zz_g := zz_g_in (i := 552) (by decide +kernel) (by decide +kernel)
theorem zw_t_L_flipRange : Cond.static yL_flipRange ∈ zz_g := zz_g_in (i := 553) (by decide +kernel) (by decide +kernel)
theorem zw_c_L_flipRange : Cond.codeWith yL_flipRange cL_flipRange 7 (some .int) [(0, 14, 17, 19)] ∈ zz_g := zz_g_in (i := 554) (by decide +kernel) (by decide +kernel)
theorem zw_m_L_25 : Cond.methodLink RL 25 yX4_flipRange ∈ zz_g := zz_g_in (i := 555) (by decide +kernel) (by decide +kernel)
theorem zw_i_X4_flipRange : Cond.instanceMethod yX4_flipRange ∈ zz_g := zz_g_in (i := 556) (by decide +kernel) (by decide +kernel)
theorem zw_s_X4_flipRange : Cond.selects RX4 yX4_flipRange yX4_flipRange ∈ zz_g := zz_g_in (i := 557) (by decide +kernel) (by decide +kernel)
theorem zw_c_X4_flipRange : Cond.code yX4_flipRange cX4_flipRange 6 (some .int) ∈ zz_g := zz_g_in (i := 558) (by decide +kernel) (by decide +kernel)
theorem zw_m_X4_92 : Cond.methodLink RX4 92 yX0_invert ∈ zz_g := zz_g_in (i := 559) (by decide +kernel) (by decide +kernel)
theorem zw_i_X0_invert : Cond.instanceMethod yX0_invert ∈ zz_g := zz_g_in (i := 560) (by decide +kernel) (by decide +kernel)
theorem zw_s_X0_invert : Cond.selects RX0 yX0_invert yX0_invert ∈ zz_g := zz_g_in (i := 561) (by decide +kernel) (by decide +kernel)
theorem zw_c_X0_invert : Cond.code yX0_invert cX0_invert 3 none ∈ zz_g := zz_g_in (i := 562) (by decide +kernel) (by decide +kernel)
theorem zw_m_L_157 : Cond.methodLink RL 157 yX5_flipRange ∈ zz_g := zz_g_in (i := 994) (by decide +kernel) (by decide +kernel)
theorem zw_i_X5_flipRange : Cond.instanceMethod yX5_flipRange ∈ zz_g := zz_g_in (i := 995) (by decide +kernel) (by decide +kernel)
theorem zw_s_X5_flipRange : Cond.selects RX5 yX5_flipRange yX5_flipRange ∈ zz_g := zz_g_in (i := 996) (by decide +kernel) (by decide +kernel)
theorem zw_c_X5_flipRange : Cond.code yX5_flipRange cX5_flipRange 6 (some .int) ∈ zz_g := zz_g_in (i := 997) (by decide +kernel) (by decide +kernel)
theorem zw_m_L_160 : Cond.methodLink RL 160 yL_setRow ∈ zz_g := zz_g_in (i := 563) (by decide +kernel) (by decide +kernel)
theorem zw_t_L_setRow : Cond.static yL_setRow ∈ zz_g := zz_g_in (i := 564) (by decide +kernel) (by decide +kernel)
theorem zw_c_L_setRow : Cond.codeWith yL_setRow cL_setRow 7 (some .int) [(0, 12, 15, 19)] ∈ zz_g := zz_g_in (i := 565) (by decide +kernel) (by decide +kernel)
theorem zw_m_L_29 : Cond.methodLink RL 29 yX4_setRow ∈ zz_g := zz_g_in (i := 566) (by decide +kernel) (by decide +kernel)
theorem zw_i_X4_setRow : Cond.instanceMethod yX4_setRow ∈ zz_g := zz_g_in (i := 567) (by decide +kernel) (by decide +kernel)
theorem zw_s_X4_setRow : Cond.selects RX4 yX4_setRow yX4_setRow ∈ zz_g := zz_g_in (i := 568) (by decide +kernel) (by decide +kernel)
theorem zw_c_X4_setRow : Cond.code yX4_setRow cX4_setRow 6 (some .int) ∈ zz_g := zz_g_in (i := 569) (by decide +kernel) (by decide +kernel)
theorem zw_f_X4_99 : Cond.fieldLink RX4 99 "Relationrows$Bits" "low" "J" ∈ zz_g := zz_g_in (i := 80) (by decide +kernel) (by decide +kernel)
theorem zw_m_X4_95 : Cond.methodLink RX4 95 yX0_lowRange ∈ zz_g := zz_g_in (i := 570) (by decide +kernel) (by decide +kernel)
theorem zw_m_L_163 : Cond.methodLink RL 163 yX5_setRow ∈ zz_g := zz_g_in (i := 998) (by decide +kernel) (by decide +kernel)
theorem zw_i_X5_setRow : Cond.instanceMethod yX5_setRow ∈ zz_g := zz_g_in (i := 999) (by decide +kernel) (by decide +kernel)
theorem zw_s_X5_setRow : Cond.selects RX5 yX5_setRow yX5_setRow ∈ zz_g := zz_g_in (i := 1000) (by decide +kernel) (by decide +kernel)
theorem zw_c_X5_setRow : Cond.code yX5_setRow cX5_setRow 6 (some .int) ∈ zz_g := zz_g_in (i := 1001) (by decide +kernel) (by decide +kernel)
theorem zw_m_L_164 : Cond.methodLink RL 164 yL_chain ∈ zz_g := zz_g_in (i := 571) (by decide +kernel) (by decide +kernel)
theorem zw_t_L_chain : Cond.static yL_chain ∈ zz_g := zz_g_in (i := 572) (by decide +kernel) (by decide +kernel)
theorem zw_c_L_chain : Cond.codeWith yL_chain cL_chain 4 (some .int) [(0, 9, 12, 19)] ∈ zz_g := zz_g_in (i := 573) (by decide +kernel) (by decide +kernel)
theorem zw_m_L_33 : Cond.methodLink RL 33 yX4_chain ∈ zz_g := zz_g_in (i := 574) (by decide +kernel) (by decide +kernel)
theorem zw_i_X4_chain : Cond.instanceMethod yX4_chain ∈ zz_g := zz_g_in (i := 575) (by decide +kernel) (by decide +kernel)
theorem zw_s_X4_chain : Cond.selects RX4 yX4_chain yX4_chain ∈ zz_g := zz_g_in (i := 576) (by decide +kernel) (by decide +kernel)
theorem zw_c_X4_chain : Cond.code yX4_chain cX4_chain 4 (some .int) ∈ zz_g := zz_g_in (i := 577) (by decide +kernel) (by decide +kernel)
theorem zw_m_X4_103 : Cond.methodLink RX4 103 yX1_join ∈ zz_g := zz_g_in (i := 578) (by decide +kernel) (by decide +kernel)
theorem zw_i_X1_join : Cond.instanceMethod yX1_join ∈ zz_g := zz_g_in (i := 579) (by decide +kernel) (by decide +kernel)
theorem zw_s_X1_join : Cond.selects RX1 yX1_join yX1_join ∈ zz_g := zz_g_in (i := 580) (by decide +kernel) (by decide +kernel)
theorem zw_c_X1_join : Cond.code yX1_join cX1_join 3 none ∈ zz_g := zz_g_in (i := 581) (by decide +kernel) (by decide +kernel)
theorem zw_m_X1_52 : Cond.methodLink RX1 52 yX0_lowRange ∈ zz_g := zz_g_in (i := 582) (by decide +kernel) (by decide +kernel)
theorem zw_m_X1_56 : Cond.methodLink RX1 56 yX0_highRange ∈ zz_g := zz_g_in (i := 583) (by decide +kernel) (by decide +kernel)
theorem zw_m_X4_106 : Cond.methodLink RX4 106 yX1_pairs ∈ zz_g := zz_g_in (i := 584) (by decide +kernel) (by decide +kernel)
theorem zw_i_X1_pairs : Cond.instanceMethod yX1_pairs ∈ zz_g := zz_g_in (i := 585) (by decide +kernel) (by decide +kernel)
theorem zw_s_X1_pairs : Cond.selects RX1 yX1_pairs yX1_pairs ∈ zz_g := zz_g_in (i := 586) (by decide +kernel) (by decide +kernel)
theorem zw_c_X1_pairs : Cond.code yX1_pairs cX1_pairs 3 (some .int) ∈ zz_g := zz_g_in (i := 587) (by decide +kernel) (by decide +kernel)
theorem zw_m_X1_69 : Cond.methodLink RX1 69 yX1_sizeOf ∈ zz_g := zz_g_in (i := 588) (by decide +kernel) (by decide +kernel)
theorem zw_m_L_166 : Cond.methodLink RL 166 yX5_chain ∈ zz_g := zz_g_in (i := 1002) (by decide +kernel) (by decide +kernel)
theorem zw_i_X5_chain : Cond.instanceMethod yX5_chain ∈ zz_g := zz_g_in (i := 1003) (by decide +kernel) (by decide +kernel)
theorem zw_s_X5_chain : Cond.selects RX5 yX5_chain yX5_chain ∈ zz_g := zz_g_in (i := 1004) (by decide +kernel) (by decide +kernel)
theorem zw_c_X5_chain : Cond.code yX5_chain cX5_chain 3 (some .int) ∈ zz_g := zz_g_in (i := 1005) (by decide +kernel) (by decide +kernel)
theorem zw_m_X5_73 : Cond.methodLink RX5 73 yX5_pairs ∈ zz_g := zz_g_in (i := 1006) (by decide +kernel) (by decide +kernel)
theorem zw_i_X5_pairs : Cond.instanceMethod yX5_pairs ∈ zz_g := zz_g_in (i := 1008) (by decide +kernel) (by decide +kernel)
theorem zw_s_X5_pairs : Cond.selects RX5 yX5_pairs yX5_pairs ∈ zz_g := zz_g_in (i := 26) (by decide +kernel) (by decide +kernel)
theorem zw_c_X5_pairs : Cond.code yX5_pairs cX5_pairs 4 (some .int) ∈ zz_g := zz_g_in (i := 1009) (by decide +kernel) (by decide +kernel)
theorem zw_m_L_167 : Cond.methodLink RL 167 yL_draw ∈ zz_g := zz_g_in (i := 589) (by decide +kernel) (by decide +kernel)
theorem zw_t_L_draw : Cond.static yL_draw ∈ zz_g := zz_g_in (i := 590) (by decide +kernel) (by decide +kernel)
theorem zw_c_L_draw : Cond.codeWith yL_draw cL_draw 6 (some .int) [(0, 12, 15, 19), (0, 12, 19, 13)] ∈ zz_g := zz_g_in (i := 591) (by decide +kernel) (by decide +kernel)
theorem zw_m_L_36 : Cond.methodLink RL 36 yX4_draw ∈ zz_g := zz_g_in (i := 592) (by decide +kernel) (by decide +kernel)
theorem zw_i_X4_draw : Cond.instanceMethod yX4_draw ∈ zz_g := zz_g_in (i := 593) (by decide +kernel) (by decide +kernel)
theorem zw_s_X4_draw : Cond.selects RX4 yX4_draw yX4_draw ∈ zz_g := zz_g_in (i := 594) (by decide +kernel) (by decide +kernel)
theorem zw_c_X4_draw : Cond.code yX4_draw cX4_draw 8 (some .int) ∈ zz_g := zz_g_in (i := 595) (by decide +kernel) (by decide +kernel)
theorem zw_m_X4_112 : Cond.methodLink RX4 112 yX4_seedAfter ∈ zz_g := zz_g_in (i := 597) (by decide +kernel) (by decide +kernel)
theorem zw_t_X4_seedAfter : Cond.static yX4_seedAfter ∈ zz_g := zz_g_in (i := 598) (by decide +kernel) (by decide +kernel)
theorem zw_c_X4_seedAfter : Cond.code yX4_seedAfter cX4_seedAfter 1 (some .int) ∈ zz_g := zz_g_in (i := 599) (by decide +kernel) (by decide +kernel)
theorem zw_k_X4_248 : Cond.constant RX4 248 (1103515245) ∈ zz_g := zz_g_in (i := 600) (by decide +kernel) (by decide +kernel)
theorem zw_m_X4_115 : Cond.methodLink RX4 115 yX4_elementOf ∈ zz_g := zz_g_in (i := 601) (by decide +kernel) (by decide +kernel)
theorem zw_i_X4_elementOf : Cond.instanceMethod yX4_elementOf ∈ zz_g := zz_g_in (i := 603) (by decide +kernel) (by decide +kernel)
theorem zw_s_X4_elementOf : Cond.selects RX4 yX4_elementOf yX4_elementOf ∈ zz_g := zz_g_in (i := 14) (by decide +kernel) (by decide +kernel)
theorem zw_c_X4_elementOf : Cond.code yX4_elementOf cX4_elementOf 2 (some .int) ∈ zz_g := zz_g_in (i := 604) (by decide +kernel) (by decide +kernel)
theorem zw_m_L_170 : Cond.methodLink RL 170 yX5_draw ∈ zz_g := zz_g_in (i := 1010) (by decide +kernel) (by decide +kernel)
theorem zw_i_X5_draw : Cond.instanceMethod yX5_draw ∈ zz_g := zz_g_in (i := 1011) (by decide +kernel) (by decide +kernel)
theorem zw_s_X5_draw : Cond.selects RX5 yX5_draw yX5_draw ∈ zz_g := zz_g_in (i := 1012) (by decide +kernel) (by decide +kernel)
theorem zw_c_X5_draw : Cond.code yX5_draw cX5_draw 7 (some .int) ∈ zz_g := zz_g_in (i := 1013) (by decide +kernel) (by decide +kernel)
theorem zw_k_X5_97 : Cond.constant RX5 97 (1103515245) ∈ zz_g := zz_g_in (i := 1014) (by decide +kernel) (by decide +kernel)
theorem zw_m_L_171 : Cond.methodLink RL 171 yL_copy ∈ zz_g := zz_g_in (i := 605) (by decide +kernel) (by decide +kernel)
theorem zw_t_L_copy : Cond.static yL_copy ∈ zz_g := zz_g_in (i := 606) (by decide +kernel) (by decide +kernel)
theorem zw_c_L_copy : Cond.codeWith yL_copy cL_copy 5 (some .int) [(0, 10, 13, 19)] ∈ zz_g := zz_g_in (i := 607) (by decide +kernel) (by decide +kernel)
theorem zw_m_L_40 : Cond.methodLink RL 40 yX4_copy ∈ zz_g := zz_g_in (i := 608) (by decide +kernel) (by decide +kernel)
theorem zw_i_X4_copy : Cond.instanceMethod yX4_copy ∈ zz_g := zz_g_in (i := 609) (by decide +kernel) (by decide +kernel)
theorem zw_s_X4_copy : Cond.selects RX4 yX4_copy yX4_copy ∈ zz_g := zz_g_in (i := 610) (by decide +kernel) (by decide +kernel)
theorem zw_c_X4_copy : Cond.code yX4_copy cX4_copy 5 (some .int) ∈ zz_g := zz_g_in (i := 611) (by decide +kernel) (by decide +kernel)
theorem zw_m_X4_118 : Cond.methodLink RX4 118 yX1_take ∈ zz_g := zz_g_in (i := 612) (by decide +kernel) (by decide +kernel)
theorem zw_i_X1_take : Cond.instanceMethod yX1_take ∈ zz_g := zz_g_in (i := 283) (by decide +kernel) (by decide +kernel)
theorem zw_s_X1_take : Cond.selects RX1 yX1_take yX1_take ∈ zz_g := zz_g_in (i := 284) (by decide +kernel) (by decide +kernel)
theorem zw_c_X1_take : Cond.code yX1_take cX1_take 3 none ∈ zz_g := zz_g_in (i := 285) (by decide +kernel) (by decide +kernel)
theorem zw_m_L_174 : Cond.methodLink RL 174 yX5_copy ∈ zz_g := zz_g_in (i := 1015) (by decide +kernel) (by decide +kernel)
theorem zw_i_X5_copy : Cond.instanceMethod yX5_copy ∈ zz_g := zz_g_in (i := 1016) (by decide +kernel) (by decide +kernel)
theorem zw_s_X5_copy : Cond.selects RX5 yX5_copy yX5_copy ∈ zz_g := zz_g_in (i := 1017) (by decide +kernel) (by decide +kernel)
theorem zw_c_X5_copy : Cond.code yX5_copy cX5_copy 4 (some .int) ∈ zz_g := zz_g_in (i := 1018) (by decide +kernel) (by decide +kernel)
theorem zw_m_L_175 : Cond.methodLink RL 175 yL_combine ∈ zz_g := zz_g_in (i := 613) (by decide +kernel) (by decide +kernel)
theorem zw_t_L_combine : Cond.static yL_combine ∈ zz_g := zz_g_in (i := 614) (by decide +kernel) (by decide +kernel)
theorem zw_c_L_combine : Cond.codeWith yL_combine cL_combine 6 (some .int) [(0, 12, 15, 19), (0, 12, 19, 13)] ∈ zz_g := zz_g_in (i := 615) (by decide +kernel) (by decide +kernel)
theorem zw_m_L_44 : Cond.methodLink RL 44 yX4_combine ∈ zz_g := zz_g_in (i := 616) (by decide +kernel) (by decide +kernel)
theorem zw_i_X4_combine : Cond.instanceMethod yX4_combine ∈ zz_g := zz_g_in (i := 617) (by decide +kernel) (by decide +kernel)
theorem zw_s_X4_combine : Cond.selects RX4 yX4_combine yX4_combine ∈ zz_g := zz_g_in (i := 618) (by decide +kernel) (by decide +kernel)
theorem zw_c_X4_combine : Cond.code yX4_combine cX4_combine 6 (some .int) ∈ zz_g := zz_g_in (i := 619) (by decide +kernel) (by decide +kernel)
theorem zw_m_X4_124 : Cond.methodLink RX4 124 yX1_mix ∈ zz_g := zz_g_in (i := 621) (by decide +kernel) (by decide +kernel)
theorem zw_i_X1_mix : Cond.instanceMethod yX1_mix ∈ zz_g := zz_g_in (i := 478) (by decide +kernel) (by decide +kernel)
theorem zw_s_X1_mix : Cond.selects RX1 yX1_mix yX1_mix ∈ zz_g := zz_g_in (i := 479) (by decide +kernel) (by decide +kernel)
theorem zw_c_X1_mix : Cond.code yX1_mix cX1_mix 4 none ∈ zz_g := zz_g_in (i := 480) (by decide +kernel) (by decide +kernel)
theorem zw_m_X1_77 : Cond.methodLink RX1 77 yX1_mixed ∈ zz_g := zz_g_in (i := 481) (by decide +kernel) (by decide +kernel)
theorem zw_t_X1_mixed : Cond.static yX1_mixed ∈ zz_g := zz_g_in (i := 482) (by decide +kernel) (by decide +kernel)
theorem zw_c_X1_mixed : Cond.code yX1_mixed cX1_mixed 5 (some .long) ∈ zz_g := zz_g_in (i := 483) (by decide +kernel) (by decide +kernel)
theorem zw_k_X1_81 : Cond.constantLong RX1 81 (-1) ∈ zz_g := zz_g_in (i := 448) (by decide +kernel) (by decide +kernel)
theorem zw_m_L_177 : Cond.methodLink RL 177 yX5_combine ∈ zz_g := zz_g_in (i := 1019) (by decide +kernel) (by decide +kernel)
theorem zw_i_X5_combine : Cond.instanceMethod yX5_combine ∈ zz_g := zz_g_in (i := 1020) (by decide +kernel) (by decide +kernel)
theorem zw_s_X5_combine : Cond.selects RX5 yX5_combine yX5_combine ∈ zz_g := zz_g_in (i := 1021) (by decide +kernel) (by decide +kernel)
theorem zw_c_X5_combine : Cond.code yX5_combine cX5_combine 7 (some .int) ∈ zz_g := zz_g_in (i := 1022) (by decide +kernel) (by decide +kernel)
theorem zw_m_L_178 : Cond.methodLink RL 178 yL_compose ∈ zz_g := zz_g_in (i := 622) (by decide +kernel) (by decide +kernel)
theorem zw_t_L_compose : Cond.static yL_compose ∈ zz_g := zz_g_in (i := 623) (by decide +kernel) (by decide +kernel)
theorem zw_c_L_compose : Cond.codeWith yL_compose cL_compose 6 (some .int) [(0, 12, 15, 19)] ∈ zz_g := zz_g_in (i := 624) (by decide +kernel) (by decide +kernel)
theorem zw_m_L_47 : Cond.methodLink RL 47 yX4_compose ∈ zz_g := zz_g_in (i := 625) (by decide +kernel) (by decide +kernel)
theorem zw_i_X4_compose : Cond.instanceMethod yX4_compose ∈ zz_g := zz_g_in (i := 626) (by decide +kernel) (by decide +kernel)
theorem zw_s_X4_compose : Cond.selects RX4 yX4_compose yX4_compose ∈ zz_g := zz_g_in (i := 627) (by decide +kernel) (by decide +kernel)
theorem zw_c_X4_compose : Cond.code yX4_compose cX4_compose 7 (some .int) ∈ zz_g := zz_g_in (i := 628) (by decide +kernel) (by decide +kernel)
theorem zw_m_X4_128 : Cond.methodLink RX4 128 yX1_product ∈ zz_g := zz_g_in (i := 629) (by decide +kernel) (by decide +kernel)
theorem zw_i_X1_product : Cond.instanceMethod yX1_product ∈ zz_g := zz_g_in (i := 466) (by decide +kernel) (by decide +kernel)
theorem zw_s_X1_product : Cond.selects RX1 yX1_product yX1_product ∈ zz_g := zz_g_in (i := 467) (by decide +kernel) (by decide +kernel)
theorem zw_c_X1_product : Cond.code yX1_product cX1_product 4 none ∈ zz_g := zz_g_in (i := 468) (by decide +kernel) (by decide +kernel)
theorem zw_m_X1_83 : Cond.methodLink RX1 83 yX1_rowInto ∈ zz_g := zz_g_in (i := 446) (by decide +kernel) (by decide +kernel)
theorem zw_m_X1_86 : Cond.methodLink RX1 86 yX1_imageOf ∈ zz_g := zz_g_in (i := 447) (by decide +kernel) (by decide +kernel)
theorem zw_i_X1_imageOf : Cond.instanceMethod yX1_imageOf ∈ zz_g := zz_g_in (i := 341) (by decide +kernel) (by decide +kernel)
theorem zw_s_X1_imageOf : Cond.selects RX1 yX1_imageOf yX1_imageOf ∈ zz_g := zz_g_in (i := 342) (by decide +kernel) (by decide +kernel)
theorem zw_c_X1_imageOf : Cond.code yX1_imageOf cX1_imageOf 9 none ∈ zz_g := zz_g_in (i := 343) (by decide +kernel) (by decide +kernel)
theorem zw_m_X1_96 : Cond.methodLink RX1 96 yX0_leastFrom ∈ zz_g := zz_g_in (i := 344) (by decide +kernel) (by decide +kernel)
theorem zw_i_X0_leastFrom : Cond.instanceMethod yX0_leastFrom ∈ zz_g := zz_g_in (i := 345) (by decide +kernel) (by decide +kernel)
theorem zw_s_X0_leastFrom : Cond.selects RX0 yX0_leastFrom yX0_leastFrom ∈ zz_g := zz_g_in (i := 346) (by decide +kernel) (by decide +kernel)
theorem zw_c_X0_leastFrom : Cond.code yX0_leastFrom cX0_leastFrom 6 (some .int) ∈ zz_g := zz_g_in (i := 347) (by decide +kernel) (by decide +kernel)
theorem zw_m_X0_37 : Cond.methodLink RX0 37 yX0_placeOfLeast ∈ zz_g := zz_g_in (i := 352) (by decide +kernel) (by decide +kernel)
theorem zw_t_X0_placeOfLeast : Cond.static yX0_placeOfLeast ∈ zz_g := zz_g_in (i := 353) (by decide +kernel) (by decide +kernel)
theorem zw_c_X0_placeOfLeast : Cond.code yX0_placeOfLeast cX0_placeOfLeast 2 (some .int) ∈ zz_g := zz_g_in (i := 354) (by decide +kernel) (by decide +kernel)
theorem zw_m_X0_31 : Cond.methodLink RX0 31 yJ13_bitCount_95d88 ∈ zz_g := zz_g_in (i := 355) (by decide +kernel) (by decide +kernel)
theorem zw_m_L_180 : Cond.methodLink RL 180 yX5_compose ∈ zz_g := zz_g_in (i := 1023) (by decide +kernel) (by decide +kernel)
theorem zw_i_X5_compose : Cond.instanceMethod yX5_compose ∈ zz_g := zz_g_in (i := 1024) (by decide +kernel) (by decide +kernel)
theorem zw_s_X5_compose : Cond.selects RX5 yX5_compose yX5_compose ∈ zz_g := zz_g_in (i := 1025) (by decide +kernel) (by decide +kernel)
theorem zw_c_X5_compose : Cond.code yX5_compose cX5_compose 4 (some .int) ∈ zz_g := zz_g_in (i := 1026) (by decide +kernel) (by decide +kernel)
theorem zw_m_X5_98 : Cond.methodLink RX5 98 yX5_composes ∈ zz_g := zz_g_in (i := 1027) (by decide +kernel) (by decide +kernel)
theorem zw_i_X5_composes : Cond.instanceMethod yX5_composes ∈ zz_g := zz_g_in (i := 1029) (by decide +kernel) (by decide +kernel)
theorem zw_s_X5_composes : Cond.selects RX5 yX5_composes yX5_composes ∈ zz_g := zz_g_in (i := 27) (by decide +kernel) (by decide +kernel)
theorem zw_c_X5_composes : Cond.code yX5_composes cX5_composes 7 none ∈ zz_g := zz_g_in (i := 1030) (by decide +kernel) (by decide +kernel)
theorem zw_m_X5_102 : Cond.methodLink RX5 102 yX5_lays ∈ zz_g := zz_g_in (i := 1031) (by decide +kernel) (by decide +kernel)
theorem zw_i_X5_lays : Cond.instanceMethod yX5_lays ∈ zz_g := zz_g_in (i := 1033) (by decide +kernel) (by decide +kernel)
theorem zw_s_X5_lays : Cond.selects RX5 yX5_lays yX5_lays ∈ zz_g := zz_g_in (i := 28) (by decide +kernel) (by decide +kernel)
theorem zw_c_X5_lays : Cond.code yX5_lays cX5_lays 4 (some .int) ∈ zz_g := zz_g_in (i := 1034) (by decide +kernel) (by decide +kernel)
theorem zw_m_L_181 : Cond.methodLink RL 181 yL_turn ∈ zz_g := zz_g_in (i := 630) (by decide +kernel) (by decide +kernel)
theorem zw_t_L_turn : Cond.static yL_turn ∈ zz_g := zz_g_in (i := 631) (by decide +kernel) (by decide +kernel)
theorem zw_c_L_turn : Cond.codeWith yL_turn cL_turn 4 (some .int) [(0, 9, 12, 19)] ∈ zz_g := zz_g_in (i := 632) (by decide +kernel) (by decide +kernel)
theorem zw_m_L_50 : Cond.methodLink RL 50 yX4_turn ∈ zz_g := zz_g_in (i := 633) (by decide +kernel) (by decide +kernel)
theorem zw_i_X4_turn : Cond.instanceMethod yX4_turn ∈ zz_g := zz_g_in (i := 634) (by decide +kernel) (by decide +kernel)
theorem zw_s_X4_turn : Cond.selects RX4 yX4_turn yX4_turn ∈ zz_g := zz_g_in (i := 635) (by decide +kernel) (by decide +kernel)
theorem zw_c_X4_turn : Cond.code yX4_turn cX4_turn 3 (some .int) ∈ zz_g := zz_g_in (i := 636) (by decide +kernel) (by decide +kernel)
theorem zw_m_X4_132 : Cond.methodLink RX4 132 yX1_reverse ∈ zz_g := zz_g_in (i := 637) (by decide +kernel) (by decide +kernel)
theorem zw_i_X1_reverse : Cond.instanceMethod yX1_reverse ∈ zz_g := zz_g_in (i := 638) (by decide +kernel) (by decide +kernel)
theorem zw_s_X1_reverse : Cond.selects RX1 yX1_reverse yX1_reverse ∈ zz_g := zz_g_in (i := 639) (by decide +kernel) (by decide +kernel)
theorem zw_c_X1_reverse : Cond.code yX1_reverse cX1_reverse 3 none ∈ zz_g := zz_g_in (i := 640) (by decide +kernel) (by decide +kernel)
theorem zw_m_X1_73 : Cond.methodLink RX1 73 yX1_holds ∈ zz_g := zz_g_in (i := 302) (by decide +kernel) (by decide +kernel)
theorem zw_m_X1_90 : Cond.methodLink RX1 90 yX1_swapPair ∈ zz_g := zz_g_in (i := 641) (by decide +kernel) (by decide +kernel)
theorem zw_i_X1_swapPair : Cond.instanceMethod yX1_swapPair ∈ zz_g := zz_g_in (i := 643) (by decide +kernel) (by decide +kernel)
theorem zw_s_X1_swapPair : Cond.selects RX1 yX1_swapPair yX1_swapPair ∈ zz_g := zz_g_in (i := 15) (by decide +kernel) (by decide +kernel)
theorem zw_c_X1_swapPair : Cond.code yX1_swapPair cX1_swapPair 3 none ∈ zz_g := zz_g_in (i := 644) (by decide +kernel) (by decide +kernel)
theorem zw_m_L_183 : Cond.methodLink RL 183 yX5_turn ∈ zz_g := zz_g_in (i := 1035) (by decide +kernel) (by decide +kernel)
theorem zw_i_X5_turn : Cond.instanceMethod yX5_turn ∈ zz_g := zz_g_in (i := 1036) (by decide +kernel) (by decide +kernel)
theorem zw_s_X5_turn : Cond.selects RX5 yX5_turn yX5_turn ∈ zz_g := zz_g_in (i := 1037) (by decide +kernel) (by decide +kernel)
theorem zw_c_X5_turn : Cond.code yX5_turn cX5_turn 4 (some .int) ∈ zz_g := zz_g_in (i := 1038) (by decide +kernel) (by decide +kernel)
theorem zw_m_L_184 : Cond.methodLink RL 184 yL_oppose ∈ zz_g := zz_g_in (i := 645) (by decide +kernel) (by decide +kernel)
theorem zw_t_L_oppose : Cond.static yL_oppose ∈ zz_g := zz_g_in (i := 646) (by decide +kernel) (by decide +kernel)
theorem zw_c_L_oppose : Cond.codeWith yL_oppose cL_oppose 4 (some .int) [(0, 9, 12, 19)] ∈ zz_g := zz_g_in (i := 647) (by decide +kernel) (by decide +kernel)
theorem zw_m_L_53 : Cond.methodLink RL 53 yX4_oppose ∈ zz_g := zz_g_in (i := 648) (by decide +kernel) (by decide +kernel)
theorem zw_i_X4_oppose : Cond.instanceMethod yX4_oppose ∈ zz_g := zz_g_in (i := 649) (by decide +kernel) (by decide +kernel)
theorem zw_s_X4_oppose : Cond.selects RX4 yX4_oppose yX4_oppose ∈ zz_g := zz_g_in (i := 650) (by decide +kernel) (by decide +kernel)
theorem zw_c_X4_oppose : Cond.code yX4_oppose cX4_oppose 3 (some .int) ∈ zz_g := zz_g_in (i := 651) (by decide +kernel) (by decide +kernel)
theorem zw_m_X4_135 : Cond.methodLink RX4 135 yX1_invert ∈ zz_g := zz_g_in (i := 652) (by decide +kernel) (by decide +kernel)
theorem zw_i_X1_invert : Cond.instanceMethod yX1_invert ∈ zz_g := zz_g_in (i := 653) (by decide +kernel) (by decide +kernel)
theorem zw_s_X1_invert : Cond.selects RX1 yX1_invert yX1_invert ∈ zz_g := zz_g_in (i := 654) (by decide +kernel) (by decide +kernel)
theorem zw_c_X1_invert : Cond.code yX1_invert cX1_invert 2 none ∈ zz_g := zz_g_in (i := 655) (by decide +kernel) (by decide +kernel)
theorem zw_m_X1_93 : Cond.methodLink RX1 93 yX0_invert ∈ zz_g := zz_g_in (i := 656) (by decide +kernel) (by decide +kernel)
theorem zw_m_L_186 : Cond.methodLink RL 186 yX5_oppose ∈ zz_g := zz_g_in (i := 1039) (by decide +kernel) (by decide +kernel)
theorem zw_i_X5_oppose : Cond.instanceMethod yX5_oppose ∈ zz_g := zz_g_in (i := 1040) (by decide +kernel) (by decide +kernel)
theorem zw_s_X5_oppose : Cond.selects RX5 yX5_oppose yX5_oppose ∈ zz_g := zz_g_in (i := 1041) (by decide +kernel) (by decide +kernel)
theorem zw_c_X5_oppose : Cond.code yX5_oppose cX5_oppose 4 (some .int) ∈ zz_g := zz_g_in (i := 1042) (by decide +kernel) (by decide +kernel)
theorem zw_m_L_187 : Cond.methodLink RL 187 yL_close ∈ zz_g := zz_g_in (i := 657) (by decide +kernel) (by decide +kernel)
theorem zw_t_L_close : Cond.static yL_close ∈ zz_g := zz_g_in (i := 658) (by decide +kernel) (by decide +kernel)
theorem zw_c_L_close : Cond.codeWith yL_close cL_close 5 (some .int) [(0, 10, 13, 19)] ∈ zz_g := zz_g_in (i := 659) (by decide +kernel) (by decide +kernel)
theorem zw_m_L_56 : Cond.methodLink RL 56 yX4_close ∈ zz_g := zz_g_in (i := 660) (by decide +kernel) (by decide +kernel)
theorem zw_i_X4_close : Cond.instanceMethod yX4_close ∈ zz_g := zz_g_in (i := 661) (by decide +kernel) (by decide +kernel)
theorem zw_s_X4_close : Cond.selects RX4 yX4_close yX4_close ∈ zz_g := zz_g_in (i := 662) (by decide +kernel) (by decide +kernel)
theorem zw_c_X4_close : Cond.code yX4_close cX4_close 4 (some .int) ∈ zz_g := zz_g_in (i := 663) (by decide +kernel) (by decide +kernel)
theorem zw_m_X4_137 : Cond.methodLink RX4 137 yX1_closeUp ∈ zz_g := zz_g_in (i := 664) (by decide +kernel) (by decide +kernel)
theorem zw_i_X1_closeUp : Cond.instanceMethod yX1_closeUp ∈ zz_g := zz_g_in (i := 299) (by decide +kernel) (by decide +kernel)
theorem zw_s_X1_closeUp : Cond.selects RX1 yX1_closeUp yX1_closeUp ∈ zz_g := zz_g_in (i := 300) (by decide +kernel) (by decide +kernel)
theorem zw_c_X1_closeUp : Cond.code yX1_closeUp cX1_closeUp 7 none ∈ zz_g := zz_g_in (i := 301) (by decide +kernel) (by decide +kernel)
theorem zw_m_X4_140 : Cond.methodLink RX4 140 yX1_joinOwn ∈ zz_g := zz_g_in (i := 665) (by decide +kernel) (by decide +kernel)
theorem zw_i_X1_joinOwn : Cond.instanceMethod yX1_joinOwn ∈ zz_g := zz_g_in (i := 666) (by decide +kernel) (by decide +kernel)
theorem zw_s_X1_joinOwn : Cond.selects RX1 yX1_joinOwn yX1_joinOwn ∈ zz_g := zz_g_in (i := 667) (by decide +kernel) (by decide +kernel)
theorem zw_c_X1_joinOwn : Cond.code yX1_joinOwn cX1_joinOwn 2 none ∈ zz_g := zz_g_in (i := 668) (by decide +kernel) (by decide +kernel)
theorem zw_m_X1_59 : Cond.methodLink RX1 59 yX1_join ∈ zz_g := zz_g_in (i := 669) (by decide +kernel) (by decide +kernel)
theorem zw_m_L_190 : Cond.methodLink RL 190 yX5_close ∈ zz_g := zz_g_in (i := 1043) (by decide +kernel) (by decide +kernel)
theorem zw_i_X5_close : Cond.instanceMethod yX5_close ∈ zz_g := zz_g_in (i := 1044) (by decide +kernel) (by decide +kernel)
theorem zw_s_X5_close : Cond.selects RX5 yX5_close yX5_close ∈ zz_g := zz_g_in (i := 1045) (by decide +kernel) (by decide +kernel)
theorem zw_c_X5_close : Cond.code yX5_close cX5_close 4 (some .int) ∈ zz_g := zz_g_in (i := 1046) (by decide +kernel) (by decide +kernel)
theorem zw_m_X5_108 : Cond.methodLink RX5 108 yX5_closes ∈ zz_g := zz_g_in (i := 1047) (by decide +kernel) (by decide +kernel)
theorem zw_i_X5_closes : Cond.instanceMethod yX5_closes ∈ zz_g := zz_g_in (i := 1049) (by decide +kernel) (by decide +kernel)
theorem zw_s_X5_closes : Cond.selects RX5 yX5_closes yX5_closes ∈ zz_g := zz_g_in (i := 29) (by decide +kernel) (by decide +kernel)
theorem zw_c_X5_closes : Cond.code yX5_closes cX5_closes 4 none ∈ zz_g := zz_g_in (i := 1050) (by decide +kernel) (by decide +kernel)
theorem zw_m_X5_105 : Cond.methodLink RX5 105 yX5_walks ∈ zz_g := zz_g_in (i := 1051) (by decide +kernel) (by decide +kernel)
theorem zw_i_X5_walks : Cond.instanceMethod yX5_walks ∈ zz_g := zz_g_in (i := 1053) (by decide +kernel) (by decide +kernel)
theorem zw_s_X5_walks : Cond.selects RX5 yX5_walks yX5_walks ∈ zz_g := zz_g_in (i := 30) (by decide +kernel) (by decide +kernel)
theorem zw_c_X5_walks : Cond.code yX5_walks cX5_walks 7 none ∈ zz_g := zz_g_in (i := 1054) (by decide +kernel) (by decide +kernel)
theorem zw_m_L_191 : Cond.methodLink RL 191 yL_cover ∈ zz_g := zz_g_in (i := 670) (by decide +kernel) (by decide +kernel)
theorem zw_t_L_cover : Cond.static yL_cover ∈ zz_g := zz_g_in (i := 671) (by decide +kernel) (by decide +kernel)
theorem zw_c_L_cover : Cond.codeWith yL_cover cL_cover 5 (some .int) [(0, 10, 13, 19), (0, 10, 17, 63)] ∈ zz_g := zz_g_in (i := 672) (by decide +kernel) (by decide +kernel)
theorem zw_l_L_63 : Cond.classLink RL 63 "java/lang/IllegalStateException" ∈ zz_g := zz_g_in (i := 673) (by decide +kernel) (by decide +kernel)
theorem zw_m_L_60 : Cond.methodLink RL 60 yX4_cover ∈ zz_g := zz_g_in (i := 674) (by decide +kernel) (by decide +kernel)
theorem zw_i_X4_cover : Cond.instanceMethod yX4_cover ∈ zz_g := zz_g_in (i := 675) (by decide +kernel) (by decide +kernel)
theorem zw_s_X4_cover : Cond.selects RX4 yX4_cover yX4_cover ∈ zz_g := zz_g_in (i := 676) (by decide +kernel) (by decide +kernel)
theorem zw_c_X4_cover : Cond.code yX4_cover cX4_cover 5 (some .int) ∈ zz_g := zz_g_in (i := 677) (by decide +kernel) (by decide +kernel)
theorem zw_l_X4_147 : Cond.classLink RX4 147 "java/lang/IllegalStateException" ∈ zz_g := zz_g_in (i := 682) (by decide +kernel) (by decide +kernel)
theorem zw_n_java_lang_IllegalStateException : Cond.initialized "java/lang/IllegalStateException" ∈ zz_g := zz_g_in (i := 54) (by decide +kernel) (by decide +kernel)
theorem zw_m_X4_143 : Cond.methodLink RX4 143 yX3_longest ∈ zz_g := zz_g_in (i := 678) (by decide +kernel) (by decide +kernel)
theorem zw_i_X3_longest : Cond.instanceMethod yX3_longest ∈ zz_g := zz_g_in (i := 679) (by decide +kernel) (by decide +kernel)
theorem zw_s_X3_longest : Cond.selects RX3 yX3_longest yX3_longest ∈ zz_g := zz_g_in (i := 680) (by decide +kernel) (by decide +kernel)
theorem zw_c_X3_longest : Cond.code yX3_longest cX3_longest 4 (some .int) ∈ zz_g := zz_g_in (i := 681) (by decide +kernel) (by decide +kernel)
theorem zw_m_X3_34 : Cond.methodLink RX3 34 yX1_elementsInside ∈ zz_g := zz_g_in (i := 322) (by decide +kernel) (by decide +kernel)
theorem zw_i_X1_elementsInside : Cond.instanceMethod yX1_elementsInside ∈ zz_g := zz_g_in (i := 311) (by decide +kernel) (by decide +kernel)
theorem zw_s_X1_elementsInside : Cond.selects RX1 yX1_elementsInside yX1_elementsInside ∈ zz_g := zz_g_in (i := 312) (by decide +kernel) (by decide +kernel)
theorem zw_c_X1_elementsInside : Cond.code yX1_elementsInside cX1_elementsInside 1 (some .int) ∈ zz_g := zz_g_in (i := 313) (by decide +kernel) (by decide +kernel)
theorem zw_m_X3_74 : Cond.methodLink RX3 74 yX0_clear ∈ zz_g := zz_g_in (i := 409) (by decide +kernel) (by decide +kernel)
theorem zw_m_X3_77 : Cond.methodLink RX3 77 yX0_putRange ∈ zz_g := zz_g_in (i := 413) (by decide +kernel) (by decide +kernel)
theorem zw_m_X3_64 : Cond.methodLink RX3 64 yX1_imageOf ∈ zz_g := zz_g_in (i := 340) (by decide +kernel) (by decide +kernel)
theorem zw_m_X3_52 : Cond.methodLink RX3 52 yX0_isEmpty ∈ zz_g := zz_g_in (i := 332) (by decide +kernel) (by decide +kernel)
theorem zw_i_X0_isEmpty : Cond.instanceMethod yX0_isEmpty ∈ zz_g := zz_g_in (i := 333) (by decide +kernel) (by decide +kernel)
theorem zw_s_X0_isEmpty : Cond.selects RX0 yX0_isEmpty yX0_isEmpty ∈ zz_g := zz_g_in (i := 334) (by decide +kernel) (by decide +kernel)
theorem zw_c_X0_isEmpty : Cond.code yX0_isEmpty cX0_isEmpty 1 (some .boolean) ∈ zz_g := zz_g_in (i := 335) (by decide +kernel) (by decide +kernel)
theorem zw_m_X4_152 : Cond.methodLink RX4 152 yX4_closeAside ∈ zz_g := zz_g_in (i := 698) (by decide +kernel) (by decide +kernel)
theorem zw_i_X4_closeAside : Cond.instanceMethod yX4_closeAside ∈ zz_g := zz_g_in (i := 700) (by decide +kernel) (by decide +kernel)
theorem zw_s_X4_closeAside : Cond.selects RX4 yX4_closeAside yX4_closeAside ∈ zz_g := zz_g_in (i := 16) (by decide +kernel) (by decide +kernel)
theorem zw_c_X4_closeAside : Cond.code yX4_closeAside cX4_closeAside 2 none ∈ zz_g := zz_g_in (i := 701) (by decide +kernel) (by decide +kernel)
theorem zw_m_X4_155 : Cond.methodLink RX4 155 yX1_takeCovers ∈ zz_g := zz_g_in (i := 702) (by decide +kernel) (by decide +kernel)
theorem zw_i_X1_takeCovers : Cond.instanceMethod yX1_takeCovers ∈ zz_g := zz_g_in (i := 443) (by decide +kernel) (by decide +kernel)
theorem zw_s_X1_takeCovers : Cond.selects RX1 yX1_takeCovers yX1_takeCovers ∈ zz_g := zz_g_in (i := 444) (by decide +kernel) (by decide +kernel)
theorem zw_c_X1_takeCovers : Cond.code yX1_takeCovers cX1_takeCovers 3 none ∈ zz_g := zz_g_in (i := 445) (by decide +kernel) (by decide +kernel)
theorem zw_m_L_193 : Cond.methodLink RL 193 yX5_cover ∈ zz_g := zz_g_in (i := 1055) (by decide +kernel) (by decide +kernel)
theorem zw_i_X5_cover : Cond.instanceMethod yX5_cover ∈ zz_g := zz_g_in (i := 1056) (by decide +kernel) (by decide +kernel)
theorem zw_s_X5_cover : Cond.selects RX5 yX5_cover yX5_cover ∈ zz_g := zz_g_in (i := 1057) (by decide +kernel) (by decide +kernel)
theorem zw_c_X5_cover : Cond.code yX5_cover cX5_cover 4 (some .int) ∈ zz_g := zz_g_in (i := 1058) (by decide +kernel) (by decide +kernel)
theorem zw_m_X5_112 : Cond.methodLink RX5 112 yX5_isRinged ∈ zz_g := zz_g_in (i := 1059) (by decide +kernel) (by decide +kernel)
theorem zw_i_X5_isRinged : Cond.instanceMethod yX5_isRinged ∈ zz_g := zz_g_in (i := 1061) (by decide +kernel) (by decide +kernel)
theorem zw_s_X5_isRinged : Cond.selects RX5 yX5_isRinged yX5_isRinged ∈ zz_g := zz_g_in (i := 31) (by decide +kernel) (by decide +kernel)
theorem zw_c_X5_isRinged : Cond.code yX5_isRinged cX5_isRinged 4 (some .boolean) ∈ zz_g := zz_g_in (i := 1062) (by decide +kernel) (by decide +kernel)
theorem zw_m_X5_115 : Cond.methodLink RX5 115 yX5_covers ∈ zz_g := zz_g_in (i := 1063) (by decide +kernel) (by decide +kernel)
theorem zw_i_X5_covers : Cond.instanceMethod yX5_covers ∈ zz_g := zz_g_in (i := 1065) (by decide +kernel) (by decide +kernel)
theorem zw_s_X5_covers : Cond.selects RX5 yX5_covers yX5_covers ∈ zz_g := zz_g_in (i := 32) (by decide +kernel) (by decide +kernel)
theorem zw_c_X5_covers : Cond.code yX5_covers cX5_covers 5 none ∈ zz_g := zz_g_in (i := 1066) (by decide +kernel) (by decide +kernel)
theorem zw_m_L_194 : Cond.methodLink RL 194 yL_has ∈ zz_g := zz_g_in (i := 703) (by decide +kernel) (by decide +kernel)
theorem zw_t_L_has : Cond.static yL_has ∈ zz_g := zz_g_in (i := 704) (by decide +kernel) (by decide +kernel)
theorem zw_c_L_has : Cond.codeWith yL_has cL_has 6 (some .int) [(0, 19, 22, 19)] ∈ zz_g := zz_g_in (i := 705) (by decide +kernel) (by decide +kernel)
theorem zw_m_L_65 : Cond.methodLink RL 65 yX4_has ∈ zz_g := zz_g_in (i := 706) (by decide +kernel) (by decide +kernel)
theorem zw_i_X4_has : Cond.instanceMethod yX4_has ∈ zz_g := zz_g_in (i := 707) (by decide +kernel) (by decide +kernel)
theorem zw_s_X4_has : Cond.selects RX4 yX4_has yX4_has ∈ zz_g := zz_g_in (i := 708) (by decide +kernel) (by decide +kernel)
theorem zw_c_X4_has : Cond.code yX4_has cX4_has 5 (some .boolean) ∈ zz_g := zz_g_in (i := 709) (by decide +kernel) (by decide +kernel)
theorem zw_m_L_196 : Cond.methodLink RL 196 yX5_has ∈ zz_g := zz_g_in (i := 1067) (by decide +kernel) (by decide +kernel)
theorem zw_i_X5_has : Cond.instanceMethod yX5_has ∈ zz_g := zz_g_in (i := 1068) (by decide +kernel) (by decide +kernel)
theorem zw_s_X5_has : Cond.selects RX5 yX5_has yX5_has ∈ zz_g := zz_g_in (i := 1069) (by decide +kernel) (by decide +kernel)
theorem zw_c_X5_has : Cond.code yX5_has cX5_has 4 (some .boolean) ∈ zz_g := zz_g_in (i := 1070) (by decide +kernel) (by decide +kernel)
theorem zw_m_L_197 : Cond.methodLink RL 197 yL_count ∈ zz_g := zz_g_in (i := 710) (by decide +kernel) (by decide +kernel)
theorem zw_t_L_count : Cond.static yL_count ∈ zz_g := zz_g_in (i := 711) (by decide +kernel) (by decide +kernel)
theorem zw_c_L_count : Cond.codeWith yL_count cL_count 4 (some .int) [(0, 9, 12, 19)] ∈ zz_g := zz_g_in (i := 712) (by decide +kernel) (by decide +kernel)
theorem zw_m_L_69 : Cond.methodLink RL 69 yX4_count ∈ zz_g := zz_g_in (i := 713) (by decide +kernel) (by decide +kernel)
theorem zw_i_X4_count : Cond.instanceMethod yX4_count ∈ zz_g := zz_g_in (i := 714) (by decide +kernel) (by decide +kernel)
theorem zw_s_X4_count : Cond.selects RX4 yX4_count yX4_count ∈ zz_g := zz_g_in (i := 715) (by decide +kernel) (by decide +kernel)
theorem zw_c_X4_count : Cond.code yX4_count cX4_count 2 (some .int) ∈ zz_g := zz_g_in (i := 716) (by decide +kernel) (by decide +kernel)
theorem zw_m_L_199 : Cond.methodLink RL 199 yX5_count ∈ zz_g := zz_g_in (i := 1071) (by decide +kernel) (by decide +kernel)
theorem zw_i_X5_count : Cond.instanceMethod yX5_count ∈ zz_g := zz_g_in (i := 1072) (by decide +kernel) (by decide +kernel)
theorem zw_s_X5_count : Cond.selects RX5 yX5_count yX5_count ∈ zz_g := zz_g_in (i := 1073) (by decide +kernel) (by decide +kernel)
theorem zw_c_X5_count : Cond.code yX5_count cX5_count 2 (some .int) ∈ zz_g := zz_g_in (i := 1074) (by decide +kernel) (by decide +kernel)
theorem zw_m_L_200 : Cond.methodLink RL 200 yL_countOf ∈ zz_g := zz_g_in (i := 717) (by decide +kernel) (by decide +kernel)
theorem zw_t_L_countOf : Cond.static yL_countOf ∈ zz_g := zz_g_in (i := 718) (by decide +kernel) (by decide +kernel)
theorem zw_c_L_countOf : Cond.codeWith yL_countOf cL_countOf 5 (some .int) [(0, 10, 13, 19)] ∈ zz_g := zz_g_in (i := 719) (by decide +kernel) (by decide +kernel)
theorem zw_m_L_72 : Cond.methodLink RL 72 yX4_countOf ∈ zz_g := zz_g_in (i := 720) (by decide +kernel) (by decide +kernel)
theorem zw_i_X4_countOf : Cond.instanceMethod yX4_countOf ∈ zz_g := zz_g_in (i := 721) (by decide +kernel) (by decide +kernel)
theorem zw_s_X4_countOf : Cond.selects RX4 yX4_countOf yX4_countOf ∈ zz_g := zz_g_in (i := 722) (by decide +kernel) (by decide +kernel)
theorem zw_c_X4_countOf : Cond.code yX4_countOf cX4_countOf 4 (some .int) ∈ zz_g := zz_g_in (i := 723) (by decide +kernel) (by decide +kernel)
theorem zw_m_L_202 : Cond.methodLink RL 202 yX5_countOf ∈ zz_g := zz_g_in (i := 1075) (by decide +kernel) (by decide +kernel)
theorem zw_i_X5_countOf : Cond.instanceMethod yX5_countOf ∈ zz_g := zz_g_in (i := 1076) (by decide +kernel) (by decide +kernel)
theorem zw_s_X5_countOf : Cond.selects RX5 yX5_countOf yX5_countOf ∈ zz_g := zz_g_in (i := 1077) (by decide +kernel) (by decide +kernel)
theorem zw_c_X5_countOf : Cond.code yX5_countOf cX5_countOf 3 (some .int) ∈ zz_g := zz_g_in (i := 1078) (by decide +kernel) (by decide +kernel)
theorem zw_m_L_203 : Cond.methodLink RL 203 yL_beside ∈ zz_g := zz_g_in (i := 724) (by decide +kernel) (by decide +kernel)
theorem zw_t_L_beside : Cond.static yL_beside ∈ zz_g := zz_g_in (i := 725) (by decide +kernel) (by decide +kernel)
theorem zw_c_L_beside : Cond.codeWith yL_beside cL_beside 7 (some .int) [(0, 14, 17, 19), (0, 14, 21, 13)] ∈ zz_g := zz_g_in (i := 726) (by decide +kernel) (by decide +kernel)
theorem zw_m_L_75 : Cond.methodLink RL 75 yX4_beside ∈ zz_g := zz_g_in (i := 727) (by decide +kernel) (by decide +kernel)
theorem zw_i_X4_beside : Cond.instanceMethod yX4_beside ∈ zz_g := zz_g_in (i := 728) (by decide +kernel) (by decide +kernel)
theorem zw_s_X4_beside : Cond.selects RX4 yX4_beside yX4_beside ∈ zz_g := zz_g_in (i := 729) (by decide +kernel) (by decide +kernel)
theorem zw_c_X4_beside : Cond.code yX4_beside cX4_beside 6 (some .int) ∈ zz_g := zz_g_in (i := 730) (by decide +kernel) (by decide +kernel)
theorem zw_m_X4_158 : Cond.methodLink RX4 158 yX0_leastFrom ∈ zz_g := zz_g_in (i := 731) (by decide +kernel) (by decide +kernel)
theorem zw_m_X4_161 : Cond.methodLink RX4 161 yX0_greatestTo ∈ zz_g := zz_g_in (i := 193) (by decide +kernel) (by decide +kernel)
theorem zw_i_X0_greatestTo : Cond.instanceMethod yX0_greatestTo ∈ zz_g := zz_g_in (i := 194) (by decide +kernel) (by decide +kernel)
theorem zw_s_X0_greatestTo : Cond.selects RX0 yX0_greatestTo yX0_greatestTo ∈ zz_g := zz_g_in (i := 195) (by decide +kernel) (by decide +kernel)
theorem zw_c_X0_greatestTo : Cond.code yX0_greatestTo cX0_greatestTo 3 (some .int) ∈ zz_g := zz_g_in (i := 196) (by decide +kernel) (by decide +kernel)
theorem zw_m_X0_40 : Cond.methodLink RX0 40 yX0_holds ∈ zz_g := zz_g_in (i := 197) (by decide +kernel) (by decide +kernel)
theorem zw_i_X0_holds : Cond.instanceMethod yX0_holds ∈ zz_g := zz_g_in (i := 198) (by decide +kernel) (by decide +kernel)
theorem zw_s_X0_holds : Cond.selects RX0 yX0_holds yX0_holds ∈ zz_g := zz_g_in (i := 199) (by decide +kernel) (by decide +kernel)
theorem zw_c_X0_holds : Cond.code yX0_holds cX0_holds 4 (some .boolean) ∈ zz_g := zz_g_in (i := 200) (by decide +kernel) (by decide +kernel)
theorem zw_m_L_205 : Cond.methodLink RL 205 yX5_beside ∈ zz_g := zz_g_in (i := 1079) (by decide +kernel) (by decide +kernel)
theorem zw_i_X5_beside : Cond.instanceMethod yX5_beside ∈ zz_g := zz_g_in (i := 1080) (by decide +kernel) (by decide +kernel)
theorem zw_s_X5_beside : Cond.selects RX5 yX5_beside yX5_beside ∈ zz_g := zz_g_in (i := 1081) (by decide +kernel) (by decide +kernel)
theorem zw_c_X5_beside : Cond.code yX5_beside cX5_beside 7 (some .int) ∈ zz_g := zz_g_in (i := 1082) (by decide +kernel) (by decide +kernel)
theorem zw_m_L_206 : Cond.methodLink RL 206 yL_wordOf ∈ zz_g := zz_g_in (i := 732) (by decide +kernel) (by decide +kernel)
theorem zw_t_L_wordOf : Cond.static yL_wordOf ∈ zz_g := zz_g_in (i := 733) (by decide +kernel) (by decide +kernel)
theorem zw_c_L_wordOf : Cond.codeWith yL_wordOf cL_wordOf 6 (some .int) [(0, 11, 14, 19), (0, 11, 18, 13)] ∈ zz_g := zz_g_in (i := 734) (by decide +kernel) (by decide +kernel)
theorem zw_m_L_78 : Cond.methodLink RL 78 yX4_wordOf ∈ zz_g := zz_g_in (i := 735) (by decide +kernel) (by decide +kernel)
theorem zw_i_X4_wordOf : Cond.instanceMethod yX4_wordOf ∈ zz_g := zz_g_in (i := 736) (by decide +kernel) (by decide +kernel)
theorem zw_s_X4_wordOf : Cond.selects RX4 yX4_wordOf yX4_wordOf ∈ zz_g := zz_g_in (i := 737) (by decide +kernel) (by decide +kernel)
theorem zw_c_X4_wordOf : Cond.code yX4_wordOf cX4_wordOf 5 (some .long) ∈ zz_g := zz_g_in (i := 738) (by decide +kernel) (by decide +kernel)
theorem zw_m_X4_166 : Cond.methodLink RX4 166 yX1_lowAt ∈ zz_g := zz_g_in (i := 740) (by decide +kernel) (by decide +kernel)
theorem zw_m_X4_170 : Cond.methodLink RX4 170 yX1_highAt ∈ zz_g := zz_g_in (i := 741) (by decide +kernel) (by decide +kernel)
theorem zw_m_L_208 : Cond.methodLink RL 208 yX5_wordOf ∈ zz_g := zz_g_in (i := 1083) (by decide +kernel) (by decide +kernel)
theorem zw_i_X5_wordOf : Cond.instanceMethod yX5_wordOf ∈ zz_g := zz_g_in (i := 1084) (by decide +kernel) (by decide +kernel)
theorem zw_s_X5_wordOf : Cond.selects RX5 yX5_wordOf yX5_wordOf ∈ zz_g := zz_g_in (i := 1085) (by decide +kernel) (by decide +kernel)
theorem zw_c_X5_wordOf : Cond.code yX5_wordOf cX5_wordOf 8 (some .long) ∈ zz_g := zz_g_in (i := 1086) (by decide +kernel) (by decide +kernel)
theorem zw_m_L_209 : Cond.methodLink RL 209 yL_meet ∈ zz_g := zz_g_in (i := 742) (by decide +kernel) (by decide +kernel)
theorem zw_t_L_meet : Cond.static yL_meet ∈ zz_g := zz_g_in (i := 743) (by decide +kernel) (by decide +kernel)
theorem zw_c_L_meet : Cond.codeWith yL_meet cL_meet 7 (some .int) [(0, 21, 24, 19)] ∈ zz_g := zz_g_in (i := 744) (by decide +kernel) (by decide +kernel)
theorem zw_m_L_82 : Cond.methodLink RL 82 yX4_meet ∈ zz_g := zz_g_in (i := 745) (by decide +kernel) (by decide +kernel)
theorem zw_i_X4_meet : Cond.instanceMethod yX4_meet ∈ zz_g := zz_g_in (i := 746) (by decide +kernel) (by decide +kernel)
theorem zw_s_X4_meet : Cond.selects RX4 yX4_meet yX4_meet ∈ zz_g := zz_g_in (i := 747) (by decide +kernel) (by decide +kernel)
theorem zw_c_X4_meet : Cond.code yX4_meet cX4_meet 7 (some .boolean) ∈ zz_g := zz_g_in (i := 748) (by decide +kernel) (by decide +kernel)
theorem zw_f_X4_173 : Cond.fieldLink RX4 173 "Relationrows$Bits" "high" "J" ∈ zz_g := zz_g_in (i := 83) (by decide +kernel) (by decide +kernel)
theorem zw_m_L_211 : Cond.methodLink RL 211 yX5_meet ∈ zz_g := zz_g_in (i := 1087) (by decide +kernel) (by decide +kernel)
theorem zw_i_X5_meet : Cond.instanceMethod yX5_meet ∈ zz_g := zz_g_in (i := 1088) (by decide +kernel) (by decide +kernel)
theorem zw_s_X5_meet : Cond.selects RX5 yX5_meet yX5_meet ∈ zz_g := zz_g_in (i := 1089) (by decide +kernel) (by decide +kernel)
theorem zw_c_X5_meet : Cond.code yX5_meet cX5_meet 7 (some .boolean) ∈ zz_g := zz_g_in (i := 1090) (by decide +kernel) (by decide +kernel)
theorem zw_m_L_212 : Cond.methodLink RL 212 yL_compare ∈ zz_g := zz_g_in (i := 749) (by decide +kernel) (by decide +kernel)
theorem zw_t_L_compare : Cond.static yL_compare ∈ zz_g := zz_g_in (i := 750) (by decide +kernel) (by decide +kernel)
theorem zw_c_L_compare : Cond.codeWith yL_compare cL_compare 5 (some .int) [(0, 10, 13, 19)] ∈ zz_g := zz_g_in (i := 751) (by decide +kernel) (by decide +kernel)
theorem zw_m_L_86 : Cond.methodLink RL 86 yX4_compare ∈ zz_g := zz_g_in (i := 752) (by decide +kernel) (by decide +kernel)
theorem zw_i_X4_compare : Cond.instanceMethod yX4_compare ∈ zz_g := zz_g_in (i := 753) (by decide +kernel) (by decide +kernel)
theorem zw_s_X4_compare : Cond.selects RX4 yX4_compare yX4_compare ∈ zz_g := zz_g_in (i := 754) (by decide +kernel) (by decide +kernel)
theorem zw_c_X4_compare : Cond.code yX4_compare cX4_compare 7 (some .int) ∈ zz_g := zz_g_in (i := 755) (by decide +kernel) (by decide +kernel)
theorem zw_m_X4_176 : Cond.methodLink RX4 176 yX1_hasAllOf ∈ zz_g := zz_g_in (i := 756) (by decide +kernel) (by decide +kernel)
theorem zw_i_X1_hasAllOf : Cond.instanceMethod yX1_hasAllOf ∈ zz_g := zz_g_in (i := 454) (by decide +kernel) (by decide +kernel)
theorem zw_s_X1_hasAllOf : Cond.selects RX1 yX1_hasAllOf yX1_hasAllOf ∈ zz_g := zz_g_in (i := 455) (by decide +kernel) (by decide +kernel)
theorem zw_c_X1_hasAllOf : Cond.code yX1_hasAllOf cX1_hasAllOf 3 (some .boolean) ∈ zz_g := zz_g_in (i := 456) (by decide +kernel) (by decide +kernel)
theorem zw_m_L_214 : Cond.methodLink RL 214 yX5_compare ∈ zz_g := zz_g_in (i := 1091) (by decide +kernel) (by decide +kernel)
theorem zw_i_X5_compare : Cond.instanceMethod yX5_compare ∈ zz_g := zz_g_in (i := 1092) (by decide +kernel) (by decide +kernel)
theorem zw_s_X5_compare : Cond.selects RX5 yX5_compare yX5_compare ∈ zz_g := zz_g_in (i := 1093) (by decide +kernel) (by decide +kernel)
theorem zw_c_X5_compare : Cond.code yX5_compare cX5_compare 6 (some .int) ∈ zz_g := zz_g_in (i := 1094) (by decide +kernel) (by decide +kernel)
theorem zw_m_L_215 : Cond.methodLink RL 215 yL_is ∈ zz_g := zz_g_in (i := 757) (by decide +kernel) (by decide +kernel)
theorem zw_t_L_is : Cond.static yL_is ∈ zz_g := zz_g_in (i := 758) (by decide +kernel) (by decide +kernel)
theorem zw_c_L_is : Cond.codeWith yL_is cL_is 5 (some .int) [(0, 17, 20, 19), (0, 17, 24, 13)] ∈ zz_g := zz_g_in (i := 759) (by decide +kernel) (by decide +kernel)
theorem zw_m_L_89 : Cond.methodLink RL 89 yX4_is ∈ zz_g := zz_g_in (i := 760) (by decide +kernel) (by decide +kernel)
theorem zw_i_X4_is : Cond.instanceMethod yX4_is ∈ zz_g := zz_g_in (i := 761) (by decide +kernel) (by decide +kernel)
theorem zw_s_X4_is : Cond.selects RX4 yX4_is yX4_is ∈ zz_g := zz_g_in (i := 762) (by decide +kernel) (by decide +kernel)
theorem zw_c_X4_is : Cond.code yX4_is cX4_is 4 (some .boolean) ∈ zz_g := zz_g_in (i := 763) (by decide +kernel) (by decide +kernel)
theorem zw_m_X4_182 : Cond.methodLink RX4 182 yX1_ownPairs ∈ zz_g := zz_g_in (i := 765) (by decide +kernel) (by decide +kernel)
theorem zw_i_X1_ownPairs : Cond.instanceMethod yX1_ownPairs ∈ zz_g := zz_g_in (i := 402) (by decide +kernel) (by decide +kernel)
theorem zw_s_X1_ownPairs : Cond.selects RX1 yX1_ownPairs yX1_ownPairs ∈ zz_g := zz_g_in (i := 403) (by decide +kernel) (by decide +kernel)
theorem zw_c_X1_ownPairs : Cond.code yX1_ownPairs cX1_ownPairs 3 (some .int) ∈ zz_g := zz_g_in (i := 404) (by decide +kernel) (by decide +kernel)
theorem zw_m_X4_185 : Cond.methodLink RX4 185 yX1_isTransitive ∈ zz_g := zz_g_in (i := 766) (by decide +kernel) (by decide +kernel)
theorem zw_i_X1_isTransitive : Cond.instanceMethod yX1_isTransitive ∈ zz_g := zz_g_in (i := 767) (by decide +kernel) (by decide +kernel)
theorem zw_s_X1_isTransitive : Cond.selects RX1 yX1_isTransitive yX1_isTransitive ∈ zz_g := zz_g_in (i := 768) (by decide +kernel) (by decide +kernel)
theorem zw_c_X1_isTransitive : Cond.code yX1_isTransitive cX1_isTransitive 2 (some .boolean) ∈ zz_g := zz_g_in (i := 769) (by decide +kernel) (by decide +kernel)
theorem zw_m_X4_189 : Cond.methodLink RX4 189 yX1_everyTwoAre ∈ zz_g := zz_g_in (i := 770) (by decide +kernel) (by decide +kernel)
theorem zw_i_X1_everyTwoAre : Cond.instanceMethod yX1_everyTwoAre ∈ zz_g := zz_g_in (i := 771) (by decide +kernel) (by decide +kernel)
theorem zw_s_X1_everyTwoAre : Cond.selects RX1 yX1_everyTwoAre yX1_everyTwoAre ∈ zz_g := zz_g_in (i := 772) (by decide +kernel) (by decide +kernel)
theorem zw_c_X1_everyTwoAre : Cond.code yX1_everyTwoAre cX1_everyTwoAre 4 (some .boolean) ∈ zz_g := zz_g_in (i := 773) (by decide +kernel) (by decide +kernel)
theorem zw_m_X1_103 : Cond.methodLink RX1 103 yX1_fits ∈ zz_g := zz_g_in (i := 774) (by decide +kernel) (by decide +kernel)
theorem zw_t_X1_fits : Cond.static yX1_fits ∈ zz_g := zz_g_in (i := 775) (by decide +kernel) (by decide +kernel)
theorem zw_c_X1_fits : Cond.code yX1_fits cX1_fits 3 (some .boolean) ∈ zz_g := zz_g_in (i := 776) (by decide +kernel) (by decide +kernel)
theorem zw_m_L_217 : Cond.methodLink RL 217 yX5_is ∈ zz_g := zz_g_in (i := 1095) (by decide +kernel) (by decide +kernel)
theorem zw_i_X5_is : Cond.instanceMethod yX5_is ∈ zz_g := zz_g_in (i := 1096) (by decide +kernel) (by decide +kernel)
theorem zw_s_X5_is : Cond.selects RX5 yX5_is yX5_is ∈ zz_g := zz_g_in (i := 1097) (by decide +kernel) (by decide +kernel)
theorem zw_c_X5_is : Cond.code yX5_is cX5_is 6 (some .boolean) ∈ zz_g := zz_g_in (i := 1098) (by decide +kernel) (by decide +kernel)
theorem zw_m_X5_118 : Cond.methodLink RX5 118 yX5_keeps ∈ zz_g := zz_g_in (i := 1099) (by decide +kernel) (by decide +kernel)
theorem zw_i_X5_keeps : Cond.instanceMethod yX5_keeps ∈ zz_g := zz_g_in (i := 1101) (by decide +kernel) (by decide +kernel)
theorem zw_s_X5_keeps : Cond.selects RX5 yX5_keeps yX5_keeps ∈ zz_g := zz_g_in (i := 33) (by decide +kernel) (by decide +kernel)
theorem zw_c_X5_keeps : Cond.code yX5_keeps cX5_keeps 7 (some .boolean) ∈ zz_g := zz_g_in (i := 1102) (by decide +kernel) (by decide +kernel)
theorem zw_m_L_218 : Cond.methodLink RL 218 yL_steps ∈ zz_g := zz_g_in (i := 777) (by decide +kernel) (by decide +kernel)
theorem zw_t_L_steps : Cond.static yL_steps ∈ zz_g := zz_g_in (i := 778) (by decide +kernel) (by decide +kernel)
theorem zw_c_L_steps : Cond.codeWith yL_steps cL_steps 6 (some .int) [(0, 12, 15, 19)] ∈ zz_g := zz_g_in (i := 779) (by decide +kernel) (by decide +kernel)
theorem zw_m_L_93 : Cond.methodLink RL 93 yX4_steps ∈ zz_g := zz_g_in (i := 780) (by decide +kernel) (by decide +kernel)
theorem zw_i_X4_steps : Cond.instanceMethod yX4_steps ∈ zz_g := zz_g_in (i := 781) (by decide +kernel) (by decide +kernel)
theorem zw_s_X4_steps : Cond.selects RX4 yX4_steps yX4_steps ∈ zz_g := zz_g_in (i := 782) (by decide +kernel) (by decide +kernel)
theorem zw_c_X4_steps : Cond.code yX4_steps cX4_steps 5 (some .int) ∈ zz_g := zz_g_in (i := 783) (by decide +kernel) (by decide +kernel)
theorem zw_m_X4_193 : Cond.methodLink RX4 193 yX3_stepsBetween ∈ zz_g := zz_g_in (i := 784) (by decide +kernel) (by decide +kernel)
theorem zw_i_X3_stepsBetween : Cond.instanceMethod yX3_stepsBetween ∈ zz_g := zz_g_in (i := 785) (by decide +kernel) (by decide +kernel)
theorem zw_s_X3_stepsBetween : Cond.selects RX3 yX3_stepsBetween yX3_stepsBetween ∈ zz_g := zz_g_in (i := 786) (by decide +kernel) (by decide +kernel)
theorem zw_c_X3_stepsBetween : Cond.code yX3_stepsBetween cX3_stepsBetween 6 (some .int) ∈ zz_g := zz_g_in (i := 787) (by decide +kernel) (by decide +kernel)
theorem zw_m_X3_40 : Cond.methodLink RX3 40 yX3_leave ∈ zz_g := zz_g_in (i := 323) (by decide +kernel) (by decide +kernel)
theorem zw_i_X3_leave : Cond.instanceMethod yX3_leave ∈ zz_g := zz_g_in (i := 325) (by decide +kernel) (by decide +kernel)
theorem zw_s_X3_leave : Cond.selects RX3 yX3_leave yX3_leave ∈ zz_g := zz_g_in (i := 4) (by decide +kernel) (by decide +kernel)
theorem zw_c_X3_leave : Cond.code yX3_leave cX3_leave 3 none ∈ zz_g := zz_g_in (i := 326) (by decide +kernel) (by decide +kernel)
theorem zw_m_X3_60 : Cond.methodLink RX3 60 yX1_rowInto ∈ zz_g := zz_g_in (i := 327) (by decide +kernel) (by decide +kernel)
theorem zw_m_X3_56 : Cond.methodLink RX3 56 yX0_become ∈ zz_g := zz_g_in (i := 328) (by decide +kernel) (by decide +kernel)
theorem zw_i_X0_become : Cond.instanceMethod yX0_become ∈ zz_g := zz_g_in (i := 329) (by decide +kernel) (by decide +kernel)
theorem zw_s_X0_become : Cond.selects RX0 yX0_become yX0_become ∈ zz_g := zz_g_in (i := 330) (by decide +kernel) (by decide +kernel)
theorem zw_c_X0_become : Cond.code yX0_become cX0_become 2 none ∈ zz_g := zz_g_in (i := 331) (by decide +kernel) (by decide +kernel)
theorem zw_m_X3_44 : Cond.methodLink RX3 44 yX0_holds ∈ zz_g := zz_g_in (i := 788) (by decide +kernel) (by decide +kernel)
theorem zw_m_X3_48 : Cond.methodLink RX3 48 yX3_goOn ∈ zz_g := zz_g_in (i := 336) (by decide +kernel) (by decide +kernel)
theorem zw_i_X3_goOn : Cond.instanceMethod yX3_goOn ∈ zz_g := zz_g_in (i := 338) (by decide +kernel) (by decide +kernel)
theorem zw_s_X3_goOn : Cond.selects RX3 yX3_goOn yX3_goOn ∈ zz_g := zz_g_in (i := 5) (by decide +kernel) (by decide +kernel)
theorem zw_c_X3_goOn : Cond.code yX3_goOn cX3_goOn 2 none ∈ zz_g := zz_g_in (i := 339) (by decide +kernel) (by decide +kernel)
theorem zw_m_X3_68 : Cond.methodLink RX3 68 yX0_remove ∈ zz_g := zz_g_in (i := 361) (by decide +kernel) (by decide +kernel)
theorem zw_i_X0_remove : Cond.instanceMethod yX0_remove ∈ zz_g := zz_g_in (i := 362) (by decide +kernel) (by decide +kernel)
theorem zw_s_X0_remove : Cond.selects RX0 yX0_remove yX0_remove ∈ zz_g := zz_g_in (i := 363) (by decide +kernel) (by decide +kernel)
theorem zw_c_X0_remove : Cond.code yX0_remove cX0_remove 2 none ∈ zz_g := zz_g_in (i := 364) (by decide +kernel) (by decide +kernel)
theorem zw_m_X3_71 : Cond.methodLink RX3 71 yX0_unite ∈ zz_g := zz_g_in (i := 365) (by decide +kernel) (by decide +kernel)
theorem zw_i_X0_unite : Cond.instanceMethod yX0_unite ∈ zz_g := zz_g_in (i := 366) (by decide +kernel) (by decide +kernel)
theorem zw_s_X0_unite : Cond.selects RX0 yX0_unite yX0_unite ∈ zz_g := zz_g_in (i := 367) (by decide +kernel) (by decide +kernel)
theorem zw_c_X0_unite : Cond.code yX0_unite cX0_unite 2 none ∈ zz_g := zz_g_in (i := 368) (by decide +kernel) (by decide +kernel)
theorem zw_m_L_220 : Cond.methodLink RL 220 yX5_steps ∈ zz_g := zz_g_in (i := 1103) (by decide +kernel) (by decide +kernel)
theorem zw_i_X5_steps : Cond.instanceMethod yX5_steps ∈ zz_g := zz_g_in (i := 1104) (by decide +kernel) (by decide +kernel)
theorem zw_s_X5_steps : Cond.selects RX5 yX5_steps yX5_steps ∈ zz_g := zz_g_in (i := 1105) (by decide +kernel) (by decide +kernel)
theorem zw_c_X5_steps : Cond.code yX5_steps cX5_steps 4 (some .int) ∈ zz_g := zz_g_in (i := 1106) (by decide +kernel) (by decide +kernel)
theorem zw_m_L_221 : Cond.methodLink RL 221 yL_classOf ∈ zz_g := zz_g_in (i := 789) (by decide +kernel) (by decide +kernel)
theorem zw_t_L_classOf : Cond.static yL_classOf ∈ zz_g := zz_g_in (i := 790) (by decide +kernel) (by decide +kernel)
theorem zw_c_L_classOf : Cond.codeWith yL_classOf cL_classOf 5 (some .int) [(0, 10, 13, 19)] ∈ zz_g := zz_g_in (i := 791) (by decide +kernel) (by decide +kernel)
theorem zw_m_L_96 : Cond.methodLink RL 96 yX4_classOf ∈ zz_g := zz_g_in (i := 792) (by decide +kernel) (by decide +kernel)
theorem zw_i_X4_classOf : Cond.instanceMethod yX4_classOf ∈ zz_g := zz_g_in (i := 793) (by decide +kernel) (by decide +kernel)
theorem zw_s_X4_classOf : Cond.selects RX4 yX4_classOf yX4_classOf ∈ zz_g := zz_g_in (i := 794) (by decide +kernel) (by decide +kernel)
theorem zw_c_X4_classOf : Cond.code yX4_classOf cX4_classOf 4 (some .int) ∈ zz_g := zz_g_in (i := 795) (by decide +kernel) (by decide +kernel)
theorem zw_m_X4_197 : Cond.methodLink RX4 197 yX1_leastOfClass ∈ zz_g := zz_g_in (i := 796) (by decide +kernel) (by decide +kernel)
theorem zw_i_X1_leastOfClass : Cond.instanceMethod yX1_leastOfClass ∈ zz_g := zz_g_in (i := 384) (by decide +kernel) (by decide +kernel)
theorem zw_s_X1_leastOfClass : Cond.selects RX1 yX1_leastOfClass yX1_leastOfClass ∈ zz_g := zz_g_in (i := 385) (by decide +kernel) (by decide +kernel)
theorem zw_c_X1_leastOfClass : Cond.code yX1_leastOfClass cX1_leastOfClass 3 (some .int) ∈ zz_g := zz_g_in (i := 386) (by decide +kernel) (by decide +kernel)
theorem zw_m_X1_107 : Cond.methodLink RX1 107 yX1_inOneClass ∈ zz_g := zz_g_in (i := 387) (by decide +kernel) (by decide +kernel)
theorem zw_i_X1_inOneClass : Cond.instanceMethod yX1_inOneClass ∈ zz_g := zz_g_in (i := 388) (by decide +kernel) (by decide +kernel)
theorem zw_s_X1_inOneClass : Cond.selects RX1 yX1_inOneClass yX1_inOneClass ∈ zz_g := zz_g_in (i := 389) (by decide +kernel) (by decide +kernel)
theorem zw_c_X1_inOneClass : Cond.code yX1_inOneClass cX1_inOneClass 3 (some .boolean) ∈ zz_g := zz_g_in (i := 390) (by decide +kernel) (by decide +kernel)
theorem zw_m_L_223 : Cond.methodLink RL 223 yX5_classOf ∈ zz_g := zz_g_in (i := 1107) (by decide +kernel) (by decide +kernel)
theorem zw_i_X5_classOf : Cond.instanceMethod yX5_classOf ∈ zz_g := zz_g_in (i := 1108) (by decide +kernel) (by decide +kernel)
theorem zw_s_X5_classOf : Cond.selects RX5 yX5_classOf yX5_classOf ∈ zz_g := zz_g_in (i := 1109) (by decide +kernel) (by decide +kernel)
theorem zw_c_X5_classOf : Cond.code yX5_classOf cX5_classOf 3 (some .int) ∈ zz_g := zz_g_in (i := 1110) (by decide +kernel) (by decide +kernel)
theorem zw_m_X5_122 : Cond.methodLink RX5 122 yX5_leastOf ∈ zz_g := zz_g_in (i := 1111) (by decide +kernel) (by decide +kernel)
theorem zw_i_X5_leastOf : Cond.instanceMethod yX5_leastOf ∈ zz_g := zz_g_in (i := 1113) (by decide +kernel) (by decide +kernel)
theorem zw_s_X5_leastOf : Cond.selects RX5 yX5_leastOf yX5_leastOf ∈ zz_g := zz_g_in (i := 34) (by decide +kernel) (by decide +kernel)
theorem zw_c_X5_leastOf : Cond.code yX5_leastOf cX5_leastOf 3 (some .int) ∈ zz_g := zz_g_in (i := 1114) (by decide +kernel) (by decide +kernel)
theorem zw_m_L_224 : Cond.methodLink RL 224 yL_classes ∈ zz_g := zz_g_in (i := 797) (by decide +kernel) (by decide +kernel)
theorem zw_t_L_classes : Cond.static yL_classes ∈ zz_g := zz_g_in (i := 798) (by decide +kernel) (by decide +kernel)
theorem zw_c_L_classes : Cond.codeWith yL_classes cL_classes 4 (some .int) [(0, 9, 12, 19)] ∈ zz_g := zz_g_in (i := 799) (by decide +kernel) (by decide +kernel)
theorem zw_m_L_99 : Cond.methodLink RL 99 yX4_classes ∈ zz_g := zz_g_in (i := 800) (by decide +kernel) (by decide +kernel)
theorem zw_i_X4_classes : Cond.instanceMethod yX4_classes ∈ zz_g := zz_g_in (i := 801) (by decide +kernel) (by decide +kernel)
theorem zw_s_X4_classes : Cond.selects RX4 yX4_classes yX4_classes ∈ zz_g := zz_g_in (i := 802) (by decide +kernel) (by decide +kernel)
theorem zw_c_X4_classes : Cond.code yX4_classes cX4_classes 3 (some .int) ∈ zz_g := zz_g_in (i := 803) (by decide +kernel) (by decide +kernel)
theorem zw_m_X4_200 : Cond.methodLink RX4 200 yX1_classesInside ∈ zz_g := zz_g_in (i := 804) (by decide +kernel) (by decide +kernel)
theorem zw_i_X1_classesInside : Cond.instanceMethod yX1_classesInside ∈ zz_g := zz_g_in (i := 393) (by decide +kernel) (by decide +kernel)
theorem zw_s_X1_classesInside : Cond.selects RX1 yX1_classesInside yX1_classesInside ∈ zz_g := zz_g_in (i := 394) (by decide +kernel) (by decide +kernel)
theorem zw_c_X1_classesInside : Cond.code yX1_classesInside cX1_classesInside 3 (some .int) ∈ zz_g := zz_g_in (i := 395) (by decide +kernel) (by decide +kernel)
theorem zw_m_X1_110 : Cond.methodLink RX1 110 yX1_leastOfClass ∈ zz_g := zz_g_in (i := 396) (by decide +kernel) (by decide +kernel)
theorem zw_m_L_226 : Cond.methodLink RL 226 yX5_classes ∈ zz_g := zz_g_in (i := 1115) (by decide +kernel) (by decide +kernel)
theorem zw_i_X5_classes : Cond.instanceMethod yX5_classes ∈ zz_g := zz_g_in (i := 1116) (by decide +kernel) (by decide +kernel)
theorem zw_s_X5_classes : Cond.selects RX5 yX5_classes yX5_classes ∈ zz_g := zz_g_in (i := 1117) (by decide +kernel) (by decide +kernel)
theorem zw_c_X5_classes : Cond.code yX5_classes cX5_classes 4 (some .int) ∈ zz_g := zz_g_in (i := 1118) (by decide +kernel) (by decide +kernel)
theorem zw_m_L_227 : Cond.methodLink RL 227 yL_hasRing ∈ zz_g := zz_g_in (i := 805) (by decide +kernel) (by decide +kernel)
theorem zw_t_L_hasRing : Cond.static yL_hasRing ∈ zz_g := zz_g_in (i := 806) (by decide +kernel) (by decide +kernel)
theorem zw_c_L_hasRing : Cond.codeWith yL_hasRing cL_hasRing 4 (some .int) [(0, 16, 19, 19)] ∈ zz_g := zz_g_in (i := 807) (by decide +kernel) (by decide +kernel)
theorem zw_m_L_102 : Cond.methodLink RL 102 yX4_hasRing ∈ zz_g := zz_g_in (i := 808) (by decide +kernel) (by decide +kernel)
theorem zw_i_X4_hasRing : Cond.instanceMethod yX4_hasRing ∈ zz_g := zz_g_in (i := 809) (by decide +kernel) (by decide +kernel)
theorem zw_s_X4_hasRing : Cond.selects RX4 yX4_hasRing yX4_hasRing ∈ zz_g := zz_g_in (i := 810) (by decide +kernel) (by decide +kernel)
theorem zw_c_X4_hasRing : Cond.code yX4_hasRing cX4_hasRing 2 (some .boolean) ∈ zz_g := zz_g_in (i := 811) (by decide +kernel) (by decide +kernel)
theorem zw_m_L_229 : Cond.methodLink RL 229 yX5_hasRing ∈ zz_g := zz_g_in (i := 1119) (by decide +kernel) (by decide +kernel)
theorem zw_i_X5_hasRing : Cond.instanceMethod yX5_hasRing ∈ zz_g := zz_g_in (i := 1120) (by decide +kernel) (by decide +kernel)
theorem zw_s_X5_hasRing : Cond.selects RX5 yX5_hasRing yX5_hasRing ∈ zz_g := zz_g_in (i := 1121) (by decide +kernel) (by decide +kernel)
theorem zw_c_X5_hasRing : Cond.code yX5_hasRing cX5_hasRing 2 (some .boolean) ∈ zz_g := zz_g_in (i := 1122) (by decide +kernel) (by decide +kernel)
theorem zw_m_L_230 : Cond.methodLink RL 230 yL_orderAt ∈ zz_g := zz_g_in (i := 812) (by decide +kernel) (by decide +kernel)
theorem zw_t_L_orderAt : Cond.static yL_orderAt ∈ zz_g := zz_g_in (i := 813) (by decide +kernel) (by decide +kernel)
theorem zw_c_L_orderAt : Cond.codeWith yL_orderAt cL_orderAt 5 (some .int) [(0, 10, 13, 19), (0, 10, 17, 63)] ∈ zz_g := zz_g_in (i := 814) (by decide +kernel) (by decide +kernel)
theorem zw_m_L_106 : Cond.methodLink RL 106 yX4_orderAt ∈ zz_g := zz_g_in (i := 815) (by decide +kernel) (by decide +kernel)
theorem zw_i_X4_orderAt : Cond.instanceMethod yX4_orderAt ∈ zz_g := zz_g_in (i := 816) (by decide +kernel) (by decide +kernel)
theorem zw_s_X4_orderAt : Cond.selects RX4 yX4_orderAt yX4_orderAt ∈ zz_g := zz_g_in (i := 817) (by decide +kernel) (by decide +kernel)
theorem zw_c_X4_orderAt : Cond.code yX4_orderAt cX4_orderAt 4 (some .int) ∈ zz_g := zz_g_in (i := 818) (by decide +kernel) (by decide +kernel)
theorem zw_m_X4_203 : Cond.methodLink RX4 203 yX3_findOrder ∈ zz_g := zz_g_in (i := 819) (by decide +kernel) (by decide +kernel)
theorem zw_i_X3_findOrder : Cond.instanceMethod yX3_findOrder ∈ zz_g := zz_g_in (i := 406) (by decide +kernel) (by decide +kernel)
theorem zw_s_X3_findOrder : Cond.selects RX3 yX3_findOrder yX3_findOrder ∈ zz_g := zz_g_in (i := 407) (by decide +kernel) (by decide +kernel)
theorem zw_c_X3_findOrder : Cond.code yX3_findOrder cX3_findOrder 5 (some .boolean) ∈ zz_g := zz_g_in (i := 408) (by decide +kernel) (by decide +kernel)
theorem zw_m_X3_81 : Cond.methodLink RX3 81 yX0_leastFrom ∈ zz_g := zz_g_in (i := 423) (by decide +kernel) (by decide +kernel)
theorem zw_m_X4_208 : Cond.methodLink RX4 208 yX3_orderedAt ∈ zz_g := zz_g_in (i := 821) (by decide +kernel) (by decide +kernel)
theorem zw_i_X3_orderedAt : Cond.instanceMethod yX3_orderedAt ∈ zz_g := zz_g_in (i := 426) (by decide +kernel) (by decide +kernel)
theorem zw_s_X3_orderedAt : Cond.selects RX3 yX3_orderedAt yX3_orderedAt ∈ zz_g := zz_g_in (i := 427) (by decide +kernel) (by decide +kernel)
theorem zw_c_X3_orderedAt : Cond.code yX3_orderedAt cX3_orderedAt 2 (some .int) ∈ zz_g := zz_g_in (i := 428) (by decide +kernel) (by decide +kernel)
theorem zw_m_L_232 : Cond.methodLink RL 232 yX5_orderAt ∈ zz_g := zz_g_in (i := 1123) (by decide +kernel) (by decide +kernel)
theorem zw_i_X5_orderAt : Cond.instanceMethod yX5_orderAt ∈ zz_g := zz_g_in (i := 1124) (by decide +kernel) (by decide +kernel)
theorem zw_s_X5_orderAt : Cond.selects RX5 yX5_orderAt yX5_orderAt ∈ zz_g := zz_g_in (i := 1125) (by decide +kernel) (by decide +kernel)
theorem zw_c_X5_orderAt : Cond.code yX5_orderAt cX5_orderAt 3 (some .int) ∈ zz_g := zz_g_in (i := 1126) (by decide +kernel) (by decide +kernel)
theorem zw_m_X5_128 : Cond.methodLink RX5 128 yX5_orders ∈ zz_g := zz_g_in (i := 1127) (by decide +kernel) (by decide +kernel)
theorem zw_i_X5_orders : Cond.instanceMethod yX5_orders ∈ zz_g := zz_g_in (i := 1129) (by decide +kernel) (by decide +kernel)
theorem zw_s_X5_orders : Cond.selects RX5 yX5_orders yX5_orders ∈ zz_g := zz_g_in (i := 35) (by decide +kernel) (by decide +kernel)
theorem zw_c_X5_orders : Cond.code yX5_orders cX5_orders 4 (some .int) ∈ zz_g := zz_g_in (i := 1130) (by decide +kernel) (by decide +kernel)
theorem zw_m_X5_125 : Cond.methodLink RX5 125 yX5_isFree ∈ zz_g := zz_g_in (i := 1131) (by decide +kernel) (by decide +kernel)
theorem zw_i_X5_isFree : Cond.instanceMethod yX5_isFree ∈ zz_g := zz_g_in (i := 1133) (by decide +kernel) (by decide +kernel)
theorem zw_s_X5_isFree : Cond.selects RX5 yX5_isFree yX5_isFree ∈ zz_g := zz_g_in (i := 36) (by decide +kernel) (by decide +kernel)
theorem zw_c_X5_isFree : Cond.code yX5_isFree cX5_isFree 5 (some .boolean) ∈ zz_g := zz_g_in (i := 1134) (by decide +kernel) (by decide +kernel)
theorem zw_m_L_233 : Cond.methodLink RL 233 yL_longestWalk ∈ zz_g := zz_g_in (i := 822) (by decide +kernel) (by decide +kernel)
theorem zw_t_L_longestWalk : Cond.static yL_longestWalk ∈ zz_g := zz_g_in (i := 823) (by decide +kernel) (by decide +kernel)
theorem zw_c_L_longestWalk : Cond.codeWith yL_longestWalk cL_longestWalk 4 (some .int) [(0, 9, 12, 19), (0, 9, 15, 63)] ∈ zz_g := zz_g_in (i := 824) (by decide +kernel) (by decide +kernel)
theorem zw_m_L_109 : Cond.methodLink RL 109 yX4_longestWalk ∈ zz_g := zz_g_in (i := 825) (by decide +kernel) (by decide +kernel)
theorem zw_i_X4_longestWalk : Cond.instanceMethod yX4_longestWalk ∈ zz_g := zz_g_in (i := 826) (by decide +kernel) (by decide +kernel)
theorem zw_s_X4_longestWalk : Cond.selects RX4 yX4_longestWalk yX4_longestWalk ∈ zz_g := zz_g_in (i := 827) (by decide +kernel) (by decide +kernel)
theorem zw_c_X4_longestWalk : Cond.code yX4_longestWalk cX4_longestWalk 3 (some .int) ∈ zz_g := zz_g_in (i := 828) (by decide +kernel) (by decide +kernel)
theorem zw_m_L_235 : Cond.methodLink RL 235 yX5_longestWalk ∈ zz_g := zz_g_in (i := 1135) (by decide +kernel) (by decide +kernel)
theorem zw_i_X5_longestWalk : Cond.instanceMethod yX5_longestWalk ∈ zz_g := zz_g_in (i := 1136) (by decide +kernel) (by decide +kernel)
theorem zw_s_X5_longestWalk : Cond.selects RX5 yX5_longestWalk yX5_longestWalk ∈ zz_g := zz_g_in (i := 1137) (by decide +kernel) (by decide +kernel)
theorem zw_c_X5_longestWalk : Cond.code yX5_longestWalk cX5_longestWalk 7 (some .int) ∈ zz_g := zz_g_in (i := 1138) (by decide +kernel) (by decide +kernel)
theorem zw_m_L_236 : Cond.methodLink RL 236 yL_mark ∈ zz_g := zz_g_in (i := 829) (by decide +kernel) (by decide +kernel)
theorem zw_t_L_mark : Cond.static yL_mark ∈ zz_g := zz_g_in (i := 830) (by decide +kernel) (by decide +kernel)
theorem zw_c_L_mark : Cond.codeWith yL_mark cL_mark 6 (some .int) [(0, 12, 15, 19)] ∈ zz_g := zz_g_in (i := 831) (by decide +kernel) (by decide +kernel)
theorem zw_m_L_112 : Cond.methodLink RL 112 yX4_mark ∈ zz_g := zz_g_in (i := 832) (by decide +kernel) (by decide +kernel)
theorem zw_i_X4_mark : Cond.instanceMethod yX4_mark ∈ zz_g := zz_g_in (i := 833) (by decide +kernel) (by decide +kernel)
theorem zw_s_X4_mark : Cond.selects RX4 yX4_mark yX4_mark ∈ zz_g := zz_g_in (i := 834) (by decide +kernel) (by decide +kernel)
theorem zw_c_X4_mark : Cond.code yX4_mark cX4_mark 4 (some .int) ∈ zz_g := zz_g_in (i := 835) (by decide +kernel) (by decide +kernel)
theorem zw_m_X4_211 : Cond.methodLink RX4 211 yX0_size ∈ zz_g := zz_g_in (i := 836) (by decide +kernel) (by decide +kernel)
theorem zw_i_X0_size : Cond.instanceMethod yX0_size ∈ zz_g := zz_g_in (i := 435) (by decide +kernel) (by decide +kernel)
theorem zw_s_X0_size : Cond.selects RX0 yX0_size yX0_size ∈ zz_g := zz_g_in (i := 436) (by decide +kernel) (by decide +kernel)
theorem zw_c_X0_size : Cond.code yX0_size cX0_size 1 (some .int) ∈ zz_g := zz_g_in (i := 437) (by decide +kernel) (by decide +kernel)
theorem zw_m_L_239 : Cond.methodLink RL 239 yX5_mark ∈ zz_g := zz_g_in (i := 1139) (by decide +kernel) (by decide +kernel)
theorem zw_i_X5_mark : Cond.instanceMethod yX5_mark ∈ zz_g := zz_g_in (i := 1140) (by decide +kernel) (by decide +kernel)
theorem zw_s_X5_mark : Cond.selects RX5 yX5_mark yX5_mark ∈ zz_g := zz_g_in (i := 1141) (by decide +kernel) (by decide +kernel)
theorem zw_c_X5_mark : Cond.code yX5_mark cX5_mark 5 (some .int) ∈ zz_g := zz_g_in (i := 1142) (by decide +kernel) (by decide +kernel)
theorem zw_m_X5_131 : Cond.methodLink RX5 131 yX5_marks ∈ zz_g := zz_g_in (i := 1143) (by decide +kernel) (by decide +kernel)
theorem zw_i_X5_marks : Cond.instanceMethod yX5_marks ∈ zz_g := zz_g_in (i := 1145) (by decide +kernel) (by decide +kernel)
theorem zw_s_X5_marks : Cond.selects RX5 yX5_marks yX5_marks ∈ zz_g := zz_g_in (i := 37) (by decide +kernel) (by decide +kernel)
theorem zw_c_X5_marks : Cond.code yX5_marks cX5_marks 3 (some .int) ∈ zz_g := zz_g_in (i := 1146) (by decide +kernel) (by decide +kernel)
theorem zw_m_L_240 : Cond.methodLink RL 240 yL_spread ∈ zz_g := zz_g_in (i := 837) (by decide +kernel) (by decide +kernel)
theorem zw_t_L_spread : Cond.static yL_spread ∈ zz_g := zz_g_in (i := 838) (by decide +kernel) (by decide +kernel)
theorem zw_c_L_spread : Cond.codeWith yL_spread cL_spread 5 (some .int) [(0, 10, 13, 19)] ∈ zz_g := zz_g_in (i := 839) (by decide +kernel) (by decide +kernel)
theorem zw_m_L_116 : Cond.methodLink RL 116 yX4_spread ∈ zz_g := zz_g_in (i := 840) (by decide +kernel) (by decide +kernel)
theorem zw_i_X4_spread : Cond.instanceMethod yX4_spread ∈ zz_g := zz_g_in (i := 841) (by decide +kernel) (by decide +kernel)
theorem zw_s_X4_spread : Cond.selects RX4 yX4_spread yX4_spread ∈ zz_g := zz_g_in (i := 842) (by decide +kernel) (by decide +kernel)
theorem zw_c_X4_spread : Cond.code yX4_spread cX4_spread 4 (some .int) ∈ zz_g := zz_g_in (i := 843) (by decide +kernel) (by decide +kernel)
theorem zw_m_X4_214 : Cond.methodLink RX4 214 yX0_become ∈ zz_g := zz_g_in (i := 844) (by decide +kernel) (by decide +kernel)
theorem zw_m_X4_218 : Cond.methodLink RX4 218 yX1_imageOf ∈ zz_g := zz_g_in (i := 845) (by decide +kernel) (by decide +kernel)
theorem zw_m_X4_222 : Cond.methodLink RX4 222 yX0_unite ∈ zz_g := zz_g_in (i := 846) (by decide +kernel) (by decide +kernel)
theorem zw_m_L_242 : Cond.methodLink RL 242 yX5_spread ∈ zz_g := zz_g_in (i := 1147) (by decide +kernel) (by decide +kernel)
theorem zw_i_X5_spread : Cond.instanceMethod yX5_spread ∈ zz_g := zz_g_in (i := 1148) (by decide +kernel) (by decide +kernel)
theorem zw_s_X5_spread : Cond.selects RX5 yX5_spread yX5_spread ∈ zz_g := zz_g_in (i := 1149) (by decide +kernel) (by decide +kernel)
theorem zw_c_X5_spread : Cond.code yX5_spread cX5_spread 6 (some .int) ∈ zz_g := zz_g_in (i := 1150) (by decide +kernel) (by decide +kernel)
theorem zw_m_L_243 : Cond.methodLink RL 243 yL_markedAt ∈ zz_g := zz_g_in (i := 847) (by decide +kernel) (by decide +kernel)
theorem zw_t_L_markedAt : Cond.static yL_markedAt ∈ zz_g := zz_g_in (i := 848) (by decide +kernel) (by decide +kernel)
theorem zw_c_L_markedAt : Cond.codeWith yL_markedAt cL_markedAt 4 (some .int) [(0, 9, 12, 122)] ∈ zz_g := zz_g_in (i := 849) (by decide +kernel) (by decide +kernel)
theorem zw_l_L_122 : Cond.classLink RL 122 "java/util/NoSuchElementException" ∈ zz_g := zz_g_in (i := 850) (by decide +kernel) (by decide +kernel)
theorem zw_m_L_119 : Cond.methodLink RL 119 yX4_markedAt ∈ zz_g := zz_g_in (i := 851) (by decide +kernel) (by decide +kernel)
theorem zw_i_X4_markedAt : Cond.instanceMethod yX4_markedAt ∈ zz_g := zz_g_in (i := 852) (by decide +kernel) (by decide +kernel)
theorem zw_s_X4_markedAt : Cond.selects RX4 yX4_markedAt yX4_markedAt ∈ zz_g := zz_g_in (i := 853) (by decide +kernel) (by decide +kernel)
theorem zw_c_X4_markedAt : Cond.code yX4_markedAt cX4_markedAt 4 (some .int) ∈ zz_g := zz_g_in (i := 854) (by decide +kernel) (by decide +kernel)
theorem zw_l_X4_227 : Cond.classLink RX4 227 "java/util/NoSuchElementException" ∈ zz_g := zz_g_in (i := 856) (by decide +kernel) (by decide +kernel)
theorem zw_n_java_util_NoSuchElementException : Cond.initialized "java/util/NoSuchElementException" ∈ zz_g := zz_g_in (i := 55) (by decide +kernel) (by decide +kernel)
theorem zw_m_X4_225 : Cond.methodLink RX4 225 yX0_holds ∈ zz_g := zz_g_in (i := 855) (by decide +kernel) (by decide +kernel)
theorem zw_m_L_245 : Cond.methodLink RL 245 yX5_markedAt ∈ zz_g := zz_g_in (i := 1151) (by decide +kernel) (by decide +kernel)
theorem zw_i_X5_markedAt : Cond.instanceMethod yX5_markedAt ∈ zz_g := zz_g_in (i := 1152) (by decide +kernel) (by decide +kernel)
theorem zw_s_X5_markedAt : Cond.selects RX5 yX5_markedAt yX5_markedAt ∈ zz_g := zz_g_in (i := 1153) (by decide +kernel) (by decide +kernel)
theorem zw_c_X5_markedAt : Cond.code yX5_markedAt cX5_markedAt 4 (some .int) ∈ zz_g := zz_g_in (i := 1154) (by decide +kernel) (by decide +kernel)
theorem zw_m_L_246 : Cond.methodLink RL 246 yX4_endOfMarks ∈ zz_g := zz_g_in (i := 189) (by decide +kernel) (by decide +kernel)
theorem zw_i_X4_endOfMarks : Cond.instanceMethod yX4_endOfMarks ∈ zz_g := zz_g_in (i := 190) (by decide +kernel) (by decide +kernel)
theorem zw_s_X4_endOfMarks : Cond.selects RX4 yX4_endOfMarks yX4_endOfMarks ∈ zz_g := zz_g_in (i := 191) (by decide +kernel) (by decide +kernel)
theorem zw_c_X4_endOfMarks : Cond.code yX4_endOfMarks cX4_endOfMarks 1 (some .int) ∈ zz_g := zz_g_in (i := 192) (by decide +kernel) (by decide +kernel)
theorem zw_m_L_249 : Cond.methodLink RL 249 yX5_endOfMarks ∈ zz_g := zz_g_in (i := 1155) (by decide +kernel) (by decide +kernel)
theorem zw_i_X5_endOfMarks : Cond.instanceMethod yX5_endOfMarks ∈ zz_g := zz_g_in (i := 1156) (by decide +kernel) (by decide +kernel)
theorem zw_s_X5_endOfMarks : Cond.selects RX5 yX5_endOfMarks yX5_endOfMarks ∈ zz_g := zz_g_in (i := 1157) (by decide +kernel) (by decide +kernel)
theorem zw_c_X5_endOfMarks : Cond.code yX5_endOfMarks cX5_endOfMarks 3 (some .int) ∈ zz_g := zz_g_in (i := 1158) (by decide +kernel) (by decide +kernel)
theorem zw_m_L_250 : Cond.methodLink RL 250 yL_meanRow ∈ zz_g := zz_g_in (i := 872) (by decide +kernel) (by decide +kernel)
theorem zw_t_L_meanRow : Cond.static yL_meanRow ∈ zz_g := zz_g_in (i := 873) (by decide +kernel) (by decide +kernel)
theorem zw_c_L_meanRow : Cond.codeWith yL_meanRow cL_meanRow 4 (some .int) [(0, 8, 11, 19)] ∈ zz_g := zz_g_in (i := 874) (by decide +kernel) (by decide +kernel)
theorem zw_m_L_124 : Cond.methodLink RL 124 yX4_meanRow ∈ zz_g := zz_g_in (i := 875) (by decide +kernel) (by decide +kernel)
theorem zw_i_X4_meanRow : Cond.instanceMethod yX4_meanRow ∈ zz_g := zz_g_in (i := 876) (by decide +kernel) (by decide +kernel)
theorem zw_s_X4_meanRow : Cond.selects RX4 yX4_meanRow yX4_meanRow ∈ zz_g := zz_g_in (i := 877) (by decide +kernel) (by decide +kernel)
theorem zw_c_X4_meanRow : Cond.code yX4_meanRow cX4_meanRow 4 (some .double) ∈ zz_g := zz_g_in (i := 878) (by decide +kernel) (by decide +kernel)
theorem zw_m_L_253 : Cond.methodLink RL 253 yX5_meanRow ∈ zz_g := zz_g_in (i := 1159) (by decide +kernel) (by decide +kernel)
theorem zw_i_X5_meanRow : Cond.instanceMethod yX5_meanRow ∈ zz_g := zz_g_in (i := 1160) (by decide +kernel) (by decide +kernel)
theorem zw_s_X5_meanRow : Cond.selects RX5 yX5_meanRow yX5_meanRow ∈ zz_g := zz_g_in (i := 1161) (by decide +kernel) (by decide +kernel)
theorem zw_c_X5_meanRow : Cond.code yX5_meanRow cX5_meanRow 2 (some .double) ∈ zz_g := zz_g_in (i := 1162) (by decide +kernel) (by decide +kernel)
theorem zw_m_L_254 : Cond.methodLink RL 254 yL_share ∈ zz_g := zz_g_in (i := 879) (by decide +kernel) (by decide +kernel)
theorem zw_t_L_share : Cond.static yL_share ∈ zz_g := zz_g_in (i := 880) (by decide +kernel) (by decide +kernel)
theorem zw_c_L_share : Cond.codeWith yL_share cL_share 4 (some .int) [(0, 9, 12, 19)] ∈ zz_g := zz_g_in (i := 881) (by decide +kernel) (by decide +kernel)
theorem zw_m_L_128 : Cond.methodLink RL 128 yX4_share ∈ zz_g := zz_g_in (i := 882) (by decide +kernel) (by decide +kernel)
theorem zw_i_X4_share : Cond.instanceMethod yX4_share ∈ zz_g := zz_g_in (i := 883) (by decide +kernel) (by decide +kernel)
theorem zw_s_X4_share : Cond.selects RX4 yX4_share yX4_share ∈ zz_g := zz_g_in (i := 884) (by decide +kernel) (by decide +kernel)
theorem zw_c_X4_share : Cond.code yX4_share cX4_share 3 (some .float) ∈ zz_g := zz_g_in (i := 885) (by decide +kernel) (by decide +kernel)
theorem zw_m_L_256 : Cond.methodLink RL 256 yX5_share ∈ zz_g := zz_g_in (i := 1163) (by decide +kernel) (by decide +kernel)
theorem zw_i_X5_share : Cond.instanceMethod yX5_share ∈ zz_g := zz_g_in (i := 1164) (by decide +kernel) (by decide +kernel)
theorem zw_s_X5_share : Cond.selects RX5 yX5_share yX5_share ∈ zz_g := zz_g_in (i := 1165) (by decide +kernel) (by decide +kernel)
theorem zw_c_X5_share : Cond.code yX5_share cX5_share 2 (some .float) ∈ zz_g := zz_g_in (i := 1166) (by decide +kernel) (by decide +kernel)
theorem zw_m_L_257 : Cond.methodLink RL 257 yX4_errors ∈ zz_g := zz_g_in (i := 201) (by decide +kernel) (by decide +kernel)
theorem zw_i_X4_errors : Cond.instanceMethod yX4_errors ∈ zz_g := zz_g_in (i := 202) (by decide +kernel) (by decide +kernel)
theorem zw_s_X4_errors : Cond.selects RX4 yX4_errors yX4_errors ∈ zz_g := zz_g_in (i := 203) (by decide +kernel) (by decide +kernel)
theorem zw_c_X4_errors : Cond.code yX4_errors cX4_errors 3 (some .int) ∈ zz_g := zz_g_in (i := 204) (by decide +kernel) (by decide +kernel)
theorem zw_m_X4_232 : Cond.methodLink RX4 232 yX2_wrongOfOne ∈ zz_g := zz_g_in (i := 278) (by decide +kernel) (by decide +kernel)
theorem zw_i_X2_wrongOfOne : Cond.instanceMethod yX2_wrongOfOne ∈ zz_g := zz_g_in (i := 279) (by decide +kernel) (by decide +kernel)
theorem zw_s_X2_wrongOfOne : Cond.selects RX2 yX2_wrongOfOne yX2_wrongOfOne ∈ zz_g := zz_g_in (i := 280) (by decide +kernel) (by decide +kernel)
theorem zw_c_X2_wrongOfOne : Cond.code yX2_wrongOfOne cX2_wrongOfOne 2 (some .int) ∈ zz_g := zz_g_in (i := 281) (by decide +kernel) (by decide +kernel)
theorem zw_m_X2_45 : Cond.methodLink RX2 45 yX1_take ∈ zz_g := zz_g_in (i := 282) (by decide +kernel) (by decide +kernel)
theorem zw_m_X2_49 : Cond.methodLink RX2 49 yX1_closeUp ∈ zz_g := zz_g_in (i := 298) (by decide +kernel) (by decide +kernel)
theorem zw_m_X2_52 : Cond.methodLink RX2 52 yX2_closureTellsWalks ∈ zz_g := zz_g_in (i := 306) (by decide +kernel) (by decide +kernel)
theorem zw_i_X2_closureTellsWalks : Cond.instanceMethod yX2_closureTellsWalks ∈ zz_g := zz_g_in (i := 308) (by decide +kernel) (by decide +kernel)
theorem zw_s_X2_closureTellsWalks : Cond.selects RX2 yX2_closureTellsWalks yX2_closureTellsWalks ∈ zz_g := zz_g_in (i := 3) (by decide +kernel) (by decide +kernel)
theorem zw_c_X2_closureTellsWalks : Cond.code yX2_closureTellsWalks cX2_closureTellsWalks 4 (some .boolean) ∈ zz_g := zz_g_in (i := 309) (by decide +kernel) (by decide +kernel)
theorem zw_m_X2_80 : Cond.methodLink RX2 80 yX1_elementsInside ∈ zz_g := zz_g_in (i := 310) (by decide +kernel) (by decide +kernel)
theorem zw_m_X2_84 : Cond.methodLink RX2 84 yX1_rowInto ∈ zz_g := zz_g_in (i := 314) (by decide +kernel) (by decide +kernel)
theorem zw_m_X2_88 : Cond.methodLink RX2 88 yX3_reachFrom ∈ zz_g := zz_g_in (i := 318) (by decide +kernel) (by decide +kernel)
theorem zw_i_X3_reachFrom : Cond.instanceMethod yX3_reachFrom ∈ zz_g := zz_g_in (i := 319) (by decide +kernel) (by decide +kernel)
theorem zw_s_X3_reachFrom : Cond.selects RX3 yX3_reachFrom yX3_reachFrom ∈ zz_g := zz_g_in (i := 320) (by decide +kernel) (by decide +kernel)
theorem zw_c_X3_reachFrom : Cond.code yX3_reachFrom cX3_reachFrom 6 none ∈ zz_g := zz_g_in (i := 321) (by decide +kernel) (by decide +kernel)
theorem zw_m_X2_92 : Cond.methodLink RX2 92 yX0_isLike ∈ zz_g := zz_g_in (i := 369) (by decide +kernel) (by decide +kernel)
theorem zw_i_X0_isLike : Cond.instanceMethod yX0_isLike ∈ zz_g := zz_g_in (i := 370) (by decide +kernel) (by decide +kernel)
theorem zw_s_X0_isLike : Cond.selects RX0 yX0_isLike yX0_isLike ∈ zz_g := zz_g_in (i := 371) (by decide +kernel) (by decide +kernel)
theorem zw_c_X0_isLike : Cond.code yX0_isLike cX0_isLike 2 (some .boolean) ∈ zz_g := zz_g_in (i := 372) (by decide +kernel) (by decide +kernel)
theorem zw_m_X2_56 : Cond.methodLink RX2 56 yX2_wrongUnless ∈ zz_g := zz_g_in (i := 373) (by decide +kernel) (by decide +kernel)
theorem zw_t_X2_wrongUnless : Cond.static yX2_wrongUnless ∈ zz_g := zz_g_in (i := 374) (by decide +kernel) (by decide +kernel)
theorem zw_c_X2_wrongUnless : Cond.code yX2_wrongUnless cX2_wrongUnless 1 (some .int) ∈ zz_g := zz_g_in (i := 375) (by decide +kernel) (by decide +kernel)
theorem zw_m_X2_60 : Cond.methodLink RX2 60 yX2_classesPartElements ∈ zz_g := zz_g_in (i := 376) (by decide +kernel) (by decide +kernel)
theorem zw_i_X2_classesPartElements : Cond.instanceMethod yX2_classesPartElements ∈ zz_g := zz_g_in (i := 378) (by decide +kernel) (by decide +kernel)
theorem zw_s_X2_classesPartElements : Cond.selects RX2 yX2_classesPartElements yX2_classesPartElements ∈ zz_g := zz_g_in (i := 6) (by decide +kernel) (by decide +kernel)
theorem zw_c_X2_classesPartElements : Cond.code yX2_classesPartElements cX2_classesPartElements 6 (some .boolean) ∈ zz_g := zz_g_in (i := 379) (by decide +kernel) (by decide +kernel)
theorem zw_m_X2_96 : Cond.methodLink RX2 96 Lib.Math.min.name ∈ zz_g := zz_g_in (i := 380) (by decide +kernel) (by decide +kernel)
theorem zw_t_Lib_Math_min_name : Cond.static Lib.Math.min.name ∈ zz_g := zz_g_in (i := 381) (by decide +kernel) (by decide +kernel)
theorem zw_n_java_lang_Math : Cond.initialized "java/lang/Math" ∈ zz_g := zz_g_in (i := 56) (by decide +kernel) (by decide +kernel)
theorem zw_c_Lib_Math_min_name : Cond.code Lib.Math.min.name Lib.Math.min.code 2 (some .int) ∈ zz_g := zz_g_in (i := 382) (by decide +kernel) (by decide +kernel)
theorem zw_m_X2_102 : Cond.methodLink RX2 102 yX1_leastOfClass ∈ zz_g := zz_g_in (i := 383) (by decide +kernel) (by decide +kernel)
theorem zw_m_X2_106 : Cond.methodLink RX2 106 yX1_inOneClass ∈ zz_g := zz_g_in (i := 391) (by decide +kernel) (by decide +kernel)
theorem zw_m_X2_110 : Cond.methodLink RX2 110 yX1_classesInside ∈ zz_g := zz_g_in (i := 392) (by decide +kernel) (by decide +kernel)
theorem zw_m_X2_64 : Cond.methodLink RX2 64 yX2_orderKeeps ∈ zz_g := zz_g_in (i := 397) (by decide +kernel) (by decide +kernel)
theorem zw_i_X2_orderKeeps : Cond.instanceMethod yX2_orderKeeps ∈ zz_g := zz_g_in (i := 399) (by decide +kernel) (by decide +kernel)
theorem zw_s_X2_orderKeeps : Cond.selects RX2 yX2_orderKeeps yX2_orderKeeps ∈ zz_g := zz_g_in (i := 7) (by decide +kernel) (by decide +kernel)
theorem zw_c_X2_orderKeeps : Cond.code yX2_orderKeeps cX2_orderKeeps 7 (some .boolean) ∈ zz_g := zz_g_in (i := 400) (by decide +kernel) (by decide +kernel)
theorem zw_m_X2_113 : Cond.methodLink RX2 113 yX1_ownPairs ∈ zz_g := zz_g_in (i := 401) (by decide +kernel) (by decide +kernel)
theorem zw_m_X2_116 : Cond.methodLink RX2 116 yX3_findOrder ∈ zz_g := zz_g_in (i := 405) (by decide +kernel) (by decide +kernel)
theorem zw_m_X2_119 : Cond.methodLink RX2 119 yX0_clear ∈ zz_g := zz_g_in (i := 424) (by decide +kernel) (by decide +kernel)
theorem zw_m_X2_122 : Cond.methodLink RX2 122 yX3_orderedAt ∈ zz_g := zz_g_in (i := 425) (by decide +kernel) (by decide +kernel)
theorem zw_m_X2_125 : Cond.methodLink RX2 125 yX0_putRange ∈ zz_g := zz_g_in (i := 429) (by decide +kernel) (by decide +kernel)
theorem zw_m_X2_129 : Cond.methodLink RX2 129 yX0_meets ∈ zz_g := zz_g_in (i := 430) (by decide +kernel) (by decide +kernel)
theorem zw_i_X0_meets : Cond.instanceMethod yX0_meets ∈ zz_g := zz_g_in (i := 431) (by decide +kernel) (by decide +kernel)
theorem zw_s_X0_meets : Cond.selects RX0 yX0_meets yX0_meets ∈ zz_g := zz_g_in (i := 432) (by decide +kernel) (by decide +kernel)
theorem zw_c_X0_meets : Cond.code yX0_meets cX0_meets 2 (some .boolean) ∈ zz_g := zz_g_in (i := 433) (by decide +kernel) (by decide +kernel)
theorem zw_m_X2_132 : Cond.methodLink RX2 132 yX0_size ∈ zz_g := zz_g_in (i := 434) (by decide +kernel) (by decide +kernel)
theorem zw_m_X2_67 : Cond.methodLink RX2 67 yX2_coversGiveClosure ∈ zz_g := zz_g_in (i := 438) (by decide +kernel) (by decide +kernel)
theorem zw_i_X2_coversGiveClosure : Cond.instanceMethod yX2_coversGiveClosure ∈ zz_g := zz_g_in (i := 440) (by decide +kernel) (by decide +kernel)
theorem zw_s_X2_coversGiveClosure : Cond.selects RX2 yX2_coversGiveClosure yX2_coversGiveClosure ∈ zz_g := zz_g_in (i := 8) (by decide +kernel) (by decide +kernel)
theorem zw_c_X2_coversGiveClosure : Cond.code yX2_coversGiveClosure cX2_coversGiveClosure 1 (some .boolean) ∈ zz_g := zz_g_in (i := 441) (by decide +kernel) (by decide +kernel)
theorem zw_m_X2_135 : Cond.methodLink RX2 135 yX1_takeCovers ∈ zz_g := zz_g_in (i := 442) (by decide +kernel) (by decide +kernel)
theorem zw_m_X2_138 : Cond.methodLink RX2 138 yX1_isLike ∈ zz_g := zz_g_in (i := 449) (by decide +kernel) (by decide +kernel)
theorem zw_i_X1_isLike : Cond.instanceMethod yX1_isLike ∈ zz_g := zz_g_in (i := 450) (by decide +kernel) (by decide +kernel)
theorem zw_s_X1_isLike : Cond.selects RX1 yX1_isLike yX1_isLike ∈ zz_g := zz_g_in (i := 451) (by decide +kernel) (by decide +kernel)
theorem zw_c_X1_isLike : Cond.code yX1_isLike cX1_isLike 2 (some .boolean) ∈ zz_g := zz_g_in (i := 452) (by decide +kernel) (by decide +kernel)
theorem zw_m_X1_99 : Cond.methodLink RX1 99 yX1_hasAllOf ∈ zz_g := zz_g_in (i := 453) (by decide +kernel) (by decide +kernel)
theorem zw_m_X4_235 : Cond.methodLink RX4 235 yX2_wrongOfThree ∈ zz_g := zz_g_in (i := 457) (by decide +kernel) (by decide +kernel)
theorem zw_i_X2_wrongOfThree : Cond.instanceMethod yX2_wrongOfThree ∈ zz_g := zz_g_in (i := 458) (by decide +kernel) (by decide +kernel)
theorem zw_s_X2_wrongOfThree : Cond.selects RX2 yX2_wrongOfThree yX2_wrongOfThree ∈ zz_g := zz_g_in (i := 459) (by decide +kernel) (by decide +kernel)
theorem zw_c_X2_wrongOfThree : Cond.code yX2_wrongOfThree cX2_wrongOfThree 4 (some .int) ∈ zz_g := zz_g_in (i := 460) (by decide +kernel) (by decide +kernel)
theorem zw_m_X2_70 : Cond.methodLink RX2 70 yX2_isAssociative ∈ zz_g := zz_g_in (i := 461) (by decide +kernel) (by decide +kernel)
theorem zw_i_X2_isAssociative : Cond.instanceMethod yX2_isAssociative ∈ zz_g := zz_g_in (i := 463) (by decide +kernel) (by decide +kernel)
theorem zw_s_X2_isAssociative : Cond.selects RX2 yX2_isAssociative yX2_isAssociative ∈ zz_g := zz_g_in (i := 9) (by decide +kernel) (by decide +kernel)
theorem zw_c_X2_isAssociative : Cond.code yX2_isAssociative cX2_isAssociative 4 (some .boolean) ∈ zz_g := zz_g_in (i := 464) (by decide +kernel) (by decide +kernel)
theorem zw_m_X2_140 : Cond.methodLink RX2 140 yX1_product ∈ zz_g := zz_g_in (i := 465) (by decide +kernel) (by decide +kernel)
theorem zw_m_X2_74 : Cond.methodLink RX2 74 yX2_distributesBefore ∈ zz_g := zz_g_in (i := 473) (by decide +kernel) (by decide +kernel)
theorem zw_i_X2_distributesBefore : Cond.instanceMethod yX2_distributesBefore ∈ zz_g := zz_g_in (i := 475) (by decide +kernel) (by decide +kernel)
theorem zw_s_X2_distributesBefore : Cond.selects RX2 yX2_distributesBefore yX2_distributesBefore ∈ zz_g := zz_g_in (i := 10) (by decide +kernel) (by decide +kernel)
theorem zw_c_X2_distributesBefore : Cond.code yX2_distributesBefore cX2_distributesBefore 4 (some .boolean) ∈ zz_g := zz_g_in (i := 476) (by decide +kernel) (by decide +kernel)
theorem zw_m_X2_144 : Cond.methodLink RX2 144 yX1_mix ∈ zz_g := zz_g_in (i := 477) (by decide +kernel) (by decide +kernel)
theorem zw_m_X2_77 : Cond.methodLink RX2 77 yX2_distributesBehind ∈ zz_g := zz_g_in (i := 484) (by decide +kernel) (by decide +kernel)
theorem zw_i_X2_distributesBehind : Cond.instanceMethod yX2_distributesBehind ∈ zz_g := zz_g_in (i := 486) (by decide +kernel) (by decide +kernel)
theorem zw_s_X2_distributesBehind : Cond.selects RX2 yX2_distributesBehind yX2_distributesBehind ∈ zz_g := zz_g_in (i := 11) (by decide +kernel) (by decide +kernel)
theorem zw_c_X2_distributesBehind : Cond.code yX2_distributesBehind cX2_distributesBehind 4 (some .boolean) ∈ zz_g := zz_g_in (i := 487) (by decide +kernel) (by decide +kernel)
theorem zw_m_L_260 : Cond.methodLink RL 260 yX5_errors ∈ zz_g := zz_g_in (i := 1167) (by decide +kernel) (by decide +kernel)
theorem zw_i_X5_errors : Cond.instanceMethod yX5_errors ∈ zz_g := zz_g_in (i := 1168) (by decide +kernel) (by decide +kernel)
theorem zw_s_X5_errors : Cond.selects RX5 yX5_errors yX5_errors ∈ zz_g := zz_g_in (i := 1169) (by decide +kernel) (by decide +kernel)
theorem zw_c_X5_errors : Cond.code yX5_errors cX5_errors 3 (some .int) ∈ zz_g := zz_g_in (i := 1170) (by decide +kernel) (by decide +kernel)
theorem zw_m_X5_135 : Cond.methodLink RX5 135 yX5_areComposed ∈ zz_g := zz_g_in (i := 1171) (by decide +kernel) (by decide +kernel)
theorem zw_i_X5_areComposed : Cond.instanceMethod yX5_areComposed ∈ zz_g := zz_g_in (i := 1173) (by decide +kernel) (by decide +kernel)
theorem zw_s_X5_areComposed : Cond.selects RX5 yX5_areComposed yX5_areComposed ∈ zz_g := zz_g_in (i := 38) (by decide +kernel) (by decide +kernel)
theorem zw_c_X5_areComposed : Cond.code yX5_areComposed cX5_areComposed 6 (some .boolean) ∈ zz_g := zz_g_in (i := 1174) (by decide +kernel) (by decide +kernel)
theorem zw_m_X5_139 : Cond.methodLink RX5 139 yX5_isClosed ∈ zz_g := zz_g_in (i := 1175) (by decide +kernel) (by decide +kernel)
theorem zw_i_X5_isClosed : Cond.instanceMethod yX5_isClosed ∈ zz_g := zz_g_in (i := 1177) (by decide +kernel) (by decide +kernel)
theorem zw_s_X5_isClosed : Cond.selects RX5 yX5_isClosed yX5_isClosed ∈ zz_g := zz_g_in (i := 39) (by decide +kernel) (by decide +kernel)
theorem zw_c_X5_isClosed : Cond.code yX5_isClosed cX5_isClosed 7 (some .boolean) ∈ zz_g := zz_g_in (i := 1178) (by decide +kernel) (by decide +kernel)
theorem zw_m_X5_142 : Cond.methodLink RX5 142 yX5_isOrdered ∈ zz_g := zz_g_in (i := 1179) (by decide +kernel) (by decide +kernel)
theorem zw_i_X5_isOrdered : Cond.instanceMethod yX5_isOrdered ∈ zz_g := zz_g_in (i := 1181) (by decide +kernel) (by decide +kernel)
theorem zw_s_X5_isOrdered : Cond.selects RX5 yX5_isOrdered yX5_isOrdered ∈ zz_g := zz_g_in (i := 40) (by decide +kernel) (by decide +kernel)
theorem zw_c_X5_isOrdered : Cond.code yX5_isOrdered cX5_isOrdered 3 (some .boolean) ∈ zz_g := zz_g_in (i := 1182) (by decide +kernel) (by decide +kernel)
theorem zw_y_X0_0 : u_lay RX0 TX0 0 ∈ zz_g := zz_g_in (i := 84) (by decide +kernel) (by decide +kernel)
theorem zw_y_X0_1 : u_lay RX0 TX0 1 ∈ zz_g := zz_g_in (i := 86) (by decide +kernel) (by decide +kernel)
theorem zz_inX0 : ∀ w ∈ u_ws RX0 TX0 2, w ∈ zz_g := by
  intro w hw
  obtain ⟨k, hk, rfl⟩ := List.mem_map.mp hw
  have hk := List.mem_range.mp hk
  rcases (show k = 0 ∨ k = 1 by omega) with rfl | rfl
  · exact zw_y_X0_0
  · exact zw_y_X0_1
theorem zw_y_X1_0 : u_lay RX1 TX1 0 ∈ zz_g := zz_g_in (i := 94) (by decide +kernel) (by decide +kernel)
theorem zw_y_X1_1 : u_lay RX1 TX1 1 ∈ zz_g := zz_g_in (i := 96) (by decide +kernel) (by decide +kernel)
theorem zw_y_X1_2 : u_lay RX1 TX1 2 ∈ zz_g := zz_g_in (i := 98) (by decide +kernel) (by decide +kernel)
theorem zw_y_X1_3 : u_lay RX1 TX1 3 ∈ zz_g := zz_g_in (i := 100) (by decide +kernel) (by decide +kernel)
theorem zz_inX1 : ∀ w ∈ u_ws RX1 TX1 4, w ∈ zz_g := by
  intro w hw
  obtain ⟨k, hk, rfl⟩ := List.mem_map.mp hw
  have hk := List.mem_range.mp hk
  rcases (show k = 0 ∨ k = 1 ∨ k = 2 ∨ k = 3 by omega) with rfl | rfl | rfl | rfl
  · exact zw_y_X1_0
  · exact zw_y_X1_1
  · exact zw_y_X1_2
  · exact zw_y_X1_3
theorem zw_y_X2_0 : u_lay RX2 TX2 0 ∈ zz_g := zz_g_in (i := 152) (by decide +kernel) (by decide +kernel)
theorem zw_y_X2_1 : u_lay RX2 TX2 1 ∈ zz_g := zz_g_in (i := 154) (by decide +kernel) (by decide +kernel)
theorem zw_y_X2_2 : u_lay RX2 TX2 2 ∈ zz_g := zz_g_in (i := 156) (by decide +kernel) (by decide +kernel)
theorem zw_y_X2_3 : u_lay RX2 TX2 3 ∈ zz_g := zz_g_in (i := 158) (by decide +kernel) (by decide +kernel)
theorem zw_y_X2_4 : u_lay RX2 TX2 4 ∈ zz_g := zz_g_in (i := 160) (by decide +kernel) (by decide +kernel)
theorem zw_y_X2_5 : u_lay RX2 TX2 5 ∈ zz_g := zz_g_in (i := 162) (by decide +kernel) (by decide +kernel)
theorem zw_y_X2_6 : u_lay RX2 TX2 6 ∈ zz_g := zz_g_in (i := 164) (by decide +kernel) (by decide +kernel)
theorem zz_inX2 : ∀ w ∈ u_ws RX2 TX2 7, w ∈ zz_g := by
  intro w hw
  obtain ⟨k, hk, rfl⟩ := List.mem_map.mp hw
  have hk := List.mem_range.mp hk
  rcases (show k = 0 ∨ k = 1 ∨ k = 2 ∨ k = 3 ∨ k = 4 ∨ k = 5 ∨ k = 6 by omega) with rfl | rfl | rfl | rfl | rfl | rfl | rfl
  · exact zw_y_X2_0
  · exact zw_y_X2_1
  · exact zw_y_X2_2
  · exact zw_y_X2_3
  · exact zw_y_X2_4
  · exact zw_y_X2_5
  · exact zw_y_X2_6
theorem zw_y_X3_0 : u_lay RX3 TX3 0 ∈ zz_g := zz_g_in (i := 119) (by decide +kernel) (by decide +kernel)
theorem zw_y_X3_1 : u_lay RX3 TX3 1 ∈ zz_g := zz_g_in (i := 121) (by decide +kernel) (by decide +kernel)
theorem zw_y_X3_2 : u_lay RX3 TX3 2 ∈ zz_g := zz_g_in (i := 123) (by decide +kernel) (by decide +kernel)
theorem zw_y_X3_3 : u_lay RX3 TX3 3 ∈ zz_g := zz_g_in (i := 125) (by decide +kernel) (by decide +kernel)
theorem zw_y_X3_4 : u_lay RX3 TX3 4 ∈ zz_g := zz_g_in (i := 127) (by decide +kernel) (by decide +kernel)
theorem zw_y_X3_5 : u_lay RX3 TX3 5 ∈ zz_g := zz_g_in (i := 129) (by decide +kernel) (by decide +kernel)
theorem zz_inX3 : ∀ w ∈ u_ws RX3 TX3 6, w ∈ zz_g := by
  intro w hw
  obtain ⟨k, hk, rfl⟩ := List.mem_map.mp hw
  have hk := List.mem_range.mp hk
  rcases (show k = 0 ∨ k = 1 ∨ k = 2 ∨ k = 3 ∨ k = 4 ∨ k = 5 by omega) with rfl | rfl | rfl | rfl | rfl | rfl
  · exact zw_y_X3_0
  · exact zw_y_X3_1
  · exact zw_y_X3_2
  · exact zw_y_X3_3
  · exact zw_y_X3_4
  · exact zw_y_X3_5
theorem zw_y_X4_0 : u_lay RX4 TX4 0 ∈ zz_g := zz_g_in (i := 174) (by decide +kernel) (by decide +kernel)
theorem zw_y_X4_1 : u_lay RX4 TX4 1 ∈ zz_g := zz_g_in (i := 176) (by decide +kernel) (by decide +kernel)
theorem zw_y_X4_2 : u_lay RX4 TX4 2 ∈ zz_g := zz_g_in (i := 178) (by decide +kernel) (by decide +kernel)
theorem zw_y_X4_3 : u_lay RX4 TX4 3 ∈ zz_g := zz_g_in (i := 180) (by decide +kernel) (by decide +kernel)
theorem zw_y_X4_4 : u_lay RX4 TX4 4 ∈ zz_g := zz_g_in (i := 182) (by decide +kernel) (by decide +kernel)
theorem zw_y_X4_5 : u_lay RX4 TX4 5 ∈ zz_g := zz_g_in (i := 184) (by decide +kernel) (by decide +kernel)
theorem zw_y_X4_6 : u_lay RX4 TX4 6 ∈ zz_g := zz_g_in (i := 186) (by decide +kernel) (by decide +kernel)
theorem zz_inX4 : ∀ w ∈ u_ws RX4 TX4 7, w ∈ zz_g := by
  intro w hw
  obtain ⟨k, hk, rfl⟩ := List.mem_map.mp hw
  have hk := List.mem_range.mp hk
  rcases (show k = 0 ∨ k = 1 ∨ k = 2 ∨ k = 3 ∨ k = 4 ∨ k = 5 ∨ k = 6 by omega) with rfl | rfl | rfl | rfl | rfl | rfl | rfl
  · exact zw_y_X4_0
  · exact zw_y_X4_1
  · exact zw_y_X4_2
  · exact zw_y_X4_3
  · exact zw_y_X4_4
  · exact zw_y_X4_5
  · exact zw_y_X4_6
theorem zw_y_X5_0 : u_lay RX5 TX5 0 ∈ zz_g := zz_g_in (i := 905) (by decide +kernel) (by decide +kernel)
theorem zw_y_X5_1 : u_lay RX5 TX5 1 ∈ zz_g := zz_g_in (i := 907) (by decide +kernel) (by decide +kernel)
theorem zw_y_X5_2 : u_lay RX5 TX5 2 ∈ zz_g := zz_g_in (i := 909) (by decide +kernel) (by decide +kernel)
theorem zw_y_X5_3 : u_lay RX5 TX5 3 ∈ zz_g := zz_g_in (i := 911) (by decide +kernel) (by decide +kernel)
theorem zw_y_X5_4 : u_lay RX5 TX5 4 ∈ zz_g := zz_g_in (i := 913) (by decide +kernel) (by decide +kernel)
theorem zw_y_X5_5 : u_lay RX5 TX5 5 ∈ zz_g := zz_g_in (i := 915) (by decide +kernel) (by decide +kernel)
theorem zw_y_X5_6 : u_lay RX5 TX5 6 ∈ zz_g := zz_g_in (i := 917) (by decide +kernel) (by decide +kernel)
theorem zw_y_X5_7 : u_lay RX5 TX5 7 ∈ zz_g := zz_g_in (i := 919) (by decide +kernel) (by decide +kernel)
theorem zw_y_X5_8 : u_lay RX5 TX5 8 ∈ zz_g := zz_g_in (i := 921) (by decide +kernel) (by decide +kernel)
theorem zw_y_X5_9 : u_lay RX5 TX5 9 ∈ zz_g := zz_g_in (i := 923) (by decide +kernel) (by decide +kernel)
theorem zw_y_X5_10 : u_lay RX5 TX5 10 ∈ zz_g := zz_g_in (i := 925) (by decide +kernel) (by decide +kernel)
theorem zw_y_X5_11 : u_lay RX5 TX5 11 ∈ zz_g := zz_g_in (i := 927) (by decide +kernel) (by decide +kernel)
theorem zw_y_X5_12 : u_lay RX5 TX5 12 ∈ zz_g := zz_g_in (i := 929) (by decide +kernel) (by decide +kernel)
theorem zz_inX5 : ∀ w ∈ u_ws RX5 TX5 13, w ∈ zz_g := by
  intro w hw
  obtain ⟨k, hk, rfl⟩ := List.mem_map.mp hw
  have hk := List.mem_range.mp hk
  rcases (show k = 0 ∨ k = 1 ∨ k = 2 ∨ k = 3 ∨ k = 4 ∨ k = 5 ∨ k = 6 ∨ k = 7 ∨ k = 8 ∨ k = 9 ∨ k = 10 ∨ k = 11 ∨ k = 12 by omega) with rfl | rfl | rfl | rfl | rfl | rfl | rfl | rfl | rfl | rfl | rfl | rfl | rfl
  · exact zw_y_X5_0
  · exact zw_y_X5_1
  · exact zw_y_X5_2
  · exact zw_y_X5_3
  · exact zw_y_X5_4
  · exact zw_y_X5_5
  · exact zw_y_X5_6
  · exact zw_y_X5_7
  · exact zw_y_X5_8
  · exact zw_y_X5_9
  · exact zw_y_X5_10
  · exact zw_y_X5_11
  · exact zw_y_X5_12
theorem zz_at_iae : ∀ w ∈ vx_atS RX4 52 "java/lang/IllegalArgumentException" ["java/lang/RuntimeException", "java/lang/Exception"], w ∈ lw_tbl ∧ vx_ot w = true := by decide +kernel
theorem zz_at_ioobe : ∀ w ∈ vx_atS RX4 243 "java/lang/IndexOutOfBoundsException" ["java/lang/RuntimeException", "java/lang/Exception"], w ∈ lw_tbl ∧ vx_ot w = true := by decide +kernel
theorem zz_at_ise : ∀ w ∈ vx_atS RX4 151 "java/lang/IllegalStateException" ["java/lang/RuntimeException", "java/lang/Exception"], w ∈ lw_tbl ∧ vx_ot w = true := by decide +kernel
end ZZW
end
section
section ZZA
/-! A packed judgement over W: one store of 68 numbered things (positions), their addresses given by ad; rows an instruction, contracts a method. -/
/-- a method: name, code, locals, what it returns, its class, its table of handlers -/
abbrev zz_M : Type := MethodName × ByteArray × Nat × Option FieldType × String × List (Nat × Nat × Nat × Nat)
abbrev zz_St : Type := Nat → va_E
abbrev zz_O : Type := Option Value ⊕ String
abbrev zz_Q : Type := zz_O → zz_St → Prop
/-- a value, positions made addresses -/
def zz_V (ad : Nat → Nat) : Value → Value := fun v => match v with
  | .ref k => .ref (ad k)
  | v => v
def zz_Vo (ad : Nat → Nat) : Option Value → Option Value := fun v => v.map (zz_V ad)
def zz_E1 (ad : Nat → Nat) (cA : Nat → ClassId) : va_E → va_E := fun e => match e with
  | .inr (ci, fs) => .inr (ci, fs.map (zz_V ad))
  | .inl (k, n, .inr (.inr (.inr (.inr f)))) => .inl (cA k, n, .inr (.inr (.inr (.inr (fun i => (f i).map ad)))))
  | .inl (k, n, x) => .inl (cA k, n, x)
def zz_W (ad : Nat → Nat) (cA : Nat → ClassId) (σ : zz_St) : va_W := (List.range 68).map (fun k => (ad k, zz_E1 ad cA (σ k)))
theorem zz_W_get {ad : Nat → Nat} {cA : Nat → ClassId} {σ : zz_St} {q : Nat} (h : q < 68) : (zz_W ad cA σ)[q]? = some (ad q, zz_E1 ad cA (σ q)) := by
  simp [zz_W, h]
theorem zz_W_at {ad : Nat → Nat} {cA : Nat → ClassId} {σ : zz_St} {k : Nat} {x : Nat × va_E} (h : (zz_W ad cA σ)[k]? = some x) : k < 68 ∧ x.1 = ad k := by
  have hk : k < 68 := by
    have := (List.getElem?_eq_some_iff.mp h).1
    simpa [zz_W] using this
  rw [zz_W_get hk] at h
  cases h
  exact ⟨hk, rfl⟩
theorem zz_W_set {ad : Nat → Nat} {cA : Nat → ClassId} {σ : zz_St} {q : Nat} (h : q < 68) (x : va_E) : (zz_W ad cA σ).set q (ad q, zz_E1 ad cA x) = zz_W ad cA (va_up σ q x) := by
  apply List.ext_getElem?
  intro i
  by_cases hi : i < 68
  · rw [zz_W_get hi, List.getElem?_set]
    by_cases hq : q = i
    · subst hq
      simp [zz_W, h, va_up]
    · rw [if_neg hq, zz_W_get hi]
      have : ¬ i = q := fun e => hq e.symm
      simp [va_up, this]
  · have h1 : (zz_W ad cA σ).length = 68 := by simp [zz_W]
    have h2 : (zz_W ad cA (va_up σ q x)).length = 68 := by simp [zz_W]
    rw [List.getElem?_eq_none (by rw [List.length_set, h1]; omega), List.getElem?_eq_none (by rw [h2]; omega)]
abbrev zz_tys (cA : Nat → ClassId) : List (ClassId × FieldType) := [(cA 0, .int), (cA 1, .long), (cA 2, .boolean), (cA 3, .object RX1), (cA 4, .double)]
def zz_inj (ad : Nat → Nat) : Prop := ∀ i j : Nat, i < 68 → j < 68 → ad i = ad j → i = j
theorem zz_D {ad : Nat → Nat} {cA : Nat → ClassId} {σ : zz_St} {A : Nat → Prop} (hi : zz_inj ad) (hA : ∀ k, k < 68 → A (ad k)) : va_D A (zz_W ad cA σ) := by
  refine ⟨fun i j p q h1 h2 e => ?_, fun k q h => ?_⟩
  · obtain ⟨a1, b1⟩ := zz_W_at h1
    obtain ⟨a2, b2⟩ := zz_W_at h2
    exact hi i j a1 a2 (by rw [← b1, ← b2]; exact e)
  · obtain ⟨a1, b1⟩ := zz_W_at h
    rw [b1]
    exact hA k a1
/-- the region that a call on the store may change -/
def zz_A (ad : Nat → Nat) (sz : Nat) : Nat → Prop := fun q => (∃ k, k < 68 ∧ q = ad k) ∨ sz ≤ q
/-- the texts of the class's throws -/
abbrev zz_txt : List (Nat × String) := [(50, "elements is out of range"), (110, "many is out of range"), (122, "how is out of range"), (149, "the relation has a ring"), (164, "word is out of range"), (180, "what is out of range"), (206, "there is no order"), (229, "no marked element has this index"), (241, "no such relation"), (244, "no such element"), (246, "no such range")]
/-- what a throw needs of the world -/
def zz_Z (A : Nat → Prop) (U : State) (H : Heap) : Prop := vx_Zq Bundle.tN "UNASSIGNED_STACK" Bundle.steD A U H ∧ vx_Zq Bundle.tN "SUPPRESSED_SENTINEL" Bundle.listD A U H ∧ ∀ x ∈ zz_txt, ∃ a, vk_R RX4 x.1 x.2 a U
theorem zz_Z_down {A B : Nat → Prop} {s U : State} {H1 : Heap} (h : zz_Z A s s.heap) (hW : s.WarmedH U.vm) (hk : ∀ q : Nat, q < s.heap.size → ¬ A q → H1[q]? = s.heap[q]?) (hAB : ∀ q, B q → A q) : zz_Z B U H1 :=
  ⟨((h.1.kept hk).moved hW.alike).narrow hAB, ((h.2.1.kept hk).moved hW.alike).narrow hAB, fun x hx => by
    obtain ⟨a, ha⟩ := h.2.2 x hx
    exact ⟨a, vk_R.warm hW ha⟩⟩
theorem zz_Z_call {A : Nat → Prop} {U : State} (g : JFrame) (mk : MethodId) (a : Array Value) (h : zz_Z A U U.heap) : zz_Z A (U.calling g mk a) (U.calling g mk a).heap :=
  ⟨vx_Zq.moved (u := U) (U := U.calling g mk a) (Vm.Alike.refl U.vm) h.1, vx_Zq.moved (u := U) (U := U.calling g mk a) (Vm.Alike.refl U.vm) h.2.1, fun x hx => by
    obtain ⟨a', ha⟩ := h.2.2 x hx
    exact ⟨a', vk_R.same rfl ha⟩⟩
/-- a method's end: it returns -/
def zz_Qc (G : va_G) (cA : Nat → ClassId) (ad : Nat → Nat) (A : Nat → Prop) (Q : zz_Q) : Array Value → State → Outcome → State → Prop := fun _ st oc t =>
  (∃ (v : Option Value) (τ : zz_St), oc = .returned (zz_Vo ad v) ∧ Q (.inl v) τ ∧ va_P G vwCl (zz_W ad cA τ) t.heap) ∧ va_F A st t
/-- .. or throws -/
def zz_Xc (G : va_G) (cA : Nat → ClassId) (ad : Nat → Nat) (A : Nat → Prop) (Q : zz_Q) : String → State → State → Prop := fun E st t =>
  (∃ τ : zz_St, Q (.inr E) τ ∧ va_P G vwCl (zz_W ad cA τ) t.heap) ∧ va_F A st t
/-- the script of a law: at position 68 -/
def zz_Sc (sc : Option (Nat × (Nat → Int32))) (ad : Nat → Nat) (A : Nat → Prop) (s : State) : Prop := match sc with
  | none => True
  | some (L, xs) => va_X (ad 68) L xs s s.heap ∧ ad 68 < s.heap.size ∧ ¬ A (ad 68)
/-- what stays the same in a method's body -/
def zz_S (M : zz_M) (sc : Option (Nat × (Nat → Int32))) (d : Nat) (p : Program) (l : Launch) (R : Room) (s : State) (m : MethodId) (args : Array Value) (meth : Method) (c : Code) (ad : Nat → Nat) (G : va_G) (cA : Nat → ClassId) (A : Nat → Prop) (mc ms : Nat) : Prop :=
  p.tables.exec = Jvm.exec ∧ c.code = M.2.1 ∧ c.maxLocals = M.2.2.1 ∧ meth.sig.returnType = M.2.2.2.1 ∧ meth.locks = false ∧ s.vm.findClass M.2.2.2.2.1 = some m.cls ∧ (∀ w ∈ zz_g, w.before args s = true) ∧ c.exceptionTable.toList = tableOf M.2.2.2.2.2 ∧
  va_K G vwCl (zz_tys cA) s ∧ zz_inj ad ∧ (∀ k, k < 68 → A (ad k)) ∧ (∀ q, s.heap.size ≤ q → A q) ∧ zz_Z A s s.heap ∧ l.stackTraces = false ∧ d ≤ R.frames ∧ 36 * d + 90 ≤ R.locals ∧ mc ≤ R.cells ∧ ms ≤ R.slots ∧ zz_Sc sc ad A s
def zz_LV (ad : Nat → Nat) (lv : List (Nat × Value)) : List (Nat × Value) := lv.map (fun q => (q.1, zz_V ad q.2))
/-- from here the method M, at depth d, with room for rc things and rz fields yet, comes to an end with Q -/
def zz_E (M : zz_M) (sc : Option (Nat × (Nat → Int32))) (d rc rz : Nat) (Q : zz_Q) (pc : Nat) (lv : List (Nat × Value)) (st : List Value) (σ : zz_St) : Prop :=
  ∀ (p : Program) (l : Launch) (e : Env) (R : Room) (s : State) (m : MethodId) (args : Array Value) (below : List Frame) (meth : Method) (c : Code) (ad : Nat → Nat) (G : va_G) (cA : Nat → ClassId) (A : Nat → Prop) (mc ms : Nat), zz_S M sc d p l R s m args meth c ad G cA A mc ms →
  ∀ (H : Heap) (locs : List Loc) (cells slots : Nat) (ls : Array Slot), cells + rc ≤ mc → slots + rz ≤ ms → lv_has ls M.2.2.1 (zz_LV ad lv) → va_S A s.heap H locs → va_P G vwCl (zz_W ad cA σ) H →
  W p l e R s m args below meth c H locs cells slots (vx_MQ below (zz_Qc G cA ad A Q) (zz_Xc G cA ad A Q) args s mc ms A) (F0 m pc ls (st.map (zz_V ad)))
/-- a method's contract -/
def zz_pre (ad : Nat → Nat) (G : va_G) (cA : Nat → ClassId) (sz : Nat) (σ : zz_St) : State → Prop := fun U =>
  U.heap.size = sz ∧ va_P G vwCl (zz_W ad cA σ) U.heap ∧ va_K G vwCl (zz_tys cA) U ∧ zz_inj ad ∧ zz_Z (zz_A ad sz) U U.heap
def zz_ws (M : zz_M) : List Cond := (match M.2.2.2.2.2 with
  | [] => Cond.code M.1 M.2.1 M.2.2.1 M.2.2.2.1
  | h => Cond.codeWith M.1 M.2.1 M.2.2.1 M.2.2.2.1 h) :: zz_g
def zz_C (M : zz_M) (d mc ms : Nat) (as : List Value) (σ : zz_St) (Q : zz_Q) : Prop :=
  ∀ (l : Launch), l.stackTraces = false → ∀ (ad : Nat → Nat) (G : va_G) (cA : Nat → ClassId) (sz : Nat),
    vx_Met l M.1 (zz_ws M) { frames := d, cells := mc, slots := ms, locals := 36 * d + 90 } (va_Pc (as.map (zz_V ad)) (zz_pre ad G cA sz σ)) (zz_Qc G cA ad (zz_A ad sz) Q) (zz_Xc G cA ad (zz_A ad sz) Q) mc ms (zz_A ad sz)
theorem zz_cat (ad : Nat → Nat) (v : Value) : (zz_V ad v).category = v.category := by cases v <;> rfl
theorem zz_cats (ad : Nat → Nat) (st : List Value) : ((st.map (zz_V ad)).map fun v => v.category).sum = (st.map fun v => v.category).sum := by
  rw [List.map_map]
  congr 1
  exact List.map_congr_left (fun v _ => zz_cat ad v)
theorem zz_args (ad : Nat → Nat) : ∀ (vs : List Value) (i : Nat), lv_args i (vs.map (zz_V ad)) = zz_LV ad (lv_args i vs)
  | [], _ => rfl
  | v :: vs, i => by
    show (i, zz_V ad v) :: lv_args (if (zz_V ad v).category = 2 then i + 2 else i + 1) (vs.map (zz_V ad)) = (i, zz_V ad v) :: zz_LV ad (lv_args (if v.category = 2 then i + 2 else i + 1) vs)
    rw [zz_cat, zz_args ad vs]
theorem zz_sl (ad : Nat → Nat) : ∀ vs : List Value, (lg_sl (vs.map (zz_V ad))).length = (lg_sl vs).length
  | [] => rfl
  | v :: vs => by
    have := zz_sl ad vs
    cases v <;> simp_all [lg_sl, zz_V, Value.category]
theorem zz_lv_at {M : zz_M} {ad : Nat → Nat} {ls : Array Slot} {lv : List (Nat × Value)} (h : lv_has ls M.2.2.1 (zz_LV ad lv)) {i : Nat} {v : Value} (hk : lv.lookup i = some v) : ls[i]? = some (.val (zz_V ad v)) := by
  have hm : (i, v) ∈ lv := by
    induction lv with
    | nil => cases hk
    | cons q lv ih =>
      obtain ⟨a, b⟩ := q
      rw [List.lookup_cons] at hk
      by_cases e : (i == a) = true
      · rw [e] at hk
        simp at e hk
        subst e; subst hk
        exact List.mem_cons_self
      · simp only [Bool.not_eq_true] at e
        rw [e] at hk
        exact List.mem_cons_of_mem _ (ih ⟨h.1, h.2.1, fun q hq => h.2.2 q (List.mem_cons_of_mem _ hq)⟩ hk)
  exact h.2.2 (i, zz_V ad v) (List.mem_map.mpr ⟨(i, v), hm, rfl⟩)
/-- locals behind a store -/
def zz_up1 (lv : List (Nat × Value)) (i : Nat) (v : Value) : List (Nat × Value) := (i, v) :: lv.filter (fun q => !(q.1 == i) && !(q.1 + 1 == i && q.2.category == 2))
def zz_up2 (lv : List (Nat × Value)) (i : Nat) (v : Value) : List (Nat × Value) := (i, v) :: lv.filter (fun q => !(q.1 == i) && (!(q.1 == i + 1) && !(q.1 + 1 == i && q.2.category == 2)))
theorem zz_LV_up1 (ad : Nat → Nat) (lv : List (Nat × Value)) (i : Nat) (v : Value) : (i, zz_V ad v) :: (zz_LV ad lv).filter (fun q => !(q.1 == i) && !(q.1 + 1 == i && q.2.category == 2)) = zz_LV ad (zz_up1 lv i v) := by
  unfold zz_LV zz_up1
  rw [List.map_cons, List.filter_map]
  congr 2
  exact List.filter_congr (fun q _ => by simp only [Function.comp, zz_cat])
theorem zz_LV_up2 (ad : Nat → Nat) (lv : List (Nat × Value)) (i : Nat) (v : Value) : (i, zz_V ad v) :: (zz_LV ad lv).filter (fun q => !(q.1 == i) && (!(q.1 == i + 1) && !(q.1 + 1 == i && q.2.category == 2))) = zz_LV ad (zz_up2 lv i v) := by
  unfold zz_LV zz_up2
  rw [List.map_cons, List.filter_map]
  congr 2
  exact List.filter_congr (fun q _ => by simp only [Function.comp, zz_cat])
theorem zz_LV_sub {n : Nat} {ad : Nat → Nat} {ls : Array Slot} {lv lv' : List (Nat × Value)} (h : lv_has ls n (zz_LV ad lv)) (hs : ∀ q ∈ lv', q ∈ lv) : lv_has ls n (zz_LV ad lv') :=
  ⟨h.1, h.2.1, fun q hq => by
    obtain ⟨x, hx, rfl⟩ := List.mem_map.mp hq
    exact h.2.2 _ (List.mem_map.mpr ⟨x, hs x hx, rfl⟩)⟩
end ZZA
end
section
section ZZB
variable {M : zz_M} {sc : Option (Nat × (Nat → Int32))} {d rc rz : Nat} {Q : zz_Q} {pc : Nat} {lv : List (Nat × Value)} {st : List Value} {σ : zz_St}
theorem zz_iconst {n : Int} {v : Int32} (h : decode M.2.1 pc = .ok (.iconst n, 1)) (hv : Int32.ofInt n = v) (K : zz_E M sc d rc rz Q (pc + 1) (lv) (.int v :: st) (σ)) : zz_E M sc d rc rz Q (pc) (lv) (st) (σ) := by
  intro p l e R s m args below meth c ad G cA A mc ms S H locs cells slots ls hc hz hl hS hP
  exact lv_iconst S.1 S.2.1 h hv (K p l e R s m args below meth c ad G cA A mc ms S H locs cells slots ls hc hz hl hS hP)
theorem zz_bipush {n : Int} {v : Int32} (h : decode M.2.1 pc = .ok (.bipush n, 2)) (hv : (Int8.ofInt n).toInt32 = v) (K : zz_E M sc d rc rz Q (pc + 2) (lv) (.int v :: st) (σ)) : zz_E M sc d rc rz Q (pc) (lv) (st) (σ) := by
  intro p l e R s m args below meth c ad G cA A mc ms S H locs cells slots ls hc hz hl hS hP
  exact lv_bipush S.1 S.2.1 h hv (K p l e R s m args below meth c ad G cA A mc ms S H locs cells slots ls hc hz hl hS hP)
theorem zz_sipush {n : Int} {v : Int32} (h : decode M.2.1 pc = .ok (.sipush n, 3)) (hv : (Int16.ofInt n).toInt32 = v) (K : zz_E M sc d rc rz Q (pc + 3) (lv) (.int v :: st) (σ)) : zz_E M sc d rc rz Q (pc) (lv) (st) (σ) := by
  intro p l e R s m args below meth c ad G cA A mc ms S H locs cells slots ls hc hz hl hS hP
  exact lv_sipush S.1 S.2.1 h hv (K p l e R s m args below meth c ad G cA A mc ms S H locs cells slots ls hc hz hl hS hP)
theorem zz_lconst {n : Fin 2} {v : Int64} (h : decode M.2.1 pc = .ok (.lconst n, 1)) (hv : Int64.ofNat (n : Nat) = v) (K : zz_E M sc d rc rz Q (pc + 1) (lv) (.long v :: st) (σ)) : zz_E M sc d rc rz Q (pc) (lv) (st) (σ) := by
  intro p l e R s m args below meth c ad G cA A mc ms S H locs cells slots ls hc hz hl hS hP
  exact lv_lconst S.1 S.2.1 h hv (K p l e R s m args below meth c ad G cA A mc ms S H locs cells slots ls hc hz hl hS hP)
theorem zz_ldc {i : Nat} {v : Int32} (h : decode M.2.1 pc = .ok (.ldc i, 2)) (hw : Cond.constant M.2.2.2.2.1 i v ∈ zz_g) (K : zz_E M sc d rc rz Q (pc + 2) (lv) (.int v :: st) (σ)) : zz_E M sc d rc rz Q (pc) (lv) (st) (σ) := by
  intro p l e R s m args below meth c ad G cA A mc ms S H locs cells slots ls hc hz hl hS hP
  exact lv_ldc S.1 S.2.1 S.2.2.2.2.2.1 (S.2.2.2.2.2.2.1 _ hw) h (K p l e R s m args below meth c ad G cA A mc ms S H locs cells slots ls hc hz hl hS hP)
theorem zz_ldc2 {i : Nat} {v : Int64} (h : decode M.2.1 pc = .ok (.ldc2_w i, 3)) (hw : Cond.constantLong M.2.2.2.2.1 i v ∈ zz_g) (K : zz_E M sc d rc rz Q (pc + 3) (lv) (.long v :: st) (σ)) : zz_E M sc d rc rz Q (pc) (lv) (st) (σ) := by
  intro p l e R s m args below meth c ad G cA A mc ms S H locs cells slots ls hc hz hl hS hP
  exact lv_ldc2 S.1 S.2.1 S.2.2.2.2.2.1 (S.2.2.2.2.2.2.1 _ hw) h (K p l e R s m args below meth c ad G cA A mc ms S H locs cells slots ls hc hz hl hS hP)
theorem zz_iload_n {k : Fin 4} {x : Int32} (h : decode M.2.1 pc = .ok (.iload_n k, 1)) (hv : lv.lookup (k : Nat) = some (.int x)) (K : zz_E M sc d rc rz Q (pc + 1) (lv) (.int x :: st) (σ)) : zz_E M sc d rc rz Q (pc) (lv) (st) (σ) := by
  intro p l e R s m args below meth c ad G cA A mc ms S H locs cells slots ls hc hz hl hS hP
  exact lv_iload_n S.1 S.2.1 h rfl (zz_lv_at (M := M) hl hv) (K p l e R s m args below meth c ad G cA A mc ms S H locs cells slots ls hc hz hl hS hP)
theorem zz_iload {i : Nat} {x : Int32} (h : decode M.2.1 pc = .ok (.iload i, 2)) (hv : lv.lookup i = some (.int x)) (K : zz_E M sc d rc rz Q (pc + 2) (lv) (.int x :: st) (σ)) : zz_E M sc d rc rz Q (pc) (lv) (st) (σ) := by
  intro p l e R s m args below meth c ad G cA A mc ms S H locs cells slots ls hc hz hl hS hP
  exact lv_iload S.1 S.2.1 h (zz_lv_at (M := M) hl hv) (K p l e R s m args below meth c ad G cA A mc ms S H locs cells slots ls hc hz hl hS hP)
theorem zz_lload_n {k : Fin 4} {x : Int64} (h : decode M.2.1 pc = .ok (.lload_n k, 1)) (hv : lv.lookup (k : Nat) = some (.long x)) (K : zz_E M sc d rc rz Q (pc + 1) (lv) (.long x :: st) (σ)) : zz_E M sc d rc rz Q (pc) (lv) (st) (σ) := by
  intro p l e R s m args below meth c ad G cA A mc ms S H locs cells slots ls hc hz hl hS hP
  exact lv_lload_n S.1 S.2.1 h rfl (zz_lv_at (M := M) hl hv) (K p l e R s m args below meth c ad G cA A mc ms S H locs cells slots ls hc hz hl hS hP)
theorem zz_lload {i : Nat} {x : Int64} (h : decode M.2.1 pc = .ok (.lload i, 2)) (hv : lv.lookup i = some (.long x)) (K : zz_E M sc d rc rz Q (pc + 2) (lv) (.long x :: st) (σ)) : zz_E M sc d rc rz Q (pc) (lv) (st) (σ) := by
  intro p l e R s m args below meth c ad G cA A mc ms S H locs cells slots ls hc hz hl hS hP
  exact lv_lload S.1 S.2.1 h (zz_lv_at (M := M) hl hv) (K p l e R s m args below meth c ad G cA A mc ms S H locs cells slots ls hc hz hl hS hP)
theorem zz_fload_n {k : Fin 4} {x : UInt32} (h : decode M.2.1 pc = .ok (.fload_n k, 1)) (hv : lv.lookup (k : Nat) = some (.float x)) (K : zz_E M sc d rc rz Q (pc + 1) (lv) (.float x :: st) (σ)) : zz_E M sc d rc rz Q (pc) (lv) (st) (σ) := by
  intro p l e R s m args below meth c ad G cA A mc ms S H locs cells slots ls hc hz hl hS hP
  exact lv_fload_n S.1 S.2.1 h rfl (zz_lv_at (M := M) hl hv) (K p l e R s m args below meth c ad G cA A mc ms S H locs cells slots ls hc hz hl hS hP)
theorem zz_fload {i : Nat} {x : UInt32} (h : decode M.2.1 pc = .ok (.fload i, 2)) (hv : lv.lookup i = some (.float x)) (K : zz_E M sc d rc rz Q (pc + 2) (lv) (.float x :: st) (σ)) : zz_E M sc d rc rz Q (pc) (lv) (st) (σ) := by
  intro p l e R s m args below meth c ad G cA A mc ms S H locs cells slots ls hc hz hl hS hP
  exact lv_fload S.1 S.2.1 h (zz_lv_at (M := M) hl hv) (K p l e R s m args below meth c ad G cA A mc ms S H locs cells slots ls hc hz hl hS hP)
theorem zz_dload_n {k : Fin 4} {x : UInt64} (h : decode M.2.1 pc = .ok (.dload_n k, 1)) (hv : lv.lookup (k : Nat) = some (.double x)) (K : zz_E M sc d rc rz Q (pc + 1) (lv) (.double x :: st) (σ)) : zz_E M sc d rc rz Q (pc) (lv) (st) (σ) := by
  intro p l e R s m args below meth c ad G cA A mc ms S H locs cells slots ls hc hz hl hS hP
  exact lv_dload_n S.1 S.2.1 h rfl (zz_lv_at (M := M) hl hv) (K p l e R s m args below meth c ad G cA A mc ms S H locs cells slots ls hc hz hl hS hP)
theorem zz_dload {i : Nat} {x : UInt64} (h : decode M.2.1 pc = .ok (.dload i, 2)) (hv : lv.lookup i = some (.double x)) (K : zz_E M sc d rc rz Q (pc + 2) (lv) (.double x :: st) (σ)) : zz_E M sc d rc rz Q (pc) (lv) (st) (σ) := by
  intro p l e R s m args below meth c ad G cA A mc ms S H locs cells slots ls hc hz hl hS hP
  exact lv_dload S.1 S.2.1 h (zz_lv_at (M := M) hl hv) (K p l e R s m args below meth c ad G cA A mc ms S H locs cells slots ls hc hz hl hS hP)
theorem zz_aload_n {k : Fin 4} {x : Nat} (h : decode M.2.1 pc = .ok (.aload_n k, 1)) (hv : lv.lookup (k : Nat) = some (.ref x)) (K : zz_E M sc d rc rz Q (pc + 1) (lv) (.ref x :: st) (σ)) : zz_E M sc d rc rz Q (pc) (lv) (st) (σ) := by
  intro p l e R s m args below meth c ad G cA A mc ms S H locs cells slots ls hc hz hl hS hP
  exact lv_aload_n S.1 S.2.1 h rfl (zz_lv_at (M := M) hl hv) (K p l e R s m args below meth c ad G cA A mc ms S H locs cells slots ls hc hz hl hS hP)
theorem zz_aload {i : Nat} {x : Nat} (h : decode M.2.1 pc = .ok (.aload i, 2)) (hv : lv.lookup i = some (.ref x)) (K : zz_E M sc d rc rz Q (pc + 2) (lv) (.ref x :: st) (σ)) : zz_E M sc d rc rz Q (pc) (lv) (st) (σ) := by
  intro p l e R s m args below meth c ad G cA A mc ms S H locs cells slots ls hc hz hl hS hP
  exact lv_aload S.1 S.2.1 h (zz_lv_at (M := M) hl hv) (K p l e R s m args below meth c ad G cA A mc ms S H locs cells slots ls hc hz hl hS hP)
theorem zz_istore_n {k : Fin 4} {x : Int32} (h : decode M.2.1 pc = .ok (.istore_n k, 1)) (hn : (k : Nat) < M.2.2.1) (K : zz_E M sc d rc rz Q (pc + 1) (zz_up1 lv (k : Nat) (.int x)) (st) (σ)) : zz_E M sc d rc rz Q (pc) (lv) (.int x :: st) (σ) := by
  intro p l e R s m args below meth c ad G cA A mc ms S H locs cells slots ls hc hz hl hS hP
  exact lv_istore_n S.1 S.2.1 h rfl hl hn (zz_LV_up1 ad lv (k : Nat) (.int x)) (fun ls2 hl2 => K p l e R s m args below meth c ad G cA A mc ms S H locs cells slots ls2 hc hz hl2 hS hP)
theorem zz_istore {i : Nat} {x : Int32} (h : decode M.2.1 pc = .ok (.istore i, 2)) (hn : i < M.2.2.1) (K : zz_E M sc d rc rz Q (pc + 2) (zz_up1 lv i (.int x)) (st) (σ)) : zz_E M sc d rc rz Q (pc) (lv) (.int x :: st) (σ) := by
  intro p l e R s m args below meth c ad G cA A mc ms S H locs cells slots ls hc hz hl hS hP
  exact lv_istore S.1 S.2.1 h hl hn (zz_LV_up1 ad lv i (.int x)) (fun ls2 hl2 => K p l e R s m args below meth c ad G cA A mc ms S H locs cells slots ls2 hc hz hl2 hS hP)
theorem zz_lstore_n {k : Fin 4} {x : Int64} (h : decode M.2.1 pc = .ok (.lstore_n k, 1)) (hn : (k : Nat) + 1 < M.2.2.1) (K : zz_E M sc d rc rz Q (pc + 1) (zz_up2 lv (k : Nat) (.long x)) (st) (σ)) : zz_E M sc d rc rz Q (pc) (lv) (.long x :: st) (σ) := by
  intro p l e R s m args below meth c ad G cA A mc ms S H locs cells slots ls hc hz hl hS hP
  exact lv_lstore_n S.1 S.2.1 h rfl hl hn (zz_LV_up2 ad lv (k : Nat) (.long x)) (fun ls2 hl2 => K p l e R s m args below meth c ad G cA A mc ms S H locs cells slots ls2 hc hz hl2 hS hP)
theorem zz_lstore {i : Nat} {x : Int64} (h : decode M.2.1 pc = .ok (.lstore i, 2)) (hn : i + 1 < M.2.2.1) (K : zz_E M sc d rc rz Q (pc + 2) (zz_up2 lv i (.long x)) (st) (σ)) : zz_E M sc d rc rz Q (pc) (lv) (.long x :: st) (σ) := by
  intro p l e R s m args below meth c ad G cA A mc ms S H locs cells slots ls hc hz hl hS hP
  exact lv_lstore S.1 S.2.1 h hl hn (zz_LV_up2 ad lv i (.long x)) (fun ls2 hl2 => K p l e R s m args below meth c ad G cA A mc ms S H locs cells slots ls2 hc hz hl2 hS hP)
theorem zz_fstore_n {k : Fin 4} {x : UInt32} (h : decode M.2.1 pc = .ok (.fstore_n k, 1)) (hn : (k : Nat) < M.2.2.1) (K : zz_E M sc d rc rz Q (pc + 1) (zz_up1 lv (k : Nat) (.float x)) (st) (σ)) : zz_E M sc d rc rz Q (pc) (lv) (.float x :: st) (σ) := by
  intro p l e R s m args below meth c ad G cA A mc ms S H locs cells slots ls hc hz hl hS hP
  exact lv_fstore_n S.1 S.2.1 h rfl hl hn (zz_LV_up1 ad lv (k : Nat) (.float x)) (fun ls2 hl2 => K p l e R s m args below meth c ad G cA A mc ms S H locs cells slots ls2 hc hz hl2 hS hP)
theorem zz_fstore {i : Nat} {x : UInt32} (h : decode M.2.1 pc = .ok (.fstore i, 2)) (hn : i < M.2.2.1) (K : zz_E M sc d rc rz Q (pc + 2) (zz_up1 lv i (.float x)) (st) (σ)) : zz_E M sc d rc rz Q (pc) (lv) (.float x :: st) (σ) := by
  intro p l e R s m args below meth c ad G cA A mc ms S H locs cells slots ls hc hz hl hS hP
  exact lv_fstore S.1 S.2.1 h hl hn (zz_LV_up1 ad lv i (.float x)) (fun ls2 hl2 => K p l e R s m args below meth c ad G cA A mc ms S H locs cells slots ls2 hc hz hl2 hS hP)
theorem zz_dstore_n {k : Fin 4} {x : UInt64} (h : decode M.2.1 pc = .ok (.dstore_n k, 1)) (hn : (k : Nat) + 1 < M.2.2.1) (K : zz_E M sc d rc rz Q (pc + 1) (zz_up2 lv (k : Nat) (.double x)) (st) (σ)) : zz_E M sc d rc rz Q (pc) (lv) (.double x :: st) (σ) := by
  intro p l e R s m args below meth c ad G cA A mc ms S H locs cells slots ls hc hz hl hS hP
  exact lv_dstore_n S.1 S.2.1 h rfl hl hn (zz_LV_up2 ad lv (k : Nat) (.double x)) (fun ls2 hl2 => K p l e R s m args below meth c ad G cA A mc ms S H locs cells slots ls2 hc hz hl2 hS hP)
theorem zz_dstore {i : Nat} {x : UInt64} (h : decode M.2.1 pc = .ok (.dstore i, 2)) (hn : i + 1 < M.2.2.1) (K : zz_E M sc d rc rz Q (pc + 2) (zz_up2 lv i (.double x)) (st) (σ)) : zz_E M sc d rc rz Q (pc) (lv) (.double x :: st) (σ) := by
  intro p l e R s m args below meth c ad G cA A mc ms S H locs cells slots ls hc hz hl hS hP
  exact lv_dstore S.1 S.2.1 h hl hn (zz_LV_up2 ad lv i (.double x)) (fun ls2 hl2 => K p l e R s m args below meth c ad G cA A mc ms S H locs cells slots ls2 hc hz hl2 hS hP)
theorem zz_astore_n {k : Fin 4} {x : Nat} (h : decode M.2.1 pc = .ok (.astore_n k, 1)) (hn : (k : Nat) < M.2.2.1) (K : zz_E M sc d rc rz Q (pc + 1) (zz_up1 lv (k : Nat) (.ref x)) (st) (σ)) : zz_E M sc d rc rz Q (pc) (lv) (.ref x :: st) (σ) := by
  intro p l e R s m args below meth c ad G cA A mc ms S H locs cells slots ls hc hz hl hS hP
  exact lv_astore_n S.1 S.2.1 h rfl hl hn (zz_LV_up1 ad lv (k : Nat) (.ref x)) (fun ls2 hl2 => K p l e R s m args below meth c ad G cA A mc ms S H locs cells slots ls2 hc hz hl2 hS hP)
theorem zz_astore {i : Nat} {x : Nat} (h : decode M.2.1 pc = .ok (.astore i, 2)) (hn : i < M.2.2.1) (K : zz_E M sc d rc rz Q (pc + 2) (zz_up1 lv i (.ref x)) (st) (σ)) : zz_E M sc d rc rz Q (pc) (lv) (.ref x :: st) (σ) := by
  intro p l e R s m args below meth c ad G cA A mc ms S H locs cells slots ls hc hz hl hS hP
  exact lv_astore S.1 S.2.1 h hl hn (zz_LV_up1 ad lv i (.ref x)) (fun ls2 hl2 => K p l e R s m args below meth c ad G cA A mc ms S H locs cells slots ls2 hc hz hl2 hS hP)
theorem zz_astoreX {i : Nat} {x : Nat} {lv2 : List (Nat × Value)} (h : decode M.2.1 pc = .ok (.astore i, 2)) (hn : i < M.2.2.1) (hs : ∀ q ∈ lv2, q ∈ zz_up1 lv i (.ref x)) (K : zz_E M sc d rc rz Q (pc + 2) lv2 st σ) : zz_E M sc d rc rz Q pc lv (.ref x :: st) σ := by
  intro p l e R s m args below meth c ad G cA A mc ms S H locs cells slots ls hc hz hl hS hP
  exact lv_astore S.1 S.2.1 h hl hn (zz_LV_up1 ad lv i (.ref x)) (fun ls2 hl2 => K p l e R s m args below meth c ad G cA A mc ms S H locs cells slots ls2 hc hz (zz_LV_sub hl2 hs) hS hP)
/-- fewer locals are told -/
theorem zz_lvs {lv2 : List (Nat × Value)} (hs : ∀ q ∈ lv2, q ∈ lv) (K : zz_E M sc d rc rz Q pc lv2 st σ) : zz_E M sc d rc rz Q pc lv st σ := by
  intro p l e R s m args below meth c ad G cA A mc ms S H locs cells slots ls hc hz hl hS hP
  exact K p l e R s m args below meth c ad G cA A mc ms S H locs cells slots ls hc hz (zz_LV_sub hl hs) hS hP
theorem zz_iinc {i : Nat} {n : Int} {x v : Int32} (h : decode M.2.1 pc = .ok (.iinc i n, 3)) (hv : lv.lookup i = some (.int x)) (hx : x + Int32.ofInt n = v) (hn : i < M.2.2.1) (K : zz_E M sc d rc rz Q (pc + 3) (zz_up1 lv i (.int v)) st σ) : zz_E M sc d rc rz Q pc lv st σ := by
  intro p l e R s m args below meth c ad G cA A mc ms S H locs cells slots ls hc hz hl hS hP
  obtain ⟨k, hk⟩ : ∃ k, (zz_LV ad lv)[k]? = some (i, Value.int x) := by
    have hm : (i, Value.int x) ∈ lv := by
      clear hl K
      induction lv with
      | nil => cases hv
      | cons q lv ih =>
        obtain ⟨a, b⟩ := q
        rw [List.lookup_cons] at hv
        by_cases e : (i == a) = true
        · rw [e] at hv
          simp at e hv
          subst e; subst hv
          exact List.mem_cons_self
        · simp only [Bool.not_eq_true] at e
          rw [e] at hv
          exact List.mem_cons_of_mem _ (ih hv)
    exact List.mem_iff_getElem?.mp (List.mem_map.mpr ⟨(i, Value.int x), hm, rfl⟩)
  exact lv_iinc (v := v) S.1 S.2.1 h hl hk hx hn (zz_LV_up1 ad lv i (.int v)) (fun ls2 hl2 => K p l e R s m args below meth c ad G cA A mc ms S H locs cells slots ls2 hc hz hl2 hS hP)
theorem zz_iadd {x y : Int32} (h : decode M.2.1 pc = .ok (.iadd, 1)) (K : zz_E M sc d rc rz Q (pc + 1) (lv) (.int (x + y) :: st) (σ)) : zz_E M sc d rc rz Q (pc) (lv) (.int y :: .int x :: st) (σ) := by
  intro p l e R s m args below meth c ad G cA A mc ms S H locs cells slots ls hc hz hl hS hP
  exact lv_iadd S.1 S.2.1 h (K p l e R s m args below meth c ad G cA A mc ms S H locs cells slots ls hc hz hl hS hP)
theorem zz_isub {x y : Int32} (h : decode M.2.1 pc = .ok (.isub, 1)) (K : zz_E M sc d rc rz Q (pc + 1) (lv) (.int (x - y) :: st) (σ)) : zz_E M sc d rc rz Q (pc) (lv) (.int y :: .int x :: st) (σ) := by
  intro p l e R s m args below meth c ad G cA A mc ms S H locs cells slots ls hc hz hl hS hP
  exact lv_isub S.1 S.2.1 h (K p l e R s m args below meth c ad G cA A mc ms S H locs cells slots ls hc hz hl hS hP)
theorem zz_imul {x y : Int32} (h : decode M.2.1 pc = .ok (.imul, 1)) (K : zz_E M sc d rc rz Q (pc + 1) (lv) (.int (x * y) :: st) (σ)) : zz_E M sc d rc rz Q (pc) (lv) (.int y :: .int x :: st) (σ) := by
  intro p l e R s m args below meth c ad G cA A mc ms S H locs cells slots ls hc hz hl hS hP
  exact lv_imul S.1 S.2.1 h (K p l e R s m args below meth c ad G cA A mc ms S H locs cells slots ls hc hz hl hS hP)
theorem zz_ladd {x y : Int64} (h : decode M.2.1 pc = .ok (.ladd, 1)) (K : zz_E M sc d rc rz Q (pc + 1) (lv) (.long (x + y) :: st) (σ)) : zz_E M sc d rc rz Q (pc) (lv) (.long y :: .long x :: st) (σ) := by
  intro p l e R s m args below meth c ad G cA A mc ms S H locs cells slots ls hc hz hl hS hP
  exact lv_ladd S.1 S.2.1 h (K p l e R s m args below meth c ad G cA A mc ms S H locs cells slots ls hc hz hl hS hP)
theorem zz_lsub {x y : Int64} (h : decode M.2.1 pc = .ok (.lsub, 1)) (K : zz_E M sc d rc rz Q (pc + 1) (lv) (.long (x - y) :: st) (σ)) : zz_E M sc d rc rz Q (pc) (lv) (.long y :: .long x :: st) (σ) := by
  intro p l e R s m args below meth c ad G cA A mc ms S H locs cells slots ls hc hz hl hS hP
  exact lv_lsub S.1 S.2.1 h (K p l e R s m args below meth c ad G cA A mc ms S H locs cells slots ls hc hz hl hS hP)
theorem zz_land {x y : Int64} (h : decode M.2.1 pc = .ok (.land, 1)) (K : zz_E M sc d rc rz Q (pc + 1) (lv) (.long (x &&& y) :: st) (σ)) : zz_E M sc d rc rz Q (pc) (lv) (.long y :: .long x :: st) (σ) := by
  intro p l e R s m args below meth c ad G cA A mc ms S H locs cells slots ls hc hz hl hS hP
  exact lv_land S.1 S.2.1 h (K p l e R s m args below meth c ad G cA A mc ms S H locs cells slots ls hc hz hl hS hP)
theorem zz_lor {x y : Int64} (h : decode M.2.1 pc = .ok (.lor, 1)) (K : zz_E M sc d rc rz Q (pc + 1) (lv) (.long (x ||| y) :: st) (σ)) : zz_E M sc d rc rz Q (pc) (lv) (.long y :: .long x :: st) (σ) := by
  intro p l e R s m args below meth c ad G cA A mc ms S H locs cells slots ls hc hz hl hS hP
  exact lv_lor S.1 S.2.1 h (K p l e R s m args below meth c ad G cA A mc ms S H locs cells slots ls hc hz hl hS hP)
theorem zz_lxor {x y : Int64} (h : decode M.2.1 pc = .ok (.lxor, 1)) (K : zz_E M sc d rc rz Q (pc + 1) (lv) (.long (x ^^^ y) :: st) (σ)) : zz_E M sc d rc rz Q (pc) (lv) (.long y :: .long x :: st) (σ) := by
  intro p l e R s m args below meth c ad G cA A mc ms S H locs cells slots ls hc hz hl hS hP
  exact lv_lxor S.1 S.2.1 h (K p l e R s m args below meth c ad G cA A mc ms S H locs cells slots ls hc hz hl hS hP)
theorem zz_iand {x y : Int32} (h : decode M.2.1 pc = .ok (.iand, 1)) (K : zz_E M sc d rc rz Q (pc + 1) (lv) (.int (x &&& y) :: st) (σ)) : zz_E M sc d rc rz Q (pc) (lv) (.int y :: .int x :: st) (σ) := by
  intro p l e R s m args below meth c ad G cA A mc ms S H locs cells slots ls hc hz hl hS hP
  exact lv_iand S.1 S.2.1 h (K p l e R s m args below meth c ad G cA A mc ms S H locs cells slots ls hc hz hl hS hP)
theorem zz_lneg {x : Int64} (h : decode M.2.1 pc = .ok (.lneg, 1)) (K : zz_E M sc d rc rz Q (pc + 1) (lv) (.long (-x) :: st) (σ)) : zz_E M sc d rc rz Q (pc) (lv) (.long x :: st) (σ) := by
  intro p l e R s m args below meth c ad G cA A mc ms S H locs cells slots ls hc hz hl hS hP
  exact lv_lneg S.1 S.2.1 h (K p l e R s m args below meth c ad G cA A mc ms S H locs cells slots ls hc hz hl hS hP)
theorem zz_irem {x y : Int32} (h : decode M.2.1 pc = .ok (.irem, 1)) (hy : ¬ y = 0) (K : zz_E M sc d rc rz Q (pc + 1) (lv) (.int (x - x / y * y) :: st) (σ)) : zz_E M sc d rc rz Q (pc) (lv) (.int y :: .int x :: st) (σ) := by
  intro p l e R s m args below meth c ad G cA A mc ms S H locs cells slots ls hc hz hl hS hP
  exact lv_irem S.1 S.2.1 h hy (K p l e R s m args below meth c ad G cA A mc ms S H locs cells slots ls hc hz hl hS hP)
theorem zz_iushr {x y v : Int32} (h : decode M.2.1 pc = .ok (.iushr, 1)) (hv : (x.toUInt32 >>> (y.toUInt32 &&& Int32.toUInt32 31)).toInt32 = v) (K : zz_E M sc d rc rz Q (pc + 1) (lv) (.int v :: st) (σ)) : zz_E M sc d rc rz Q (pc) (lv) (.int y :: .int x :: st) (σ) := by
  intro p l e R s m args below meth c ad G cA A mc ms S H locs cells slots ls hc hz hl hS hP
  exact lv_iushr S.1 S.2.1 h hv (K p l e R s m args below meth c ad G cA A mc ms S H locs cells slots ls hc hz hl hS hP)
theorem zz_lushr {x v : Int64} {y : Int32} (h : decode M.2.1 pc = .ok (.lushr, 1)) (hv : (x.toUInt64 >>> (y.toInt64.toUInt64 &&& Int64.toUInt64 63)).toInt64 = v) (K : zz_E M sc d rc rz Q (pc + 1) (lv) (.long v :: st) (σ)) : zz_E M sc d rc rz Q (pc) (lv) (.int y :: .long x :: st) (σ) := by
  intro p l e R s m args below meth c ad G cA A mc ms S H locs cells slots ls hc hz hl hS hP
  exact lv_lushr S.1 S.2.1 h hv (K p l e R s m args below meth c ad G cA A mc ms S H locs cells slots ls hc hz hl hS hP)
theorem zz_lshl {x v : Int64} {y : Int32} (h : decode M.2.1 pc = .ok (.lshl, 1)) (hv : x <<< (y.toInt64 &&& 63) = v) (K : zz_E M sc d rc rz Q (pc + 1) (lv) (.long v :: st) (σ)) : zz_E M sc d rc rz Q (pc) (lv) (.int y :: .long x :: st) (σ) := by
  intro p l e R s m args below meth c ad G cA A mc ms S H locs cells slots ls hc hz hl hS hP
  exact lv_lshl S.1 S.2.1 h hv (K p l e R s m args below meth c ad G cA A mc ms S H locs cells slots ls hc hz hl hS hP)
theorem zz_i2l {x : Int32} {v : Int64} (h : decode M.2.1 pc = .ok (.i2l, 1)) (hv : x.toInt64 = v) (K : zz_E M sc d rc rz Q (pc + 1) (lv) (.long v :: st) (σ)) : zz_E M sc d rc rz Q (pc) (lv) (.int x :: st) (σ) := by
  intro p l e R s m args below meth c ad G cA A mc ms S H locs cells slots ls hc hz hl hS hP
  exact lv_i2l S.1 S.2.1 h hv (K p l e R s m args below meth c ad G cA A mc ms S H locs cells slots ls hc hz hl hS hP)
theorem zz_i2f {x : Int32} (h : decode M.2.1 pc = .ok (.i2f, 1)) (K : zz_E M sc d rc rz Q (pc + 1) (lv) (.float (FP.i2f x) :: st) (σ)) : zz_E M sc d rc rz Q (pc) (lv) (.int x :: st) (σ) := by
  intro p l e R s m args below meth c ad G cA A mc ms S H locs cells slots ls hc hz hl hS hP
  exact lv_i2f S.1 S.2.1 h (K p l e R s m args below meth c ad G cA A mc ms S H locs cells slots ls hc hz hl hS hP)
theorem zz_i2d {x : Int32} (h : decode M.2.1 pc = .ok (.i2d, 1)) (K : zz_E M sc d rc rz Q (pc + 1) (lv) (.double (FP.i2d x) :: st) (σ)) : zz_E M sc d rc rz Q (pc) (lv) (.int x :: st) (σ) := by
  intro p l e R s m args below meth c ad G cA A mc ms S H locs cells slots ls hc hz hl hS hP
  exact lv_i2d S.1 S.2.1 h (K p l e R s m args below meth c ad G cA A mc ms S H locs cells slots ls hc hz hl hS hP)
theorem zz_f2d {x : UInt32} (h : decode M.2.1 pc = .ok (.f2d, 1)) (hv : vf_n64 (FP.f2d x)) (K : zz_E M sc d rc rz Q (pc + 1) (lv) (.double (FP.f2d x) :: st) (σ)) : zz_E M sc d rc rz Q (pc) (lv) (.float x :: st) (σ) := by
  intro p l e R s m args below meth c ad G cA A mc ms S H locs cells slots ls hc hz hl hS hP
  exact lv_f2d S.1 S.2.1 h hv (K p l e R s m args below meth c ad G cA A mc ms S H locs cells slots ls hc hz hl hS hP)
theorem zz_ddiv {x y : UInt64} (h : decode M.2.1 pc = .ok (.ddiv, 1)) (hv : vf_n64 (FP.ddiv x y)) (K : zz_E M sc d rc rz Q (pc + 1) (lv) (.double (FP.ddiv x y) :: st) (σ)) : zz_E M sc d rc rz Q (pc) (lv) (.double y :: .double x :: st) (σ) := by
  intro p l e R s m args below meth c ad G cA A mc ms S H locs cells slots ls hc hz hl hS hP
  exact lv_ddiv S.1 S.2.1 h hv (K p l e R s m args below meth c ad G cA A mc ms S H locs cells slots ls hc hz hl hS hP)
theorem zz_fdiv {x y : UInt32} (h : decode M.2.1 pc = .ok (.fdiv, 1)) (hv : vf_n32 (FP.fdiv x y)) (K : zz_E M sc d rc rz Q (pc + 1) (lv) (.float (FP.fdiv x y) :: st) (σ)) : zz_E M sc d rc rz Q (pc) (lv) (.float y :: .float x :: st) (σ) := by
  intro p l e R s m args below meth c ad G cA A mc ms S H locs cells slots ls hc hz hl hS hP
  exact lv_fdiv S.1 S.2.1 h hv (K p l e R s m args below meth c ad G cA A mc ms S H locs cells slots ls hc hz hl hS hP)
theorem zz_lcmp {x y : Int64} (h : decode M.2.1 pc = .ok (.lcmp, 1)) (K : zz_E M sc d rc rz Q (pc + 1) (lv) (.int (lg_cmp x y) :: st) (σ)) : zz_E M sc d rc rz Q (pc) (lv) (.long y :: .long x :: st) (σ) := by
  intro p l e R s m args below meth c ad G cA A mc ms S H locs cells slots ls hc hz hl hS hP
  exact W.lcmp S.1 S.2.1 h (K p l e R s m args below meth c ad G cA A mc ms S H locs cells slots ls hc hz hl hS hP)
theorem zz_dcmp {x y : UInt64} {op : CmpOp} (h : decode M.2.1 pc = .ok (.dcmp op, 1)) (K : zz_E M sc d rc rz Q (pc + 1) (lv) (.int (Op.cmpValue (FP.dcmp x y) op) :: st) (σ)) : zz_E M sc d rc rz Q (pc) (lv) (.double y :: .double x :: st) (σ) := by
  intro p l e R s m args below meth c ad G cA A mc ms S H locs cells slots ls hc hz hl hS hP
  exact lv_dcmp S.1 S.2.1 h (K p l e R s m args below meth c ad G cA A mc ms S H locs cells slots ls hc hz hl hS hP)
theorem zz_fcmp {x y : UInt32} {op : CmpOp} (h : decode M.2.1 pc = .ok (.fcmp op, 1)) (K : zz_E M sc d rc rz Q (pc + 1) (lv) (.int (Op.cmpValue (FP.fcmp x y) op) :: st) (σ)) : zz_E M sc d rc rz Q (pc) (lv) (.float y :: .float x :: st) (σ) := by
  intro p l e R s m args below meth c ad G cA A mc ms S H locs cells slots ls hc hz hl hS hP
  exact lv_fcmp S.1 S.2.1 h (K p l e R s m args below meth c ad G cA A mc ms S H locs cells slots ls hc hz hl hS hP)
theorem zz_dup {v : Value} (h : decode M.2.1 pc = .ok (.dup, 1)) (hv : v.category = 1) (K : zz_E M sc d rc rz Q (pc + 1) (lv) (v :: v :: st) (σ)) : zz_E M sc d rc rz Q (pc) (lv) (v :: st) (σ) := by
  intro p l e R s m args below meth c ad G cA A mc ms S H locs cells slots ls hc hz hl hS hP
  exact lv_dup S.1 S.2.1 h (by rw [zz_cat]; exact hv) (K p l e R s m args below meth c ad G cA A mc ms S H locs cells slots ls hc hz hl hS hP)
theorem zz_dconst0  (h : decode M.2.1 pc = .ok (.dconst 0, 1)) (K : zz_E M sc d rc rz Q (pc + 1) (lv) (.double FP.dconst0 :: st) (σ)) : zz_E M sc d rc rz Q (pc) (lv) (st) (σ) := by
  intro p l e R s m args below meth c ad G cA A mc ms S H locs cells slots ls hc hz hl hS hP
  exact lv_dconst0 S.1 S.2.1 h (K p l e R s m args below meth c ad G cA A mc ms S H locs cells slots ls hc hz hl hS hP)
theorem zz_fconst0  (h : decode M.2.1 pc = .ok (.fconst 0, 1)) (K : zz_E M sc d rc rz Q (pc + 1) (lv) (.float FP.fconst0 :: st) (σ)) : zz_E M sc d rc rz Q (pc) (lv) (st) (σ) := by
  intro p l e R s m args below meth c ad G cA A mc ms S H locs cells slots ls hc hz hl hS hP
  exact lv_fconst0 S.1 S.2.1 h (K p l e R s m args below meth c ad G cA A mc ms S H locs cells slots ls hc hz hl hS hP)
theorem zz_if_eq {x : Int32} {off : Int} {tgt : Nat} (h : decode M.2.1 pc = .ok (.ifCond .eq off, 3)) (ht : (pc : Int) + off = (tgt : Int)) (Kt : x = 0 → zz_E M sc d rc rz Q (tgt) (lv) (st) (σ)) (Kf : ¬ x = 0 → zz_E M sc d rc rz Q (pc + 3) (lv) (st) (σ)) : zz_E M sc d rc rz Q (pc) (lv) (.int x :: st) (σ) := by
  intro p l e R s m args below meth c ad G cA A mc ms S H locs cells slots ls hc hz hl hS hP
  exact lv_if_eq S.1 S.2.1 h ht (fun q => Kt q p l e R s m args below meth c ad G cA A mc ms S H locs cells slots ls hc hz hl hS hP) (fun q => Kf q p l e R s m args below meth c ad G cA A mc ms S H locs cells slots ls hc hz hl hS hP)
theorem zz_icmp_eq {x y : Int32} {off : Int} {tgt : Nat} (h : decode M.2.1 pc = .ok (.if_icmp .eq off, 3)) (ht : (pc : Int) + off = (tgt : Int)) (Kt : x = y → zz_E M sc d rc rz Q (tgt) (lv) (st) (σ)) (Kf : ¬ x = y → zz_E M sc d rc rz Q (pc + 3) (lv) (st) (σ)) : zz_E M sc d rc rz Q (pc) (lv) (.int y :: .int x :: st) (σ) := by
  intro p l e R s m args below meth c ad G cA A mc ms S H locs cells slots ls hc hz hl hS hP
  exact lv_icmp_eq S.1 S.2.1 h ht (fun q => Kt q p l e R s m args below meth c ad G cA A mc ms S H locs cells slots ls hc hz hl hS hP) (fun q => Kf q p l e R s m args below meth c ad G cA A mc ms S H locs cells slots ls hc hz hl hS hP)
theorem zz_if_ne {x : Int32} {off : Int} {tgt : Nat} (h : decode M.2.1 pc = .ok (.ifCond .ne off, 3)) (ht : (pc : Int) + off = (tgt : Int)) (Kt : ¬ x = 0 → zz_E M sc d rc rz Q (tgt) (lv) (st) (σ)) (Kf : x = 0 → zz_E M sc d rc rz Q (pc + 3) (lv) (st) (σ)) : zz_E M sc d rc rz Q (pc) (lv) (.int x :: st) (σ) := by
  intro p l e R s m args below meth c ad G cA A mc ms S H locs cells slots ls hc hz hl hS hP
  exact lv_if_ne S.1 S.2.1 h ht (fun q => Kt q p l e R s m args below meth c ad G cA A mc ms S H locs cells slots ls hc hz hl hS hP) (fun q => Kf q p l e R s m args below meth c ad G cA A mc ms S H locs cells slots ls hc hz hl hS hP)
theorem zz_icmp_ne {x y : Int32} {off : Int} {tgt : Nat} (h : decode M.2.1 pc = .ok (.if_icmp .ne off, 3)) (ht : (pc : Int) + off = (tgt : Int)) (Kt : ¬ x = y → zz_E M sc d rc rz Q (tgt) (lv) (st) (σ)) (Kf : x = y → zz_E M sc d rc rz Q (pc + 3) (lv) (st) (σ)) : zz_E M sc d rc rz Q (pc) (lv) (.int y :: .int x :: st) (σ) := by
  intro p l e R s m args below meth c ad G cA A mc ms S H locs cells slots ls hc hz hl hS hP
  exact lv_icmp_ne S.1 S.2.1 h ht (fun q => Kt q p l e R s m args below meth c ad G cA A mc ms S H locs cells slots ls hc hz hl hS hP) (fun q => Kf q p l e R s m args below meth c ad G cA A mc ms S H locs cells slots ls hc hz hl hS hP)
theorem zz_if_lt {x : Int32} {off : Int} {tgt : Nat} (h : decode M.2.1 pc = .ok (.ifCond .lt off, 3)) (ht : (pc : Int) + off = (tgt : Int)) (Kt : x < 0 → zz_E M sc d rc rz Q (tgt) (lv) (st) (σ)) (Kf : ¬ x < 0 → zz_E M sc d rc rz Q (pc + 3) (lv) (st) (σ)) : zz_E M sc d rc rz Q (pc) (lv) (.int x :: st) (σ) := by
  intro p l e R s m args below meth c ad G cA A mc ms S H locs cells slots ls hc hz hl hS hP
  exact lv_if_lt S.1 S.2.1 h ht (fun q => Kt q p l e R s m args below meth c ad G cA A mc ms S H locs cells slots ls hc hz hl hS hP) (fun q => Kf q p l e R s m args below meth c ad G cA A mc ms S H locs cells slots ls hc hz hl hS hP)
theorem zz_icmp_lt {x y : Int32} {off : Int} {tgt : Nat} (h : decode M.2.1 pc = .ok (.if_icmp .lt off, 3)) (ht : (pc : Int) + off = (tgt : Int)) (Kt : x < y → zz_E M sc d rc rz Q (tgt) (lv) (st) (σ)) (Kf : ¬ x < y → zz_E M sc d rc rz Q (pc + 3) (lv) (st) (σ)) : zz_E M sc d rc rz Q (pc) (lv) (.int y :: .int x :: st) (σ) := by
  intro p l e R s m args below meth c ad G cA A mc ms S H locs cells slots ls hc hz hl hS hP
  exact lv_icmp_lt S.1 S.2.1 h ht (fun q => Kt q p l e R s m args below meth c ad G cA A mc ms S H locs cells slots ls hc hz hl hS hP) (fun q => Kf q p l e R s m args below meth c ad G cA A mc ms S H locs cells slots ls hc hz hl hS hP)
theorem zz_if_gt {x : Int32} {off : Int} {tgt : Nat} (h : decode M.2.1 pc = .ok (.ifCond .gt off, 3)) (ht : (pc : Int) + off = (tgt : Int)) (Kt : 0 < x → zz_E M sc d rc rz Q (tgt) (lv) (st) (σ)) (Kf : ¬ 0 < x → zz_E M sc d rc rz Q (pc + 3) (lv) (st) (σ)) : zz_E M sc d rc rz Q (pc) (lv) (.int x :: st) (σ) := by
  intro p l e R s m args below meth c ad G cA A mc ms S H locs cells slots ls hc hz hl hS hP
  exact lv_if_gt S.1 S.2.1 h ht (fun q => Kt q p l e R s m args below meth c ad G cA A mc ms S H locs cells slots ls hc hz hl hS hP) (fun q => Kf q p l e R s m args below meth c ad G cA A mc ms S H locs cells slots ls hc hz hl hS hP)
theorem zz_icmp_gt {x y : Int32} {off : Int} {tgt : Nat} (h : decode M.2.1 pc = .ok (.if_icmp .gt off, 3)) (ht : (pc : Int) + off = (tgt : Int)) (Kt : y < x → zz_E M sc d rc rz Q (tgt) (lv) (st) (σ)) (Kf : ¬ y < x → zz_E M sc d rc rz Q (pc + 3) (lv) (st) (σ)) : zz_E M sc d rc rz Q (pc) (lv) (.int y :: .int x :: st) (σ) := by
  intro p l e R s m args below meth c ad G cA A mc ms S H locs cells slots ls hc hz hl hS hP
  exact lv_icmp_gt S.1 S.2.1 h ht (fun q => Kt q p l e R s m args below meth c ad G cA A mc ms S H locs cells slots ls hc hz hl hS hP) (fun q => Kf q p l e R s m args below meth c ad G cA A mc ms S H locs cells slots ls hc hz hl hS hP)
theorem zz_if_le {x : Int32} {off : Int} {tgt : Nat} (h : decode M.2.1 pc = .ok (.ifCond .le off, 3)) (ht : (pc : Int) + off = (tgt : Int)) (Kt : x ≤ 0 → zz_E M sc d rc rz Q (tgt) (lv) (st) (σ)) (Kf : ¬ x ≤ 0 → zz_E M sc d rc rz Q (pc + 3) (lv) (st) (σ)) : zz_E M sc d rc rz Q (pc) (lv) (.int x :: st) (σ) := by
  intro p l e R s m args below meth c ad G cA A mc ms S H locs cells slots ls hc hz hl hS hP
  exact lv_if_le S.1 S.2.1 h ht (fun q => Kt q p l e R s m args below meth c ad G cA A mc ms S H locs cells slots ls hc hz hl hS hP) (fun q => Kf q p l e R s m args below meth c ad G cA A mc ms S H locs cells slots ls hc hz hl hS hP)
theorem zz_icmp_le {x y : Int32} {off : Int} {tgt : Nat} (h : decode M.2.1 pc = .ok (.if_icmp .le off, 3)) (ht : (pc : Int) + off = (tgt : Int)) (Kt : x ≤ y → zz_E M sc d rc rz Q (tgt) (lv) (st) (σ)) (Kf : ¬ x ≤ y → zz_E M sc d rc rz Q (pc + 3) (lv) (st) (σ)) : zz_E M sc d rc rz Q (pc) (lv) (.int y :: .int x :: st) (σ) := by
  intro p l e R s m args below meth c ad G cA A mc ms S H locs cells slots ls hc hz hl hS hP
  exact lv_icmp_le S.1 S.2.1 h ht (fun q => Kt q p l e R s m args below meth c ad G cA A mc ms S H locs cells slots ls hc hz hl hS hP) (fun q => Kf q p l e R s m args below meth c ad G cA A mc ms S H locs cells slots ls hc hz hl hS hP)
theorem zz_if_ge {x : Int32} {off : Int} {tgt : Nat} (h : decode M.2.1 pc = .ok (.ifCond .ge off, 3)) (ht : (pc : Int) + off = (tgt : Int)) (Kt : 0 ≤ x → zz_E M sc d rc rz Q (tgt) (lv) (st) (σ)) (Kf : ¬ 0 ≤ x → zz_E M sc d rc rz Q (pc + 3) (lv) (st) (σ)) : zz_E M sc d rc rz Q (pc) (lv) (.int x :: st) (σ) := by
  intro p l e R s m args below meth c ad G cA A mc ms S H locs cells slots ls hc hz hl hS hP
  exact lv_if_ge S.1 S.2.1 h ht (fun q => Kt q p l e R s m args below meth c ad G cA A mc ms S H locs cells slots ls hc hz hl hS hP) (fun q => Kf q p l e R s m args below meth c ad G cA A mc ms S H locs cells slots ls hc hz hl hS hP)
theorem zz_icmp_ge {x y : Int32} {off : Int} {tgt : Nat} (h : decode M.2.1 pc = .ok (.if_icmp .ge off, 3)) (ht : (pc : Int) + off = (tgt : Int)) (Kt : y ≤ x → zz_E M sc d rc rz Q (tgt) (lv) (st) (σ)) (Kf : ¬ y ≤ x → zz_E M sc d rc rz Q (pc + 3) (lv) (st) (σ)) : zz_E M sc d rc rz Q (pc) (lv) (.int y :: .int x :: st) (σ) := by
  intro p l e R s m args below meth c ad G cA A mc ms S H locs cells slots ls hc hz hl hS hP
  exact lv_icmp_ge S.1 S.2.1 h ht (fun q => Kt q p l e R s m args below meth c ad G cA A mc ms S H locs cells slots ls hc hz hl hS hP) (fun q => Kf q p l e R s m args below meth c ad G cA A mc ms S H locs cells slots ls hc hz hl hS hP)
theorem zz_goto {off : Int} {tgt : Nat} (h : decode M.2.1 pc = .ok (.goto off, 3)) (ht : (pc : Int) + off = (tgt : Int)) (K : zz_E M sc d rc rz Q (tgt) (lv) (st) (σ)) : zz_E M sc d rc rz Q (pc) (lv) (st) (σ) := by
  intro p l e R s m args below meth c ad G cA A mc ms S H locs cells slots ls hc hz hl hS hP
  exact lv_goto S.1 S.2.1 h ht (K p l e R s m args below meth c ad G cA A mc ms S H locs cells slots ls hc hz hl hS hP)
theorem zz_ifnonnull {x : Nat} {off : Int} {tgt : Nat} (h : decode M.2.1 pc = .ok (.ifnonnull off, 3)) (ht : (pc : Int) + off = (tgt : Int)) (K : zz_E M sc d rc rz Q (tgt) (lv) (st) (σ)) : zz_E M sc d rc rz Q (pc) (lv) (.ref x :: st) (σ) := by
  intro p l e R s m args below meth c ad G cA A mc ms S H locs cells slots ls hc hz hl hS hP
  exact lv_ifnonnull S.1 S.2.1 h ht (K p l e R s m args below meth c ad G cA A mc ms S H locs cells slots ls hc hz hl hS hP)
theorem zz_tableIn {dflt lo hi : Int} {offs : Array Int} {len : Nat} {x : Int32} {off : Int} {tgt : Nat} (h : decode M.2.1 pc = .ok (.tableswitch dflt lo hi offs, len)) (h1 : ¬ x.toInt < lo) (h2 : ¬ hi < x.toInt) (ho : offs[(x.toInt - lo).toNat]? = some off) (ht : (pc : Int) + off = (tgt : Int)) (K : zz_E M sc d rc rz Q (tgt) (lv) (st) (σ)) : zz_E M sc d rc rz Q (pc) (lv) (.int x :: st) (σ) := by
  intro p l e R s m args below meth c ad G cA A mc ms S H locs cells slots ls hc hz hl hS hP
  exact lv_tableIn S.1 S.2.1 h h1 h2 ho ht (K p l e R s m args below meth c ad G cA A mc ms S H locs cells slots ls hc hz hl hS hP)
theorem zz_tableOut {dflt lo hi : Int} {offs : Array Int} {len : Nat} {x : Int32} {tgt : Nat} (h : decode M.2.1 pc = .ok (.tableswitch dflt lo hi offs, len)) (h1 : x.toInt < lo ∨ hi < x.toInt) (ht : (pc : Int) + dflt = (tgt : Int)) (K : zz_E M sc d rc rz Q (tgt) (lv) (st) (σ)) : zz_E M sc d rc rz Q (pc) (lv) (.int x :: st) (σ) := by
  intro p l e R s m args below meth c ad G cA A mc ms S H locs cells slots ls hc hz hl hS hP
  exact lv_tableOut S.1 S.2.1 h h1 ht (K p l e R s m args below meth c ad G cA A mc ms S H locs cells slots ls hc hz hl hS hP)
theorem zz_lookup {dflt : Int} {ps : Array (Int × Int)} {len : Nat} {x : Int32} {off : Int} {tgt : Nat} (h : decode M.2.1 pc = .ok (.lookupswitch dflt ps, len)) (hp : (ps.toList.zip (ps.toList.drop 1)).all (fun (a, next) => a.1 < next.1) = true) (ho : Op.lookupswitch.offset ps.toList dflt x.toInt = off) (ht : (pc : Int) + off = (tgt : Int)) (K : zz_E M sc d rc rz Q (tgt) (lv) (st) (σ)) : zz_E M sc d rc rz Q (pc) (lv) (.int x :: st) (σ) := by
  intro p l e R s m args below meth c ad G cA A mc ms S H locs cells slots ls hc hz hl hS hP
  exact lv_lookup S.1 S.2.1 h hp ho ht (K p l e R s m args below meth c ad G cA A mc ms S H locs cells slots ls hc hz hl hS hP)
theorem zz_get {C ref : String} {T : u_T} {N ci i q j : Nat} {fs : List Value} {v : Value} (hin : ∀ w ∈ u_ws C T N, w ∈ zz_g) (hc0 : vwCl[ci]? = some (C, T, N)) (hw : Cond.fieldLink M.2.2.2.2.1 i ref (T j).2.1 (T j).2.2.1 ∈ zz_g) (hsame : (T j).1 = ref) (hj : j < N) (h : decode M.2.1 pc = .ok (.getfield i, 3)) (hq : q < 68) (hs : σ q = .inr (ci, fs)) (hv : fs[j]? = some v) (K : zz_E M sc d rc rz Q (pc + 3) lv (v :: st) σ) : zz_E M sc d rc rz Q pc lv (.ref q :: st) σ := by
  intro p l e R s m args below meth c ad G cA A mc ms S H locs cells slots ls hc hz hl hS hP
  have he : (zz_W ad cA σ)[q]? = some (ad q, .inr (ci, fs.map (zz_V ad))) := by rw [zz_W_get hq, hs]; rfl
  exact va_get S.1 S.2.1 S.2.2.2.2.2.2.1 hin S.2.2.2.2.2.1 S.2.2.2.2.2.2.2.2.1 hP q he hc0 j hj (S.2.2.2.2.2.2.1 _ hw) (fun x hx => by rw [← hsame]; exact hx) (by rw [List.getElem?_map, hv]; rfl) h (K p l e R s m args below meth c ad G cA A mc ms S H locs cells slots ls hc hz hl hS hP)
theorem zz_put {C ref : String} {T : u_T} {N ci i q j : Nat} {fs : List Value} {v : Value} {ty : FieldType} (hin : ∀ w ∈ u_ws C T N, w ∈ zz_g) (ty0 : Nat → FieldType) (hty : ∀ k, k < N → parseFieldDescriptor (T k).2.2.1 = some (ty0 k)) (hnm : ∀ a, a < N → ∀ b, b < N → a ≠ b → (T a).2.1 ≠ (T b).2.1) (hc0 : vwCl[ci]? = some (C, T, N)) (hw : Cond.fieldLink M.2.2.2.2.1 i ref (T j).2.1 (T j).2.2.1 ∈ zz_g) (hsame : (T j).1 = ref) (hj : j < N) (hfin : (T j).2.2.2 = false) (hd : parseFieldDescriptor (T j).2.2.1 = some ty) (hn : ∀ ad, narrow ty (zz_V ad v) = zz_V ad v) (hfit : ∀ ad, fits ty (zz_V ad v) = true) (h : decode M.2.1 pc = .ok (.putfield i, 3)) (hq : q < 68) (hs : σ q = .inr (ci, fs)) (hlen : j < fs.length) (K : zz_E M sc d rc rz Q (pc + 3) lv st (va_up σ q (.inr (ci, fs.set j v)))) : zz_E M sc d rc rz Q pc lv (v :: .ref q :: st) σ := by
  intro p l e R s m args below meth c ad G cA A mc ms S H locs cells slots ls hc hz hl hS hP
  have he : (zz_W ad cA σ)[q]? = some (ad q, .inr (ci, fs.map (zz_V ad))) := by rw [zz_W_get hq, hs]; rfl
  refine va_put S.1 S.2.1 S.2.2.2.2.2.2.1 hin ty0 hty hnm S.2.2.2.2.2.1 S.2.2.2.2.2.2.2.2.1 hP (zz_D S.2.2.2.2.2.2.2.2.2.1 S.2.2.2.2.2.2.2.2.2.2.1) hS q he hc0 j hj (S.2.2.2.2.2.2.1 _ hw) (fun x hx => by rw [← hsame]; exact hx) hfin hd (hn ad) (hfit ad) (by simpa using hlen) h (fun H1 locs1 hP1 _ hS1 => ?_)
  have e1 : (zz_W ad cA σ).set q (ad q, .inr (ci, (fs.map (zz_V ad)).set j (zz_V ad v))) = zz_W ad cA (va_up σ q (.inr (ci, fs.set j v))) := by
    rw [← List.map_set]
    exact zz_W_set hq (.inr (ci, fs.set j v))
  rw [e1] at hP1
  exact K p l e R s m args below meth c ad G cA A mc ms S H1 locs1 cells slots ls hc hz hl hS1 hP1
theorem zz_iald {q n : Nat} {f : Nat → Int32} {i : Int32} (h : decode M.2.1 pc = .ok (.iaload, 1)) (hq : q < 68) (hs : σ q = .inl (0, n, .inl f)) (hin : vp_in i n) (K : zz_E M sc d rc rz Q (pc + 1) lv (.int (f i.toNatClampNeg) :: st) σ) : zz_E M sc d rc rz Q pc lv (.int i :: .ref q :: st) σ := by
  intro p l e R s m args below meth c ad G cA A mc ms S H locs cells slots ls hc hz hl hS hP
  have he : (zz_W ad cA σ)[q]? = some (ad q, .inl (cA 0, n, .inl f)) := by rw [zz_W_get hq, hs]; rfl
  exact va_iald S.1 S.2.1 S.2.2.2.2.2.2.2.2.1 hP q 0 he rfl hin h (K p l e R s m args below meth c ad G cA A mc ms S H locs cells slots ls hc hz hl hS hP)
theorem zz_lald {q n : Nat} {f : Nat → Int64} {i : Int32} (h : decode M.2.1 pc = .ok (.laload, 1)) (hq : q < 68) (hs : σ q = .inl (1, n, .inr (.inl f))) (hin : vp_in i n) (K : zz_E M sc d rc rz Q (pc + 1) lv (.long (f i.toNatClampNeg) :: st) σ) : zz_E M sc d rc rz Q pc lv (.int i :: .ref q :: st) σ := by
  intro p l e R s m args below meth c ad G cA A mc ms S H locs cells slots ls hc hz hl hS hP
  have he : (zz_W ad cA σ)[q]? = some (ad q, .inl (cA 1, n, .inr (.inl f))) := by rw [zz_W_get hq, hs]; rfl
  exact va_lald S.1 S.2.1 S.2.2.2.2.2.2.2.2.1 hP q 1 he rfl hin h (K p l e R s m args below meth c ad G cA A mc ms S H locs cells slots ls hc hz hl hS hP)
theorem zz_zald {q n : Nat} {f : Nat → Int32} {i : Int32} (h : decode M.2.1 pc = .ok (.baload, 1)) (hq : q < 68) (hs : σ q = .inl (2, n, .inl f)) (hin : vp_in i n) (K : zz_E M sc d rc rz Q (pc + 1) lv (.int (f i.toNatClampNeg) :: st) σ) : zz_E M sc d rc rz Q pc lv (.int i :: .ref q :: st) σ := by
  intro p l e R s m args below meth c ad G cA A mc ms S H locs cells slots ls hc hz hl hS hP
  have he : (zz_W ad cA σ)[q]? = some (ad q, .inl (cA 2, n, .inl f)) := by rw [zz_W_get hq, hs]; rfl
  exact va_zald S.1 S.2.1 S.2.2.2.2.2.2.2.2.1 hP q 2 he rfl hin h (K p l e R s m args below meth c ad G cA A mc ms S H locs cells slots ls hc hz hl hS hP)
theorem zz_dald {q n : Nat} {f : Nat → UInt64} {i : Int32} (h : decode M.2.1 pc = .ok (.daload, 1)) (hq : q < 68) (hs : σ q = .inl (4, n, .inr (.inr (.inr (.inl f))))) (hin : vp_in i n) (K : zz_E M sc d rc rz Q (pc + 1) lv (.double (f i.toNatClampNeg) :: st) σ) : zz_E M sc d rc rz Q pc lv (.int i :: .ref q :: st) σ := by
  intro p l e R s m args below meth c ad G cA A mc ms S H locs cells slots ls hc hz hl hS hP
  have he : (zz_W ad cA σ)[q]? = some (ad q, .inl (cA 4, n, .inr (.inr (.inr (.inl f))))) := by rw [zz_W_get hq, hs]; rfl
  exact va_dald S.1 S.2.1 S.2.2.2.2.2.2.2.2.1 hP q 4 he rfl hin h (K p l e R s m args below meth c ad G cA A mc ms S H locs cells slots ls hc hz hl hS hP)
theorem zz_iast {q n : Nat} {f : Nat → Int32} {i : Int32} {x : Int32} (h : decode M.2.1 pc = .ok (.iastore, 1)) (hq : q < 68) (hs : σ q = .inl (0, n, .inl (f))) (hin : vp_in i n) (K : zz_E M sc d rc rz Q (pc + 1) lv st (va_up σ q (.inl (0, n, .inl (va_up f i.toNatClampNeg x))))) : zz_E M sc d rc rz Q pc lv (.int x :: .int i :: .ref q :: st) σ := by
  intro p l e R s m args below meth c ad G cA A mc ms S H locs cells slots ls hc hz hl hS hP
  have he : (zz_W ad cA σ)[q]? = some (ad q, .inl (cA 0, n, .inl (f))) := by rw [zz_W_get hq, hs]; rfl
  refine va_iast S.1 S.2.1 S.2.2.2.2.2.2.2.2.1 hP (zz_D S.2.2.2.2.2.2.2.2.2.1 S.2.2.2.2.2.2.2.2.2.2.1) hS q 0 he rfl hin h (fun H1 locs1 hP1 _ hS1 => ?_)
  have e1 : (zz_W ad cA σ).set q (ad q, .inl (cA 0, n, .inl (va_up f i.toNatClampNeg x))) = zz_W ad cA (va_up σ q (.inl (0, n, .inl (va_up f i.toNatClampNeg x)))) := zz_W_set hq (.inl (0, n, .inl (va_up f i.toNatClampNeg x)))
  exact K p l e R s m args below meth c ad G cA A mc ms S H1 locs1 cells slots ls hc hz hl hS1 (by rw [← e1]; exact hP1)
theorem zz_last {q n : Nat} {f : Nat → Int64} {i : Int32} {x : Int64} (h : decode M.2.1 pc = .ok (.lastore, 1)) (hq : q < 68) (hs : σ q = .inl (1, n, .inr (.inl (f)))) (hin : vp_in i n) (K : zz_E M sc d rc rz Q (pc + 1) lv st (va_up σ q (.inl (1, n, .inr (.inl (va_up f i.toNatClampNeg x)))))) : zz_E M sc d rc rz Q pc lv (.long x :: .int i :: .ref q :: st) σ := by
  intro p l e R s m args below meth c ad G cA A mc ms S H locs cells slots ls hc hz hl hS hP
  have he : (zz_W ad cA σ)[q]? = some (ad q, .inl (cA 1, n, .inr (.inl (f)))) := by rw [zz_W_get hq, hs]; rfl
  refine va_last S.1 S.2.1 S.2.2.2.2.2.2.2.2.1 hP (zz_D S.2.2.2.2.2.2.2.2.2.1 S.2.2.2.2.2.2.2.2.2.2.1) hS q 1 he rfl hin h (fun H1 locs1 hP1 _ hS1 => ?_)
  have e1 : (zz_W ad cA σ).set q (ad q, .inl (cA 1, n, .inr (.inl (va_up f i.toNatClampNeg x)))) = zz_W ad cA (va_up σ q (.inl (1, n, .inr (.inl (va_up f i.toNatClampNeg x))))) := zz_W_set hq (.inl (1, n, .inr (.inl (va_up f i.toNatClampNeg x))))
  exact K p l e R s m args below meth c ad G cA A mc ms S H1 locs1 cells slots ls hc hz hl hS1 (by rw [← e1]; exact hP1)
theorem zz_zast {q n : Nat} {f : Nat → Int32} {i : Int32} {x : Int32} (h : decode M.2.1 pc = .ok (.bastore, 1)) (hq : q < 68) (hs : σ q = .inl (2, n, .inl (f))) (hin : vp_in i n) (K : zz_E M sc d rc rz Q (pc + 1) lv st (va_up σ q (.inl (2, n, .inl (va_up f i.toNatClampNeg (vp_nar .boolean x)))))) : zz_E M sc d rc rz Q pc lv (.int x :: .int i :: .ref q :: st) σ := by
  intro p l e R s m args below meth c ad G cA A mc ms S H locs cells slots ls hc hz hl hS hP
  have he : (zz_W ad cA σ)[q]? = some (ad q, .inl (cA 2, n, .inl (f))) := by rw [zz_W_get hq, hs]; rfl
  refine va_zast S.1 S.2.1 S.2.2.2.2.2.2.2.2.1 hP (zz_D S.2.2.2.2.2.2.2.2.2.1 S.2.2.2.2.2.2.2.2.2.2.1) hS q 2 he rfl hin h (fun H1 locs1 hP1 _ hS1 => ?_)
  have e1 : (zz_W ad cA σ).set q (ad q, .inl (cA 2, n, .inl (va_up f i.toNatClampNeg (vp_nar .boolean x)))) = zz_W ad cA (va_up σ q (.inl (2, n, .inl (va_up f i.toNatClampNeg (vp_nar .boolean x))))) := zz_W_set hq (.inl (2, n, .inl (va_up f i.toNatClampNeg (vp_nar .boolean x))))
  exact K p l e R s m args below meth c ad G cA A mc ms S H1 locs1 cells slots ls hc hz hl hS1 (by rw [← e1]; exact hP1)
theorem zz_dast {q n : Nat} {f : Nat → UInt64} {i : Int32} {x : UInt64} (h : decode M.2.1 pc = .ok (.dastore, 1)) (hq : q < 68) (hs : σ q = .inl (4, n, .inr (.inr (.inr (.inl (f)))))) (hin : vp_in i n) (K : zz_E M sc d rc rz Q (pc + 1) lv st (va_up σ q (.inl (4, n, .inr (.inr (.inr (.inl (va_up f i.toNatClampNeg x)))))))) : zz_E M sc d rc rz Q pc lv (.double x :: .int i :: .ref q :: st) σ := by
  intro p l e R s m args below meth c ad G cA A mc ms S H locs cells slots ls hc hz hl hS hP
  have he : (zz_W ad cA σ)[q]? = some (ad q, .inl (cA 4, n, .inr (.inr (.inr (.inl (f)))))) := by rw [zz_W_get hq, hs]; rfl
  refine va_dast S.1 S.2.1 S.2.2.2.2.2.2.2.2.1 hP (zz_D S.2.2.2.2.2.2.2.2.2.1 S.2.2.2.2.2.2.2.2.2.2.1) hS q 4 he rfl hin h (fun H1 locs1 hP1 _ hS1 => ?_)
  have e1 : (zz_W ad cA σ).set q (ad q, .inl (cA 4, n, .inr (.inr (.inr (.inl (va_up f i.toNatClampNeg x)))))) = zz_W ad cA (va_up σ q (.inl (4, n, .inr (.inr (.inr (.inl (va_up f i.toNatClampNeg x))))))) := zz_W_set hq (.inl (4, n, .inr (.inr (.inr (.inl (va_up f i.toNatClampNeg x))))))
  exact K p l e R s m args below meth c ad G cA A mc ms S H1 locs1 cells slots ls hc hz hl hS1 (by rw [← e1]; exact hP1)
theorem zz_aald {q n : Nat} {f : Nat → Option Nat} {i : Int32} {y : Nat} (h : decode M.2.1 pc = .ok (.aaload, 1)) (hq : q < 68) (hs : σ q = .inl (3, n, .inr (.inr (.inr (.inr f))))) (hin : vp_in i n) (hy : f i.toNatClampNeg = some y) (K : zz_E M sc d rc rz Q (pc + 1) lv (.ref y :: st) σ) : zz_E M sc d rc rz Q pc lv (.int i :: .ref q :: st) σ := by
  intro p l e R s m args below meth c ad G cA A mc ms S H locs cells slots ls hc hz hl hS hP
  have he : (zz_W ad cA σ)[q]? = some (ad q, .inl (cA 3, n, .inr (.inr (.inr (.inr (fun i => (f i).map ad)))))) := by rw [zz_W_get hq, hs]; rfl
  refine va_aldq S.1 S.2.1 S.2.2.2.2.2.2.2.2.1 hP q 3 he rfl hin h ?_
  have e1 : va_rf ((f i.toNatClampNeg).map ad) = .ref (ad y) := by rw [hy]; rfl
  rw [e1]
  exact K p l e R s m args below meth c ad G cA A mc ms S H locs cells slots ls hc hz hl hS hP
theorem zz_alen0 {q n : Nat} {f : Nat → Int32} {v : Int32} (h : decode M.2.1 pc = .ok (.arraylength, 1)) (hq : q < 68) (hs : σ q = .inl (0, n, .inl f)) (hv : Int32.ofNat n = v) (K : zz_E M sc d rc rz Q (pc + 1) lv (.int v :: st) σ) : zz_E M sc d rc rz Q pc lv (.ref q :: st) σ := by
  intro p l e R s m args below meth c ad G cA A mc ms S H locs cells slots ls hc hz hl hS hP
  have he : (zz_W ad cA σ)[q]? = some (ad q, .inl (cA 0, n, .inl f)) := by rw [zz_W_get hq, hs]; rfl
  exact va_alen S.1 S.2.1 S.2.2.2.2.2.2.2.2.1 hP q 0 he (ty := .int) rfl hv h (K p l e R s m args below meth c ad G cA A mc ms S H locs cells slots ls hc hz hl hS hP)
theorem zz_alen1 {q n : Nat} {f : Nat → Int64} {v : Int32} (h : decode M.2.1 pc = .ok (.arraylength, 1)) (hq : q < 68) (hs : σ q = .inl (1, n, .inr (.inl f))) (hv : Int32.ofNat n = v) (K : zz_E M sc d rc rz Q (pc + 1) lv (.int v :: st) σ) : zz_E M sc d rc rz Q pc lv (.ref q :: st) σ := by
  intro p l e R s m args below meth c ad G cA A mc ms S H locs cells slots ls hc hz hl hS hP
  have he : (zz_W ad cA σ)[q]? = some (ad q, .inl (cA 1, n, .inr (.inl f))) := by rw [zz_W_get hq, hs]; rfl
  exact va_alen S.1 S.2.1 S.2.2.2.2.2.2.2.2.1 hP q 1 he (ty := .long) rfl hv h (K p l e R s m args below meth c ad G cA A mc ms S H locs cells slots ls hc hz hl hS hP)
theorem zz_alen3 {q n : Nat} {f : Nat → Option Nat} {v : Int32} (h : decode M.2.1 pc = .ok (.arraylength, 1)) (hq : q < 68) (hs : σ q = .inl (3, n, .inr (.inr (.inr (.inr f))))) (hv : Int32.ofNat n = v) (K : zz_E M sc d rc rz Q (pc + 1) lv (.int v :: st) σ) : zz_E M sc d rc rz Q pc lv (.ref q :: st) σ := by
  intro p l e R s m args below meth c ad G cA A mc ms S H locs cells slots ls hc hz hl hS hP
  have he : (zz_W ad cA σ)[q]? = some (ad q, .inl (cA 3, n, .inr (.inr (.inr (.inr (fun i => (f i).map ad)))))) := by rw [zz_W_get hq, hs]; rfl
  exact va_alen S.1 S.2.1 S.2.2.2.2.2.2.2.2.1 hP q 3 he (ty := .object RX1) rfl hv h (K p l e R s m args below meth c ad G cA A mc ms S H locs cells slots ls hc hz hl hS hP)
theorem zz_slen {L : Nat} {xs : Nat → Int32} (h : decode M.2.1 pc = .ok (.arraylength, 1)) (K : zz_E M (some (L, xs)) d rc rz Q (pc + 1) lv (.int (Int32.ofNat L) :: st) σ) : zz_E M (some (L, xs)) d rc rz Q pc lv (.ref 68 :: st) σ := by
  intro p l e R s m args below meth c ad G cA A mc ms S H locs cells slots ls hc hz hl hS hP
  have hsc : zz_Sc (some (L, xs)) ad A s := S.2.2.2.2.2.2.2.2.2.2.2.2.2.2.2.2.2.2
  exact va_slen S.1 S.2.1 hsc.1 hsc.2.1 hsc.2.2 hS h (K p l e R s m args below meth c ad G cA A mc ms S H locs cells slots ls hc hz hl hS hP)
theorem zz_sld {L : Nat} {xs : Nat → Int32} {i : Int32} (h : decode M.2.1 pc = .ok (.iaload, 1)) (hin : vp_in i L) (K : zz_E M (some (L, xs)) d rc rz Q (pc + 1) lv (.int (xs i.toNatClampNeg) :: st) σ) : zz_E M (some (L, xs)) d rc rz Q pc lv (.int i :: .ref 68 :: st) σ := by
  intro p l e R s m args below meth c ad G cA A mc ms S H locs cells slots ls hc hz hl hS hP
  have hsc : zz_Sc (some (L, xs)) ad A s := S.2.2.2.2.2.2.2.2.2.2.2.2.2.2.2.2.2.2
  exact va_sld S.1 S.2.1 hsc.1 hsc.2.1 hsc.2.2 hS hin h (K p l e R s m args below meth c ad G cA A mc ms S H locs cells slots ls hc hz hl hS hP)
end ZZB
end
section
section ZZC
variable {M : zz_M} {sc : Option (Nat × (Nat → Int32))} {d rc rz : Nat} {Q : zz_Q} {pc : Nat} {lv : List (Nat × Value)} {st : List Value} {σ : zz_St}
theorem zz_sub {A : Nat → Prop} {ad : Nat → Nat} {s : State} {H : Heap} {locs : List Loc} (h1 : ∀ k, k < 68 → A (ad k)) (h2 : ∀ q, s.heap.size ≤ q → A q) (hS : va_S A s.heap H locs) : ∀ q, zz_A ad H.size q → A q := by
  rintro q (⟨k, hk, rfl⟩ | h)
  · exact h1 k hk
  · exact h2 q (Nat.le_trans hS.1 h)
/-- fewer claims of the end -/
theorem zz_mono {Q1 : zz_Q} (h : ∀ o τ, Q1 o τ → Q o τ) (K : zz_E M sc d rc rz Q1 pc lv st σ) : zz_E M sc d rc rz Q pc lv st σ := by
  intro p l e R s m args below meth c ad G cA A mc ms S H locs cells slots ls hc hz hl hS hP T hT X
  obtain ⟨t, a1, o, b1, b2, b3⟩ := K p l e R s m args below meth c ad G cA A mc ms S H locs cells slots ls hc hz hl hS hP T hT X
  refine ⟨t, a1, o, b1, b2, ?_⟩
  rcases b3 with ⟨⟨⟨v, τ, c1, c2, c3⟩, c4⟩, c5⟩ | ⟨q, c1, E, ce, L, ⟨⟨τ, c2, c3⟩, c4⟩, c5⟩
  · exact Or.inl ⟨⟨⟨v, τ, c1, h _ _ c2, c3⟩, c4⟩, c5⟩
  · exact Or.inr ⟨q, c1, E, ce, L, ⟨⟨τ, h _ _ c2, c3⟩, c4⟩, c5⟩
theorem zz_less {rc1 rz1 : Nat} (h1 : rc1 ≤ rc) (h2 : rz1 ≤ rz) (K : zz_E M sc d rc1 rz1 Q pc lv st σ) : zz_E M sc d rc rz Q pc lv st σ := by
  intro p l e R s m args below meth c ad G cA A mc ms S H locs cells slots ls hc hz hl hS hP
  exact K p l e R s m args below meth c ad G cA A mc ms S H locs cells slots ls (by omega) (by omega) hl hS hP
/-! ends -/
theorem zz_iret {x : Int32} (h : decode M.2.1 pc = .ok (.ireturn, 1)) (hr : M.2.2.2.1 = some .int) (hQ : Q (.inl (some (.int x))) σ) : zz_E M sc d rc rz Q pc lv [.int x] σ := by
  intro p l e R s m args below meth c ad G cA A mc ms S H locs cells slots ls hc hz hl hS hP
  refine vx_ret (W.widen (k := mc) (n := ms) (by omega) (by omega) ?_)
  exact W.iret S.1 S.2.1 (S.2.2.2.1.trans hr) (fun t ht hW => ⟨⟨some (.int x), σ, rfl, hQ, by rw [ht]; exact hP⟩, hS.F ht⟩) (fun q hq => hS.2.2 q hq) h S.2.2.2.2.1
theorem zz_zret {x : Int32} (h : decode M.2.1 pc = .ok (.ireturn, 1)) (hr : M.2.2.2.1 = some .boolean) (hn : narrow .boolean (.int x) = .int x) (hQ : Q (.inl (some (.int x))) σ) : zz_E M sc d rc rz Q pc lv [.int x] σ := by
  intro p l e R s m args below meth c ad G cA A mc ms S H locs cells slots ls hc hz hl hS hP
  refine vx_ret (W.widen (k := mc) (n := ms) (by omega) (by omega) ?_)
  exact W.zret S.1 S.2.1 (S.2.2.2.1.trans hr) hn (fun t ht hW => ⟨⟨some (.int x), σ, rfl, hQ, by rw [ht]; exact hP⟩, hS.F ht⟩) (fun q hq => hS.2.2 q hq) h S.2.2.2.2.1
theorem zz_lret {x : Int64} (h : decode M.2.1 pc = .ok (.lreturn, 1)) (hr : M.2.2.2.1 = some .long) (hQ : Q (.inl (some (.long x))) σ) : zz_E M sc d rc rz Q pc lv [.long x] σ := by
  intro p l e R s m args below meth c ad G cA A mc ms S H locs cells slots ls hc hz hl hS hP
  refine vx_ret (W.widen (k := mc) (n := ms) (by omega) (by omega) ?_)
  exact W.lret S.1 S.2.1 (S.2.2.2.1.trans hr) (fun t ht hW => ⟨⟨some (.long x), σ, rfl, hQ, by rw [ht]; exact hP⟩, hS.F ht⟩) (fun q hq => hS.2.2 q hq) h S.2.2.2.2.1
theorem zz_fret {x : UInt32} (h : decode M.2.1 pc = .ok (.freturn, 1)) (hr : M.2.2.2.1 = some .float) (hQ : Q (.inl (some (.float x))) σ) : zz_E M sc d rc rz Q pc lv [.float x] σ := by
  intro p l e R s m args below meth c ad G cA A mc ms S H locs cells slots ls hc hz hl hS hP
  refine vx_ret (W.widen (k := mc) (n := ms) (by omega) (by omega) ?_)
  exact W.fret S.1 S.2.1 (S.2.2.2.1.trans hr) (fun t ht hW => ⟨⟨some (.float x), σ, rfl, hQ, by rw [ht]; exact hP⟩, hS.F ht⟩) (fun q hq => hS.2.2 q hq) h S.2.2.2.2.1
theorem zz_dret {x : UInt64} (h : decode M.2.1 pc = .ok (.dreturn, 1)) (hr : M.2.2.2.1 = some .double) (hQ : Q (.inl (some (.double x))) σ) : zz_E M sc d rc rz Q pc lv [.double x] σ := by
  intro p l e R s m args below meth c ad G cA A mc ms S H locs cells slots ls hc hz hl hS hP
  refine vx_ret (W.widen (k := mc) (n := ms) (by omega) (by omega) ?_)
  exact W.dret S.1 S.2.1 (S.2.2.2.1.trans hr) (fun t ht hW => ⟨⟨some (.double x), σ, rfl, hQ, by rw [ht]; exact hP⟩, hS.F ht⟩) (fun q hq => hS.2.2 q hq) h S.2.2.2.2.1
theorem zz_aret {x : Nat} {nm : String} (h : decode M.2.1 pc = .ok (.areturn, 1)) (hr : M.2.2.2.1 = some (.object nm)) (hQ : Q (.inl (some (.ref x))) σ) : zz_E M sc d rc rz Q pc lv [.ref x] σ := by
  intro p l e R s m args below meth c ad G cA A mc ms S H locs cells slots ls hc hz hl hS hP
  refine vx_ret (W.widen (k := mc) (n := ms) (by omega) (by omega) ?_)
  exact W.aret S.1 S.2.1 (S.2.2.2.1.trans hr) (Or.inl ⟨nm, rfl⟩) (Or.inr ⟨ad x, rfl⟩) (fun t ht hW => ⟨⟨some (.ref x), σ, rfl, hQ, by rw [ht]; exact hP⟩, hS.F ht⟩) (fun q hq => hS.2.2 q hq) h S.2.2.2.2.1
theorem zz_vret (h : decode M.2.1 pc = .ok (.return_, 1)) (hr : M.2.2.2.1 = none) (hQ : Q (.inl none) σ) : zz_E M sc d rc rz Q pc lv [] σ := by
  intro p l e R s m args below meth c ad G cA A mc ms S H locs cells slots ls hc hz hl hS hP
  refine vx_ret (W.widen (k := mc) (n := ms) (by omega) (by omega) ?_)
  exact W.vret S.1 S.2.1 (S.2.2.2.1.trans hr) (fun t ht hW => ⟨⟨none, σ, rfl, hQ, by rw [ht]; exact hP⟩, hS.F ht⟩) (fun q hq => hS.2.2 q hq) h S.2.2.2.2.1
/-! a method's contract out of its body -/
theorem zz_preA {ad : Nat → Nat} {G : va_G} {cA : Nat → ClassId} {sz : Nat} {τ : zz_St} {U : State} (g : JFrame) (mk : MethodId) (a : Array Value) (h : zz_pre ad G cA sz τ U) : zz_pre ad G cA sz τ (U.calling g mk a) :=
  ⟨h.1, h.2.1, va_K.moved (u := U) (U := U.calling g mk a) (Vm.Alike.refl U.vm) h.2.2.1, h.2.2.2.1, zz_Z_call g mk a h.2.2.2.2⟩
theorem zz_start {mc ms : Nat} {as : List Value} (hy : plainName M.1.cls = true) (hown : M.2.2.2.2.1 = M.1.cls) (hh : M.2.2.2.2.2 = []) (hn : (lg_sl as).length ≤ M.2.2.1) (K : zz_E M none d mc ms Q 0 (lv_args 0 as) [] σ) : zz_C M d mc ms as σ Q := by
  intro l hfl ad G cA sz
  refine vx_ofW (cc := M.2.1) (maxL := M.2.2.1) (ret := M.2.2.2.1) (ws' := zz_g) hy (by unfold zz_ws; rw [hh]) ?_
  intro p e s m args below meth c s₁ B hml hexc hv
  obtain ⟨rfl, hsz, hP, hK, hinj, hZ⟩ := hv
  have hts := atoms_spec (ws := zz_ws M) B.pre
  have hl := lv_entry (as.map (zz_V ad)) (n := M.2.2.1) (by rw [zz_sl]; exact hn)
  rw [lg_entry_eq]
  rw [zz_args] at hl
  subst hsz
  have hA : ∀ q : Nat, s.heap.size ≤ q → zz_A ad s.heap.size q := fun q h => Or.inr h
  refine K p l e _ s m _ below meth c ad G cA (zz_A ad s.heap.size) mc ms ⟨B.exec, B.bytes, hml, B.returns, B.notSynchronized, ?_, ?_, ?_, hK, hinj, fun k hk => Or.inl ⟨k, hk, rfl⟩, hA, hZ, hfl, Nat.le_refl _, Nat.le_refl _, Nat.le_refl _, Nat.le_refl _, trivial⟩ s.heap [] 0 0 _ (by omega) (by omega) hl va_S.rf hP
  · rw [hown]; exact findClass_of_methodNamed B.named
  · exact fun w hw => hts w (List.mem_cons_of_mem _ hw)
  · rw [hh]
    exact List.eq_nil_iff_forall_not_mem.mpr (fun x hx => hexc x hx)
/-! calls -/
theorem zz_goodV {Y : zz_M} {own C : String} {i : Nat} (hh : Y.2.2.2.2.2 = []) (h1 : Cond.methodLink own i Y.1 ∈ zz_g) (h2 : Cond.instanceMethod Y.1 ∈ zz_g) (h3 : Cond.selects C Y.1 Y.1 ∈ zz_g) (h4 : Cond.initialized C ∈ zz_g) (h5 : Cond.code Y.1 Y.2.1 Y.2.2.1 Y.2.2.2.1 ∈ zz_g) : GoodIn zz_g (wsV own i C Y.1 (zz_ws Y)) := by
  have hall : ∀ w ∈ wsV own i C Y.1 (zz_ws Y), w ∈ zz_g := by
    intro w hw
    unfold wsV zz_ws at hw
    rw [hh] at hw
    simp only [List.mem_append, List.mem_cons, List.not_mem_nil, or_false] at hw
    rcases hw with (rfl | rfl | rfl | rfl) | rfl | hw
    · exact h1
    · exact h2
    · exact h3
    · exact h4
    · exact h5
    · exact hw
  exact fun w hw => ⟨hall w hw, good_of_word (zz_g_good w (hall w hw))⟩
theorem zz_goodS {Y : zz_M} {own : String} {i : Nat} (hh : Y.2.2.2.2.2 = []) (h1 : Cond.methodLink own i Y.1 ∈ zz_g) (h2 : Cond.static Y.1 ∈ zz_g) (h4 : Cond.initialized Y.1.cls ∈ zz_g) (h5 : Cond.code Y.1 Y.2.1 Y.2.2.1 Y.2.2.2.1 ∈ zz_g) : GoodIn zz_g (va_wsS own i Y.1 (zz_ws Y)) := by
  have hall : ∀ w ∈ va_wsS own i Y.1 (zz_ws Y), w ∈ zz_g := by
    intro w hw
    unfold va_wsS zz_ws at hw
    rw [hh] at hw
    simp only [List.mem_append, List.mem_cons, List.not_mem_nil, or_false] at hw
    rcases hw with (rfl | rfl | rfl) | rfl | hw
    · exact h1
    · exact h2
    · exact h4
    · exact h5
    · exact hw
  exact fun w hw => ⟨hall w hw, good_of_word (zz_g_good w (hall w hw))⟩
/-- what a call's run gives, gone on with -/
theorem zz_after {mc2 ms2 : Nat} {Q2 : zz_Q} {rest : List Value} (h1 : mc2 ≤ rc) (h2 : ms2 ≤ rz) (hnt : M.2.2.2.2.2 = [])
    (K : ∀ v τ, Q2 (.inl v) τ → zz_E M sc d (rc - mc2) (rz - ms2) Q (pc + 3) lv (v.toList ++ rest) τ) (KX : ∀ E τ, Q2 (.inr E) τ → Q (.inr E) τ)
    {p : Program} {l : Launch} {e : Env} {R : Room} {s : State} {m : MethodId} {args : Array Value} {below : List Frame} {meth : Method} {c : Code} {ad : Nat → Nat} {G : va_G} {cA : Nat → ClassId} {A : Nat → Prop} {mc ms : Nat} (S : zz_S M sc d p l R s m args meth c ad G cA A mc ms)
    {H : Heap} {locs : List Loc} {cells slots : Nat} {ls : Array Slot} {av : Array Value} (hc : cells + rc ≤ mc) (hz : slots + rz ≤ ms) (hl : lv_has ls M.2.2.1 (zz_LV ad lv)) (hS : va_S A s.heap H locs)
    {st0 : List Value}
    (hrun : vx_Run p l e R s m args below meth c H locs cells slots mc2 ms2 (F0 m pc ls st0) (rest.map (zz_V ad)) (zz_Qc G cA ad (zz_A ad H.size) Q2 av) (zz_Xc G cA ad (zz_A ad H.size) Q2) (zz_A ad H.size)) :
    W p l e R s m args below meth c H locs cells slots (vx_MQ below (zz_Qc G cA ad A Q) (zz_Xc G cA ad A Q) args s mc ms A) (F0 m pc ls st0) := by
  have hAad := S.2.2.2.2.2.2.2.2.2.2.1
  have hA := S.2.2.2.2.2.2.2.2.2.2.2.1
  have hsub := zz_sub hAad hA hS
  intro T hT X
  rcases hrun T hT X with ⟨v, st₀, t, T', L, h0, X', hL, e1, e2, ⟨⟨v2, τ, hv, hQ, hP2⟩, hF⟩, hgo⟩ | ⟨q, st₀, t, T', L, E, ce, h0, X', hL, e1, e2, ⟨⟨τ, hQ, hP2⟩, hF⟩, hce, hcv, hcl, hgo⟩
  · obtain ⟨k1, k2, k3⟩ := vx_keep h0 e1 hS (fun q _ h => hsub q h) hsub hL hF
    cases hv
    have hk := K v2 τ hQ p l e R s m args below meth c ad G cA A mc ms S T'.heap (locs ++ L) (cells + mc2) (slots + ms2) ls (by omega) (by omega) hl k3 (by rw [e1]; exact hP2) T' rfl X'
    obtain ⟨t2, a1, b1⟩ := hk
    refine ⟨t2, hgo t2 ?_, b1⟩
    have e3 : (zz_Vo ad v2).toList ++ rest.map (zz_V ad) = (v2.toList ++ rest).map (zz_V ad) := by
      cases v2 <;> rfl
    rw [e3]
    exact a1
  · obtain ⟨k1, k2, k3⟩ := vx_keep h0 e1 hS (fun q _ h => hsub q h) hsub hL hF
    have hno : ∀ x ∈ c.exceptionTable.toList, covers x pc = false := by
      rw [S.2.2.2.2.2.2.2.1, hnt]
      intro x hx
      cases hx
    have hx : vx_W p l e R s m args below meth c T'.heap (locs ++ L) (cells + mc2) (slots + ms2) (vx_MQ below (zz_Qc G cA ad A Q) (zz_Xc G cA ad A Q) args s mc ms A) (F0 m pc ls (rest.map (zz_V ad))) q :=
      vx_out hno S.2.2.2.2.1 (by rw [e1]; exact hce) hcv hcl (fun t3 ht3 _ => ⟨⟨τ, KX E τ hQ, by rw [ht3, e1]; exact hP2⟩, k3.F ht3⟩) (fun z hz => k3.2.2 z hz) (by omega) (by omega)
    obtain ⟨t2, a1, b1⟩ := hx T' rfl X'
    exact ⟨t2, hgo.trans a1, b1⟩
theorem zz_callV {Y : zz_M} {d2 mc2 ms2 : Nat} {as rest fs : List Value} {Q2 : zz_Q} {q ci i : Nat} {T : u_T} {N : Nat} (hC : zz_C Y d2 mc2 ms2 (.ref q :: as) σ Q2)
    (h : decode M.2.1 pc = .ok (.invokevirtual i, 3)) (hw : Cond.methodLink M.2.2.2.2.1 i Y.1 ∈ zz_g)
    (hY : Y.2.2.2.2.2 = [] ∧ Y.2.2.1 ≤ 17 ∧ Cond.instanceMethod Y.1 ∈ zz_g ∧ Cond.selects Y.1.cls Y.1 Y.1 ∈ zz_g ∧ Cond.initialized Y.1.cls ∈ zz_g ∧ Cond.code Y.1 Y.2.1 Y.2.2.1 Y.2.2.2.1 ∈ zz_g)
    (hd : (Y.1.cls ≠ "java/lang/invoke/MethodHandle" ∧ Y.1.cls ≠ "java/lang/invoke/VarHandle") ∧ (parseMethodDescriptor Y.1.desc).map (fun d => d.parameters.length) = some as.length)
    (hci : vwCl[ci]? = some (Y.1.cls, T, N)) (hq : q < 68) (hs : σ q = .inr (ci, fs)) (hst : st = as.reverse ++ .ref q :: rest) (hcat : (rest.map fun v => v.category).sum ≤ 8) (hdd : d2 + 1 ≤ d) (h1 : mc2 ≤ rc) (h2 : ms2 ≤ rz) (hnt : M.2.2.2.2.2 = [])
    (K : ∀ v τ, Q2 (.inl v) τ → zz_E M sc d (rc - mc2) (rz - ms2) Q (pc + 3) lv (v.toList ++ rest) τ) (KX : ∀ E τ, Q2 (.inr E) τ → Q (.inr E) τ) : zz_E M sc d rc rz Q pc lv st σ := by
  intro p l e R s m args below meth c ad G cA A mc ms S H locs cells slots ls hc hz hl hS hP
  have hsub := zz_sub S.2.2.2.2.2.2.2.2.2.2.1 S.2.2.2.2.2.2.2.2.2.2.2.1 hS
  have hK := S.2.2.2.2.2.2.2.2.1
  have hRf : d ≤ R.frames := S.2.2.2.2.2.2.2.2.2.2.2.2.2.2.1
  have hRl : 36 * d + 90 ≤ R.locals := S.2.2.2.2.2.2.2.2.2.2.2.2.2.2.2.1
  have hRc : mc ≤ R.cells := S.2.2.2.2.2.2.2.2.2.2.2.2.2.2.2.2.1
  have hRs : ms ≤ R.slots := S.2.2.2.2.2.2.2.2.2.2.2.2.2.2.2.2.2.1
  have hY2 := hY.2.1
  have he : (zz_W ad cA σ)[q]? = some (ad q, .inr (ci, fs.map (zz_V ad))) := by rw [zz_W_get hq, hs]; rfl
  refine zz_after h1 h2 hnt K KX S hc hz hl hS (av := (Value.ref (ad q) :: as.map (zz_V ad)).toArray) ?_
  refine vx_runV (As := as.map (zz_V ad)) (C := Y.1.cls) (bytes := Y.2.1) (maxL := Y.2.2.1) (ret := Y.2.2.2.1) (n := as.length) ⟨S.1, S.2.1, S.2.2.1, S.2.2.2.2.2.1, S.2.2.2.2.2.2.1⟩ (hC l S.2.2.2.2.2.2.2.2.2.2.2.2.2.1 ad G cA H.size)
    (cwV (ws' := zz_g) as.length S.2.2.2.2.2.2.1 (zz_goodV hY.1 hw hY.2.2.1 hY.2.2.2.1 hY.2.2.2.2.1 hY.2.2.2.2.2) (by unfold zz_ws; rw [hY.1]) rfl rfl ⟨rfl, hd.1.1, hd.1.2, hd.2⟩ ⟨by show d2 + 1 ≤ R.frames; omega, by show 8 + (Y.2.2.1 + 11) + (36 * d2 + 90) ≤ R.locals; omega⟩)
    ⟨fun a U g mk w => ⟨w.1, zz_preA g mk a w.2⟩, va_recv hK hP hci he, fun U hU hW => ⟨rfl, by rw [hU], by rw [hU]; exact hP, va_K.moved hW.alike hK, S.2.2.2.2.2.2.2.2.2.1, by rw [hU]; exact zz_Z_down S.2.2.2.2.2.2.2.2.2.2.2.2.1 hW hS.2.1 hsub⟩⟩
    rfl (List.length_map _) hl.1 (by rw [hst]; simp [zz_V, List.map_reverse]) (by show 2 * 0 + _ ≤ 8; rw [zz_cats]; omega) h ⟨by omega, by omega⟩
theorem zz_callS {Y : zz_M} {d2 mc2 ms2 : Nat} {as rest : List Value} {Q2 : zz_Q} {i : Nat} (hC : zz_C Y d2 mc2 ms2 as σ Q2)
    (h : decode M.2.1 pc = .ok (.invokestatic i, 3)) (hw : Cond.methodLink M.2.2.2.2.1 i Y.1 ∈ zz_g)
    (hY : Y.2.2.2.2.2 = [] ∧ Y.2.2.1 ≤ 17 ∧ Cond.static Y.1 ∈ zz_g ∧ Cond.initialized Y.1.cls ∈ zz_g ∧ Cond.code Y.1 Y.2.1 Y.2.2.1 Y.2.2.2.1 ∈ zz_g)
    (hd : (Y.1.cls ≠ "java/lang/invoke/MethodHandle" ∧ Y.1.cls ≠ "java/lang/invoke/VarHandle") ∧ (parseMethodDescriptor Y.1.desc).map (fun d => d.parameters.length) = some as.length)
    (hst : st = as.reverse ++ rest) (hcat : (rest.map fun v => v.category).sum ≤ 8) (hdd : d2 + 1 ≤ d) (h1 : mc2 ≤ rc) (h2 : ms2 ≤ rz) (hnt : M.2.2.2.2.2 = [])
    (K : ∀ v τ, Q2 (.inl v) τ → zz_E M sc d (rc - mc2) (rz - ms2) Q (pc + 3) lv (v.toList ++ rest) τ) (KX : ∀ E τ, Q2 (.inr E) τ → Q (.inr E) τ) : zz_E M sc d rc rz Q pc lv st σ := by
  intro p l e R s m args below meth c ad G cA A mc ms S H locs cells slots ls hc hz hl hS hP
  have hsub := zz_sub S.2.2.2.2.2.2.2.2.2.2.1 S.2.2.2.2.2.2.2.2.2.2.2.1 hS
  have hK := S.2.2.2.2.2.2.2.2.1
  have hRf : d ≤ R.frames := S.2.2.2.2.2.2.2.2.2.2.2.2.2.2.1
  have hRl : 36 * d + 90 ≤ R.locals := S.2.2.2.2.2.2.2.2.2.2.2.2.2.2.2.1
  have hRc : mc ≤ R.cells := S.2.2.2.2.2.2.2.2.2.2.2.2.2.2.2.2.1
  have hRs : ms ≤ R.slots := S.2.2.2.2.2.2.2.2.2.2.2.2.2.2.2.2.2.1
  have hY2 := hY.2.1
  refine zz_after h1 h2 hnt K KX S hc hz hl hS (av := (as.map (zz_V ad)).toArray) ?_
  refine vx_runS (As := as.map (zz_V ad)) (bytes := Y.2.1) (maxL := Y.2.2.1) (ret := Y.2.2.2.1) (n := as.length) ⟨S.1, S.2.1, S.2.2.1, S.2.2.2.2.2.1, S.2.2.2.2.2.2.1⟩ (hC l S.2.2.2.2.2.2.2.2.2.2.2.2.2.1 ad G cA H.size)
    (va_cwS (ws' := zz_g) as.length S.2.2.2.2.2.2.1 (zz_goodS hY.1 hw hY.2.2.1 hY.2.2.2.1 hY.2.2.2.2) (by unfold zz_ws; rw [hY.1]) rfl rfl ⟨hd.1.1, hd.1.2, hd.2⟩ ⟨by show d2 + 1 ≤ R.frames; omega, by show 8 + (Y.2.2.1 + 11) + (36 * d2 + 90) ≤ R.locals; omega⟩)
    ⟨fun a U g mk w => ⟨w.1, zz_preA g mk a w.2⟩, fun U hU hW => ⟨rfl, by rw [hU], by rw [hU]; exact hP, va_K.moved hW.alike hK, S.2.2.2.2.2.2.2.2.2.1, by rw [hU]; exact zz_Z_down S.2.2.2.2.2.2.2.2.2.2.2.2.1 hW hS.2.1 hsub⟩⟩
    rfl (List.length_map _) hl.1 (by rw [hst]; simp [List.map_reverse]) (by show 2 * 0 + _ ≤ 8; rw [zz_cats]; omega) h ⟨by omega, by omega⟩
end ZZC
end
