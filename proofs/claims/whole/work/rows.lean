section
-- ===== PART A: goes FIRST, ahead of the names: the tables' words, and 'selects' of the private methods out of them =====
/-- a private method of a class that the tables say can be made, by its rows of tables_1 -/
def lw_okq (q : MethodName × Nat) : Prop := (q.1.cls ≠ "java/lang/invoke/MethodHandle" ∧ q.1.cls ≠ "java/lang/invoke/VarHandle") ∧ Cond.instantiable q.1.cls q.2 ∈ tables_1 ∧ Cond.privateMethod q.1 ∈ tables_1 ∧ Cond.instanceMethod q.1 ∈ tables_1
theorem lw_p0 : lw_okq (⟨"Relationrows", "relationAt", "(I)LRelationrows$Relation;"⟩, 7) := ⟨⟨by decide +kernel, by decide +kernel⟩, List.mem_of_getElem? (i := 17) (by decide +kernel), List.mem_of_getElem? (i := 165) (by decide +kernel), List.mem_of_getElem? (i := 166) (by decide +kernel)⟩
theorem lw_p1 : lw_okq (⟨"java/lang/Throwable", "fillInStackTrace", "(I)Ljava/lang/Throwable;"⟩, 6) := ⟨⟨by decide +kernel, by decide +kernel⟩, List.mem_of_getElem? (i := 208) (by decide +kernel), List.mem_of_getElem? (i := 206) (by decide +kernel), List.mem_of_getElem? (i := 207) (by decide +kernel)⟩
theorem lw_p2 : lw_okq (⟨"Relationrows$Relation", "putWords", "(IJJ)V"⟩, 4) := ⟨⟨by decide +kernel, by decide +kernel⟩, List.mem_of_getElem? (i := 26) (by decide +kernel), List.mem_of_getElem? (i := 254) (by decide +kernel), List.mem_of_getElem? (i := 255) (by decide +kernel)⟩
theorem lw_p3 : lw_okq (⟨"Relationrows$Theorem", "closureTellsWalks", "(LRelationrows$Relation;)Z"⟩, 7) := ⟨⟨by decide +kernel, by decide +kernel⟩, List.mem_of_getElem? (i := 93) (by decide +kernel), List.mem_of_getElem? (i := 266) (by decide +kernel), List.mem_of_getElem? (i := 267) (by decide +kernel)⟩
theorem lw_p4 : lw_okq (⟨"Relationrows$Walks", "leave", "(LRelationrows$Relation;I)V"⟩, 6) := ⟨⟨by decide +kernel, by decide +kernel⟩, List.mem_of_getElem? (i := 65) (by decide +kernel), List.mem_of_getElem? (i := 283) (by decide +kernel), List.mem_of_getElem? (i := 284) (by decide +kernel)⟩
theorem lw_p5 : lw_okq (⟨"Relationrows$Walks", "goOn", "(LRelationrows$Relation;)V"⟩, 6) := ⟨⟨by decide +kernel, by decide +kernel⟩, List.mem_of_getElem? (i := 65) (by decide +kernel), List.mem_of_getElem? (i := 296) (by decide +kernel), List.mem_of_getElem? (i := 297) (by decide +kernel)⟩
theorem lw_p6 : lw_okq (⟨"Relationrows$Theorem", "classesPartElements", "()Z"⟩, 7) := ⟨⟨by decide +kernel, by decide +kernel⟩, List.mem_of_getElem? (i := 93) (by decide +kernel), List.mem_of_getElem? (i := 336) (by decide +kernel), List.mem_of_getElem? (i := 337) (by decide +kernel)⟩
theorem lw_p7 : lw_okq (⟨"Relationrows$Theorem", "orderKeeps", "(LRelationrows$Relation;)Z"⟩, 7) := ⟨⟨by decide +kernel, by decide +kernel⟩, List.mem_of_getElem? (i := 93) (by decide +kernel), List.mem_of_getElem? (i := 357) (by decide +kernel), List.mem_of_getElem? (i := 358) (by decide +kernel)⟩
theorem lw_p8 : lw_okq (⟨"Relationrows$Theorem", "coversGiveClosure", "()Z"⟩, 7) := ⟨⟨by decide +kernel, by decide +kernel⟩, List.mem_of_getElem? (i := 93) (by decide +kernel), List.mem_of_getElem? (i := 398) (by decide +kernel), List.mem_of_getElem? (i := 399) (by decide +kernel)⟩
theorem lw_p9 : lw_okq (⟨"Relationrows$Theorem", "isAssociative", "(LRelationrows$Relation;LRelationrows$Relation;LRelationrows$Relation;)Z"⟩, 7) := ⟨⟨by decide +kernel, by decide +kernel⟩, List.mem_of_getElem? (i := 93) (by decide +kernel), List.mem_of_getElem? (i := 421) (by decide +kernel), List.mem_of_getElem? (i := 422) (by decide +kernel)⟩
theorem lw_p10 : lw_okq (⟨"Relationrows$Theorem", "distributesBefore", "(LRelationrows$Relation;LRelationrows$Relation;LRelationrows$Relation;)Z"⟩, 7) := ⟨⟨by decide +kernel, by decide +kernel⟩, List.mem_of_getElem? (i := 93) (by decide +kernel), List.mem_of_getElem? (i := 433) (by decide +kernel), List.mem_of_getElem? (i := 434) (by decide +kernel)⟩
theorem lw_p11 : lw_okq (⟨"Relationrows$Theorem", "distributesBehind", "(LRelationrows$Relation;LRelationrows$Relation;LRelationrows$Relation;)Z"⟩, 7) := ⟨⟨by decide +kernel, by decide +kernel⟩, List.mem_of_getElem? (i := 93) (by decide +kernel), List.mem_of_getElem? (i := 444) (by decide +kernel), List.mem_of_getElem? (i := 445) (by decide +kernel)⟩
theorem lw_p12 : lw_okq (⟨"Relationrows", "checkElement", "(I)V"⟩, 7) := ⟨⟨by decide +kernel, by decide +kernel⟩, List.mem_of_getElem? (i := 17) (by decide +kernel), List.mem_of_getElem? (i := 486) (by decide +kernel), List.mem_of_getElem? (i := 487) (by decide +kernel)⟩
theorem lw_p13 : lw_okq (⟨"Relationrows", "checkRange", "(II)V"⟩, 7) := ⟨⟨by decide +kernel, by decide +kernel⟩, List.mem_of_getElem? (i := 17) (by decide +kernel), List.mem_of_getElem? (i := 502) (by decide +kernel), List.mem_of_getElem? (i := 503) (by decide +kernel)⟩
theorem lw_p14 : lw_okq (⟨"Relationrows", "elementOf", "(I)I"⟩, 7) := ⟨⟨by decide +kernel, by decide +kernel⟩, List.mem_of_getElem? (i := 17) (by decide +kernel), List.mem_of_getElem? (i := 561) (by decide +kernel), List.mem_of_getElem? (i := 562) (by decide +kernel)⟩
theorem lw_p15 : lw_okq (⟨"Relationrows$Relation", "swapPair", "(II)V"⟩, 4) := ⟨⟨by decide +kernel, by decide +kernel⟩, List.mem_of_getElem? (i := 26) (by decide +kernel), List.mem_of_getElem? (i := 601) (by decide +kernel), List.mem_of_getElem? (i := 602) (by decide +kernel)⟩
def lw_privs_1 : List (MethodName × Nat) := [(⟨"Relationrows", "relationAt", "(I)LRelationrows$Relation;"⟩, 7), (⟨"java/lang/Throwable", "fillInStackTrace", "(I)Ljava/lang/Throwable;"⟩, 6), (⟨"Relationrows$Relation", "putWords", "(IJJ)V"⟩, 4), (⟨"Relationrows$Theorem", "closureTellsWalks", "(LRelationrows$Relation;)Z"⟩, 7), (⟨"Relationrows$Walks", "leave", "(LRelationrows$Relation;I)V"⟩, 6), (⟨"Relationrows$Walks", "goOn", "(LRelationrows$Relation;)V"⟩, 6), (⟨"Relationrows$Theorem", "classesPartElements", "()Z"⟩, 7), (⟨"Relationrows$Theorem", "orderKeeps", "(LRelationrows$Relation;)Z"⟩, 7), (⟨"Relationrows$Theorem", "coversGiveClosure", "()Z"⟩, 7), (⟨"Relationrows$Theorem", "isAssociative", "(LRelationrows$Relation;LRelationrows$Relation;LRelationrows$Relation;)Z"⟩, 7), (⟨"Relationrows$Theorem", "distributesBefore", "(LRelationrows$Relation;LRelationrows$Relation;LRelationrows$Relation;)Z"⟩, 7), (⟨"Relationrows$Theorem", "distributesBehind", "(LRelationrows$Relation;LRelationrows$Relation;LRelationrows$Relation;)Z"⟩, 7), (⟨"Relationrows", "checkElement", "(I)V"⟩, 7), (⟨"Relationrows", "checkRange", "(II)V"⟩, 7), (⟨"Relationrows", "elementOf", "(I)I"⟩, 7), (⟨"Relationrows$Relation", "swapPair", "(II)V"⟩, 4)]
theorem lw_r1 : ∀ q ∈ lw_privs_1, lw_okq q := List.forall_mem_cons.mpr ⟨lw_p0, List.forall_mem_cons.mpr ⟨lw_p1, List.forall_mem_cons.mpr ⟨lw_p2, List.forall_mem_cons.mpr ⟨lw_p3, List.forall_mem_cons.mpr ⟨lw_p4, List.forall_mem_cons.mpr ⟨lw_p5, List.forall_mem_cons.mpr ⟨lw_p6, List.forall_mem_cons.mpr ⟨lw_p7, List.forall_mem_cons.mpr ⟨lw_p8, List.forall_mem_cons.mpr ⟨lw_p9, List.forall_mem_cons.mpr ⟨lw_p10, List.forall_mem_cons.mpr ⟨lw_p11, List.forall_mem_cons.mpr ⟨lw_p12, List.forall_mem_cons.mpr ⟨lw_p13, List.forall_mem_cons.mpr ⟨lw_p14, List.forall_mem_cons.mpr ⟨lw_p15, fun _ h => absurd h List.not_mem_nil⟩⟩⟩⟩⟩⟩⟩⟩⟩⟩⟩⟩⟩⟩⟩⟩
theorem lw_p16 : lw_okq (⟨"Relationrows", "closeAside", "(LRelationrows$Relation;)V"⟩, 7) := ⟨⟨by decide +kernel, by decide +kernel⟩, List.mem_of_getElem? (i := 17) (by decide +kernel), List.mem_of_getElem? (i := 658) (by decide +kernel), List.mem_of_getElem? (i := 659) (by decide +kernel)⟩
theorem lw_p17 : lw_okq (⟨"RelationrowsModel", "refuse", "(I)I"⟩, 13) := ⟨⟨by decide +kernel, by decide +kernel⟩, List.mem_of_getElem? (i := 846) (by decide +kernel), List.mem_of_getElem? (i := 904) (by decide +kernel), List.mem_of_getElem? (i := 905) (by decide +kernel)⟩
theorem lw_p18 : lw_okq (⟨"RelationrowsModel", "told", "(I)I"⟩, 13) := ⟨⟨by decide +kernel, by decide +kernel⟩, List.mem_of_getElem? (i := 846) (by decide +kernel), List.mem_of_getElem? (i := 908) (by decide +kernel), List.mem_of_getElem? (i := 909) (by decide +kernel)⟩
theorem lw_p19 : lw_okq (⟨"RelationrowsModel", "isRow", "(II)Z"⟩, 13) := ⟨⟨by decide +kernel, by decide +kernel⟩, List.mem_of_getElem? (i := 846) (by decide +kernel), List.mem_of_getElem? (i := 916) (by decide +kernel), List.mem_of_getElem? (i := 917) (by decide +kernel)⟩
theorem lw_p20 : lw_okq (⟨"RelationrowsModel", "isElement", "(I)Z"⟩, 13) := ⟨⟨by decide +kernel, by decide +kernel⟩, List.mem_of_getElem? (i := 846) (by decide +kernel), List.mem_of_getElem? (i := 923) (by decide +kernel), List.mem_of_getElem? (i := 924) (by decide +kernel)⟩
theorem lw_p21 : lw_okq (⟨"RelationrowsModel", "denies", "(I)Z"⟩, 13) := ⟨⟨by decide +kernel, by decide +kernel⟩, List.mem_of_getElem? (i := 846) (by decide +kernel), List.mem_of_getElem? (i := 927) (by decide +kernel), List.mem_of_getElem? (i := 928) (by decide +kernel)⟩
theorem lw_p22 : lw_okq (⟨"RelationrowsModel", "leads", "(III)Z"⟩, 13) := ⟨⟨by decide +kernel, by decide +kernel⟩, List.mem_of_getElem? (i := 846) (by decide +kernel), List.mem_of_getElem? (i := 931) (by decide +kernel), List.mem_of_getElem? (i := 932) (by decide +kernel)⟩
theorem lw_p23 : lw_okq (⟨"RelationrowsModel", "says", "(Z)Z"⟩, 13) := ⟨⟨by decide +kernel, by decide +kernel⟩, List.mem_of_getElem? (i := 846) (by decide +kernel), List.mem_of_getElem? (i := 938) (by decide +kernel), List.mem_of_getElem? (i := 939) (by decide +kernel)⟩
theorem lw_p24 : lw_okq (⟨"RelationrowsModel", "isRange", "(II)Z"⟩, 13) := ⟨⟨by decide +kernel, by decide +kernel⟩, List.mem_of_getElem? (i := 846) (by decide +kernel), List.mem_of_getElem? (i := 946) (by decide +kernel), List.mem_of_getElem? (i := 947) (by decide +kernel)⟩
theorem lw_p25 : lw_okq (⟨"RelationrowsModel", "inRow", "(II)I"⟩, 13) := ⟨⟨by decide +kernel, by decide +kernel⟩, List.mem_of_getElem? (i := 846) (by decide +kernel), List.mem_of_getElem? (i := 950) (by decide +kernel), List.mem_of_getElem? (i := 951) (by decide +kernel)⟩
theorem lw_p26 : lw_okq (⟨"RelationrowsModel", "pairs", "(I)I"⟩, 13) := ⟨⟨by decide +kernel, by decide +kernel⟩, List.mem_of_getElem? (i := 846) (by decide +kernel), List.mem_of_getElem? (i := 966) (by decide +kernel), List.mem_of_getElem? (i := 967) (by decide +kernel)⟩
theorem lw_p27 : lw_okq (⟨"RelationrowsModel", "composes", "(II)V"⟩, 13) := ⟨⟨by decide +kernel, by decide +kernel⟩, List.mem_of_getElem? (i := 846) (by decide +kernel), List.mem_of_getElem? (i := 987) (by decide +kernel), List.mem_of_getElem? (i := 988) (by decide +kernel)⟩
theorem lw_p28 : lw_okq (⟨"RelationrowsModel", "lays", "(I)I"⟩, 13) := ⟨⟨by decide +kernel, by decide +kernel⟩, List.mem_of_getElem? (i := 846) (by decide +kernel), List.mem_of_getElem? (i := 991) (by decide +kernel), List.mem_of_getElem? (i := 992) (by decide +kernel)⟩
theorem lw_p29 : lw_okq (⟨"RelationrowsModel", "closes", "(I)V"⟩, 13) := ⟨⟨by decide +kernel, by decide +kernel⟩, List.mem_of_getElem? (i := 846) (by decide +kernel), List.mem_of_getElem? (i := 1007) (by decide +kernel), List.mem_of_getElem? (i := 1008) (by decide +kernel)⟩
theorem lw_p30 : lw_okq (⟨"RelationrowsModel", "walks", "(II)V"⟩, 13) := ⟨⟨by decide +kernel, by decide +kernel⟩, List.mem_of_getElem? (i := 846) (by decide +kernel), List.mem_of_getElem? (i := 1011) (by decide +kernel), List.mem_of_getElem? (i := 1012) (by decide +kernel)⟩
theorem lw_p31 : lw_okq (⟨"RelationrowsModel", "isRinged", "(I)Z"⟩, 13) := ⟨⟨by decide +kernel, by decide +kernel⟩, List.mem_of_getElem? (i := 846) (by decide +kernel), List.mem_of_getElem? (i := 1019) (by decide +kernel), List.mem_of_getElem? (i := 1020) (by decide +kernel)⟩
def lw_privs_2 : List (MethodName × Nat) := [(⟨"Relationrows", "closeAside", "(LRelationrows$Relation;)V"⟩, 7), (⟨"RelationrowsModel", "refuse", "(I)I"⟩, 13), (⟨"RelationrowsModel", "told", "(I)I"⟩, 13), (⟨"RelationrowsModel", "isRow", "(II)Z"⟩, 13), (⟨"RelationrowsModel", "isElement", "(I)Z"⟩, 13), (⟨"RelationrowsModel", "denies", "(I)Z"⟩, 13), (⟨"RelationrowsModel", "leads", "(III)Z"⟩, 13), (⟨"RelationrowsModel", "says", "(Z)Z"⟩, 13), (⟨"RelationrowsModel", "isRange", "(II)Z"⟩, 13), (⟨"RelationrowsModel", "inRow", "(II)I"⟩, 13), (⟨"RelationrowsModel", "pairs", "(I)I"⟩, 13), (⟨"RelationrowsModel", "composes", "(II)V"⟩, 13), (⟨"RelationrowsModel", "lays", "(I)I"⟩, 13), (⟨"RelationrowsModel", "closes", "(I)V"⟩, 13), (⟨"RelationrowsModel", "walks", "(II)V"⟩, 13), (⟨"RelationrowsModel", "isRinged", "(I)Z"⟩, 13)]
theorem lw_r2 : ∀ q ∈ lw_privs_2, lw_okq q := List.forall_mem_cons.mpr ⟨lw_p16, List.forall_mem_cons.mpr ⟨lw_p17, List.forall_mem_cons.mpr ⟨lw_p18, List.forall_mem_cons.mpr ⟨lw_p19, List.forall_mem_cons.mpr ⟨lw_p20, List.forall_mem_cons.mpr ⟨lw_p21, List.forall_mem_cons.mpr ⟨lw_p22, List.forall_mem_cons.mpr ⟨lw_p23, List.forall_mem_cons.mpr ⟨lw_p24, List.forall_mem_cons.mpr ⟨lw_p25, List.forall_mem_cons.mpr ⟨lw_p26, List.forall_mem_cons.mpr ⟨lw_p27, List.forall_mem_cons.mpr ⟨lw_p28, List.forall_mem_cons.mpr ⟨lw_p29, List.forall_mem_cons.mpr ⟨lw_p30, List.forall_mem_cons.mpr ⟨lw_p31, fun _ h => absurd h List.not_mem_nil⟩⟩⟩⟩⟩⟩⟩⟩⟩⟩⟩⟩⟩⟩⟩⟩
theorem lw_p32 : lw_okq (⟨"RelationrowsModel", "covers", "()V"⟩, 13) := ⟨⟨by decide +kernel, by decide +kernel⟩, List.mem_of_getElem? (i := 846) (by decide +kernel), List.mem_of_getElem? (i := 1023) (by decide +kernel), List.mem_of_getElem? (i := 1024) (by decide +kernel)⟩
theorem lw_p33 : lw_okq (⟨"RelationrowsModel", "keeps", "(IIII)Z"⟩, 13) := ⟨⟨by decide +kernel, by decide +kernel⟩, List.mem_of_getElem? (i := 846) (by decide +kernel), List.mem_of_getElem? (i := 1059) (by decide +kernel), List.mem_of_getElem? (i := 1060) (by decide +kernel)⟩
theorem lw_p34 : lw_okq (⟨"RelationrowsModel", "leastOf", "(I)I"⟩, 13) := ⟨⟨by decide +kernel, by decide +kernel⟩, List.mem_of_getElem? (i := 846) (by decide +kernel), List.mem_of_getElem? (i := 1071) (by decide +kernel), List.mem_of_getElem? (i := 1072) (by decide +kernel)⟩
theorem lw_p35 : lw_okq (⟨"RelationrowsModel", "orders", "(I)I"⟩, 13) := ⟨⟨by decide +kernel, by decide +kernel⟩, List.mem_of_getElem? (i := 846) (by decide +kernel), List.mem_of_getElem? (i := 1087) (by decide +kernel), List.mem_of_getElem? (i := 1088) (by decide +kernel)⟩
theorem lw_p36 : lw_okq (⟨"RelationrowsModel", "isFree", "(II)Z"⟩, 13) := ⟨⟨by decide +kernel, by decide +kernel⟩, List.mem_of_getElem? (i := 846) (by decide +kernel), List.mem_of_getElem? (i := 1091) (by decide +kernel), List.mem_of_getElem? (i := 1092) (by decide +kernel)⟩
theorem lw_p37 : lw_okq (⟨"RelationrowsModel", "marks", "()I"⟩, 13) := ⟨⟨by decide +kernel, by decide +kernel⟩, List.mem_of_getElem? (i := 846) (by decide +kernel), List.mem_of_getElem? (i := 1103) (by decide +kernel), List.mem_of_getElem? (i := 1104) (by decide +kernel)⟩
theorem lw_p38 : lw_okq (⟨"RelationrowsModel", "areComposed", "()Z"⟩, 13) := ⟨⟨by decide +kernel, by decide +kernel⟩, List.mem_of_getElem? (i := 846) (by decide +kernel), List.mem_of_getElem? (i := 1131) (by decide +kernel), List.mem_of_getElem? (i := 1132) (by decide +kernel)⟩
theorem lw_p39 : lw_okq (⟨"RelationrowsModel", "isClosed", "(I)Z"⟩, 13) := ⟨⟨by decide +kernel, by decide +kernel⟩, List.mem_of_getElem? (i := 846) (by decide +kernel), List.mem_of_getElem? (i := 1135) (by decide +kernel), List.mem_of_getElem? (i := 1136) (by decide +kernel)⟩
theorem lw_p40 : lw_okq (⟨"RelationrowsModel", "isOrdered", "(I)Z"⟩, 13) := ⟨⟨by decide +kernel, by decide +kernel⟩, List.mem_of_getElem? (i := 846) (by decide +kernel), List.mem_of_getElem? (i := 1139) (by decide +kernel), List.mem_of_getElem? (i := 1140) (by decide +kernel)⟩
def lw_privs_3 : List (MethodName × Nat) := [(⟨"RelationrowsModel", "covers", "()V"⟩, 13), (⟨"RelationrowsModel", "keeps", "(IIII)Z"⟩, 13), (⟨"RelationrowsModel", "leastOf", "(I)I"⟩, 13), (⟨"RelationrowsModel", "orders", "(I)I"⟩, 13), (⟨"RelationrowsModel", "isFree", "(II)Z"⟩, 13), (⟨"RelationrowsModel", "marks", "()I"⟩, 13), (⟨"RelationrowsModel", "areComposed", "()Z"⟩, 13), (⟨"RelationrowsModel", "isClosed", "(I)Z"⟩, 13), (⟨"RelationrowsModel", "isOrdered", "(I)Z"⟩, 13)]
theorem lw_r3 : ∀ q ∈ lw_privs_3, lw_okq q := List.forall_mem_cons.mpr ⟨lw_p32, List.forall_mem_cons.mpr ⟨lw_p33, List.forall_mem_cons.mpr ⟨lw_p34, List.forall_mem_cons.mpr ⟨lw_p35, List.forall_mem_cons.mpr ⟨lw_p36, List.forall_mem_cons.mpr ⟨lw_p37, List.forall_mem_cons.mpr ⟨lw_p38, List.forall_mem_cons.mpr ⟨lw_p39, List.forall_mem_cons.mpr ⟨lw_p40, fun _ h => absurd h List.not_mem_nil⟩⟩⟩⟩⟩⟩⟩⟩⟩
def lw_privs : List (MethodName × Nat) := lw_privs_1 ++ (lw_privs_2 ++ (lw_privs_3))
def lw_tbl : List Cond := k2_sels lw_privs ++ tables_1
theorem lw_privs_ok : ∀ q ∈ lw_privs, lw_okq q := by
  show ∀ q ∈ lw_privs_1 ++ (lw_privs_2 ++ (lw_privs_3)), lw_okq q
  exact List.forall_mem_append.mpr ⟨lw_r1, List.forall_mem_append.mpr ⟨lw_r2, lw_r3⟩⟩
/-- the streams that the claim lets the run draw from -/
abbrev lw_cs : List Choice := [Jvm.Choice.named "NaN.bits"]
theorem lw_bits : nanBits ∈ lw_cs := by first | decide | exact List.mem_cons_self | simp [lw_cs, nanBits]
-- ===== end of PART A; then your names; then what follows =====
/-! ===== BEGIN words of one list among another's, by their places ===== -/
theorem goodIn_r {big : List Cond} (ws : List Cond) (ps : List Nat) (hp : ws = ps.filterMap (fun i => big[i]?)) (h : ws.all goodWord = true) : GoodIn big ws := by
  intro w hw
  have h1 := List.all_eq_true.mp h w hw
  rw [hp] at hw
  obtain ⟨i, -, hi⟩ := List.mem_filterMap.mp hw
  have hm : w ∈ big := by first | exact List.mem_of_getElem? hi | exact List.getElem?_mem hi
  exact ⟨hm, good_of_word h1⟩
theorem goodIn_app {big a b : List Cond} (ha : GoodIn big a) (hb : GoodIn big b) : GoodIn big (a ++ b) := fun w h => (List.mem_append.mp h).elim (ha w) (hb w)
theorem goodIn_ca {big a b : List Cond} {c : Cond} (ha : GoodIn big (c :: a)) (hb : GoodIn big b) : GoodIn big (c :: (a ++ b)) := fun w h => (List.mem_cons.mp h).elim (fun e => ha w (List.mem_cons.mpr (Or.inl e))) (fun h => (List.mem_append.mp h).elim (fun h => ha w (List.mem_cons.mpr (Or.inr h))) (hb w))
theorem goodIn_sub {big ws : List Cond} (hm : ∀ w ∈ ws, w ∈ big) (h : ws.all goodWord = true) : GoodIn big ws := fun w hw => ⟨hm w hw, good_of_word (List.all_eq_true.mp h w hw)⟩
/-! ===== END ===== -/

/-! ===== BEGIN exceptions that leave a method, and their catching by the caller (launches without stack traces) ===== -/
section VXA
/-! The laws vx_back, vx_callV, vx_callS, vx_callSW, vx_throw0, vx_throwS follow proofs of the library, with one case more: JvmDerived/Free/Laws.lean (Back.of_free), Shelf42/LK1.lean (callV, callS), Shelf/KitTraced.lean (throwNew0V, throwNewS). -/
/-- where a method has thrown q: the class by its name, the cell, what was written, the world -/
def vx_T (XC : String → State → State → Prop) (st : State) (q : Addr) (t : State) (mc ms : Nat) (free : Addr → Prop) : Prop :=
  ∃ (E : String) (ce : Cell) (L : List Loc), XC E st t ∧ t.heap[q]? = some ce ∧ ce.vm = .none ∧ st.vm.findClass E = some ce.cls ∧ st.WarmedH t.vm ∧ st.sameButNew ({ t with vm := st.vm } : State) L mc ms ∧ ∀ z ∈ L, free z.base
def vx_Q (Qc : Array Value → State → Outcome → State → Prop) (XC : String → State → State → Prop) (mc ms : Nat) (free : Addr → Prop) : Array Value → State → Outcome → State → Prop := fun a st o t =>
  (Qc a st o t ∧ ∃ L, FrameEnd st o t L mc ms ∧ ∀ q ∈ L, free q.base) ∨ ∃ q, o = .threw q ∧ vx_T XC st q t mc ms free
/-- a callee that returns or throws -/
def vx_Met (l : Launch) (y : MethodName) (ws : List Cond) (rm : Room) (Pc : Array Value → State → Prop) (Qc : Array Value → State → Outcome → State → Prop) (XC : String → State → State → Prop) (mc ms : Nat) (free : Addr → Prop) : Prop :=
  MetFree l y (headSpec ws rm) Pc (fun _ _ _ _ _ => True) (vx_Q Qc XC mc ms free)
def vx_Post (XC : String → State → State → Prop) (mc ms : Nat) (free : Addr → Prop) : Pt → Array Value → Addr → Pt → Prop := fun A a q B =>
  ∃ (g : JFrame) (mk : MethodId) (t : State) (L : List Loc) (E : String) (ce : Cell), B.U.heap = t.heap ∧ B.U.vm = t.vm ∧ XC E (A.U.calling g mk a) t ∧ t.heap[q]? = some ce ∧ ce.vm = .none ∧ A.U.vm.findClass E = some ce.cls ∧ B.locs = A.locs ++ L ∧ (∀ z ∈ L, free z.base) ∧ B.cells = A.cells + mc ∧ B.slots = A.slots + ms
def vx_Back (l : Launch) (R : Room) (p : Program) (e : Env) (below : List Frame) (s : State) (sargs : Array Value) (y : MethodName) (len W9 : Nat)
    (Pre : Pt → Array Value → Prop) (Post : Pt → Array Value → Option Value → Pt → Prop) (PostX : Pt → Array Value → Addr → Pt → Prop) : Prop :=
  ∀ (m : MethodId) (meth : Method) (c : Code) (A : Pt) (g : JFrame) (ig : Instr) (mk : MethodId) (a : Array Value),
    Stand p l e R s m sargs below meth c A.U A.locs A.cells A.slots → g.method = m → g.locals.size = c.maxLocals → decode c.code g.pc = .ok (ig, len) →
    2 * g.monitorRoom + (g.stack.map fun v => v.category).sum ≤ W9 → A.U.methodNamed? y = some mk → Pre A a →
    (∃ (v : Option Value) (B : Pt), Stand p l e R s m sargs below meth c B.U B.locs B.cells B.slots ∧ Post A a v B ∧
      Steps p.tables e below (doInvoke e (A.U.setTop g) [] mk a).1 (B.U.setTop { g with pc := g.pc + len, stack := v.toList ++ g.stack })) ∨
    (∃ (q : Addr) (B : Pt), Stand p l e R s m sargs below meth c B.U B.locs B.cells B.slots ∧ PostX A a q B ∧
      Steps p.tables e below (doInvoke e (A.U.setTop g) [] mk a).1 ((B.U.setTop g).pushFrame (.throwing q)))
section Payer
variable {l : Launch} {R : Room} {p : Program} {e : Env} {below : List Frame} {s : State} {sargs : Array Value} {y : MethodName} {len W9 : Nat}
theorem vx_back {ws : List Cond} {rm : Room} {Pc : Array Value → State → Prop} {Qc : Array Value → State → Outcome → State → Prop} {XC : String → State → State → Prop} {mc ms : Nat} {free : Addr → Prop} {bytes : ByteArray} {maxL : Nat} {ret : Option FieldType}
    (hM : vx_Met l y ws rm Pc Qc XC mc ms free) (hblind : FrameBlind Pc) (hrc : rm.cells = mc) (hrs : rm.slots = ms)
    (hframes : rm.frames + 1 ≤ R.frames) (hlocals : W9 + (maxL + 11) + rm.locals ≤ R.locals)
    (hws : ∀ w ∈ ws, ∀ a' U, s.WarmedH U.vm → w.before a' U = true) (hcode : Cond.code y bytes maxL ret ∈ ws) (hinit : ∀ a' U, s.WarmedH U.vm → (Cond.initialized y.cls).before a' U = true) :
    vx_Back l R p e below s sargs y len W9 (PreOf R mc ms Pc) (PostOf Qc mc ms free) (vx_Post XC mc ms free) := by
  intro m meth c A g ig mk a X hg hsize hdg hW hn hp
  have h1 : (headSpec ws rm).pre.before a A.U = true := atoms_intro fun w hw => hws w hw _ _ X.warmed
  have h2 : (Cond.code y bytes maxL ret).before a A.U = true := hws _ hcode _ _ X.warmed
  have h3 : (Cond.initialized y.cls).before a A.U = true := hinit _ _ X.warmed
  have h4 : A.cells + (headSpec ws rm).room.cells ≤ R.cells := by rw [show (headSpec ws rm).room.cells = mc from hrc]; exact hp.1
  have h5 : A.slots + (headSpec ws rm).room.slots ≤ R.slots := by rw [show (headSpec ws rm).room.slots = ms from hrs]; exact hp.2.1
  have hPc : Pc a (A.U.calling g mk a) := hblind _ _ _ _ hp.2.2
  obtain ⟨U, Ls, c0, s0⟩ := A
  dsimp only [Pt.U, Pt.locs, Pt.cells, Pt.slots] at h1 h2 h3 h4 h5 X hn hPc ⊢
  obtain ⟨methY, cY, hmY, hcY, -, hlY, -, -, -, -⟩ := Cond.code_spec hn h2
  obtain ⟨kY, hkY, -⟩ := className_of_methodNamed hn
  have hinitY : kY.init = .initialized := Cond.initialized_spec (findClass_of_methodNamed hn) hkY h3
  have h : At U g.method c below := by rw [hg]; exact X.here
  have hlocals9 : W9 + (maxL + 11) + (headSpec ws rm).room.locals ≤ R.locals := hlocals
  have happ : (headSpec ws rm).appliesLoose y e.platform (U.calling g mk a) = true :=
    Spec.appliesLoose_calling (g := g) h hdg hn hkY hinitY
      (X.room_calling (g := g) (R' := (headSpec ws rm).room) hsize hmY hcY hframes (by rw [hlY]; omega) h4 h5) h1
  obtain ⟨mid, hmid⟩ := h.above
  have hfr : (U.setTop g).frames = (.java g :: mid) ++ below := by rw [State.frames_setTop' g h.top, hmid]; rfl
  obtain ⟨o, s₂, hsteps, -, hend, hq⟩ := Steps.callFree hM p X.admits X.cas X.clock (acts := []) hfr happ hPc trivial
  have hq' : vx_Q Qc XC mc ms free a (U.calling g mk a) o s₂ := hq
  rw [State.frames_setTop' g h.top] at hend
  obtain ⟨g₀, hg0⟩ := Option.isSome_iff_exists.mp h.top
  obtain ⟨r, hr⟩ := State.topJava?_eq_some.mp hg0
  have hr' : (({ U with heap := s₂.heap, slotsUsed := s₂.slotsUsed } : State).setVm s₂.vm).frames = .java g₀ :: r := hr
  rcases hq' with ⟨hqc, L, hfe, hL⟩ | ⟨q, rfl, E, ce, L, hx, hce, hcv, hcl, hW₂, hsm, hL⟩
  · obtain ⟨⟨v, rfl⟩, hW₂, e2, q2, q3, q4, q5, q6⟩ := id hfe
    have e3 : s₂ = ({ (U.calling g mk a).setFrames s₂.frames with heap := s₂.heap, slotsUsed := s₂.slotsUsed } : State).setVm s₂.vm := by
      have : s₂ = ({ s₂ with vm := (U.calling g mk a).vm } : State).setVm s₂.vm := rfl
      rw [e2] at this
      exact this
    obtain ⟨c₂, i₂, len₂, hc₂, hd₂, hf₂⟩ := hend
    have hW' : U.WarmedH s₂.vm := hW₂
    have hcc : c₂ = c := by
      have h1 : s₂.code? g.method = U.code? g.method := by
        rw [State.code?_eq, State.code?_eq, hW'.alike.method?]
      exact Option.some.inj (hc₂.symm.trans (h1.trans h.code))
    subst hcc
    have hlen : len₂ = len := by rw [hdg] at hd₂; cases hd₂; rfl
    subst hlen
    have hs₂ : s₂ = (({ U with heap := s₂.heap, slotsUsed := s₂.slotsUsed } : State).setVm s₂.vm).setTop { g with pc := g.pc + len₂, stack := v.toList ++ g.stack } := by
      refine e3.trans ?_
      rw [hf₂, State.calling_eq h.top, State.setFrames_setFrames, State.setTop_of_frames _ hr', hr]
      rfl
    have hsame : U.sameButNew ({ U with heap := s₂.heap, slotsUsed := s₂.slotsUsed } : State) L mc ms := by
      refine ⟨?_, q2, q3, q4, q5, q6⟩
      obtain ⟨t, ht, -⟩ := State.frames_cons hr
      show ({ U with heap := s₂.heap, slotsUsed := s₂.slotsUsed } : State) = { U.setFrames U.frames with heap := s₂.heap, slotsUsed := s₂.slotsUsed }
      rw [State.setFrames_self ht]
    subst hg
    refine Or.inl ⟨v, ⟨(({ U with heap := s₂.heap, slotsUsed := s₂.slotsUsed } : State).setVm s₂.vm), Ls ++ L, c0 + mc, s0 + ms⟩,
      ⟨X.admits, X.cas, X.clock, X.frames, X.room, X.hears, X.method, X.code, (X.here.setHeapUsed s₂.heap s₂.slotsUsed).setVm hW'.alike, X.tail, State.WarmedH.trans X.warmed hW', X.limits, X.bytes, X.same.trans (hsame.setVm s.vm)⟩,
      ⟨g, mk, s₂, L, rfl, rfl, hqc, rfl, hL, rfl, rfl⟩, ?_⟩
    show Steps p.tables e below _ ((({ U with heap := s₂.heap, slotsUsed := s₂.slotsUsed } : State).setVm s₂.vm).setTop { g with pc := g.pc + len₂, stack := v.toList ++ g.stack })
    rw [← hs₂]
    exact hsteps
  · obtain ⟨e2, q2, q3, q4, q5, q6⟩ := id hsm
    have e3 : s₂ = ({ (U.calling g mk a).setFrames s₂.frames with heap := s₂.heap, slotsUsed := s₂.slotsUsed } : State).setVm s₂.vm := by
      have : s₂ = ({ s₂ with vm := (U.calling g mk a).vm } : State).setVm s₂.vm := rfl
      rw [e2] at this
      exact this
    have hf₂ : s₂.frames = .throwing q :: .java g :: U.frames.tail := hend
    have hW' : U.WarmedH s₂.vm := hW₂
    have hs₂ : s₂ = ((({ U with heap := s₂.heap, slotsUsed := s₂.slotsUsed } : State).setVm s₂.vm).setTop g).pushFrame (.throwing q) := by
      refine e3.trans ?_
      rw [hf₂, State.calling_eq h.top, State.setFrames_setFrames, State.pushFrame, State.frames_setTop _ hr', State.setTop_of_frames _ hr', State.setFrames_setFrames, hr]
      rfl
    have hsame : U.sameButNew ({ U with heap := s₂.heap, slotsUsed := s₂.slotsUsed } : State) L mc ms := by
      refine ⟨?_, q2, q3, q4, q5, q6⟩
      obtain ⟨t, ht, -⟩ := State.frames_cons hr
      show ({ U with heap := s₂.heap, slotsUsed := s₂.slotsUsed } : State) = { U.setFrames U.frames with heap := s₂.heap, slotsUsed := s₂.slotsUsed }
      rw [State.setFrames_self ht]
    subst hg
    refine Or.inr ⟨q, ⟨(({ U with heap := s₂.heap, slotsUsed := s₂.slotsUsed } : State).setVm s₂.vm), Ls ++ L, c0 + mc, s0 + ms⟩,
      ⟨X.admits, X.cas, X.clock, X.frames, X.room, X.hears, X.method, X.code, (X.here.setHeapUsed s₂.heap s₂.slotsUsed).setVm hW'.alike, X.tail, State.WarmedH.trans X.warmed hW', X.limits, X.bytes, X.same.trans (hsame.setVm s.vm)⟩,
      ⟨g, mk, s₂, L, E, ce, rfl, rfl, hx, hce, hcv, hcl, rfl, hL, rfl, rfl⟩, ?_⟩
    show Steps p.tables e below _ (((({ U with heap := s₂.heap, slotsUsed := s₂.slotsUsed } : State).setVm s₂.vm).setTop g).pushFrame (.throwing q))
    rw [← hs₂]
    exact hsteps
end Payer
section Calls
variable {p : Program} {l : Launch} {e : Env} {R : Room} {s : State} {m : MethodId} {args : Array Value} {below : List Frame} {meth : Method} {c : Code} {T : State} {locs : List Loc} {cells slots : Nat}
theorem vx_callV (X : Stand p l e R s m args below meth c T locs cells slots) (hexec : p.tables.exec = Jvm.exec) {own C : String} {index : Nat} {y : MethodName} {bytes : ByteArray} {maxL : Nat} {ret : Option FieldType}
    (hown : s.vm.findClass own = some m.cls) (hlink : (Cond.methodLink own index y).before args s = true) (hinst : (Cond.instanceMethod y).before args s = true) (hsel : (Cond.selects C y y).before args s = true)
    (hcode : (Cond.code y bytes maxL ret).before args s = true) (hy : y.cls ≠ "java/lang/invoke/MethodHandle" ∧ y.cls ≠ "java/lang/invoke/VarHandle")
    {W9 : Nat} {Pre : Pt → Array Value → Prop} {Post : Pt → Array Value → Option Value → Pt → Prop} {PostX : Pt → Array Value → Addr → Pt → Prop} (hK : vx_Back l R p e below s args y 3 W9 Pre Post PostX)
    {b : Addr} {cellB : Cell} (hcell : T.heap[b]? = some cellB) (hobj : cellB.vm.isStatics = false) (hcls : s.vm.findClass C = some cellB.cls)
    {g : JFrame} (hg : g.method = m) (hsize : g.locals.size = c.maxLocals) {argsL rest : List Value} (hlen : ∀ sig, parseMethodDescriptor y.desc = some sig → argsL.length = sig.parameters.length)
    (hstack : g.stack = argsL.reverse ++ .ref b :: rest) (hW : 2 * g.monitorRoom + (rest.map fun v => v.category).sum ≤ W9) (hdg : decode c.code g.pc = .ok (.invokevirtual index, 3))
    (hpre : ∀ vm₁, s.WarmedH vm₁ → Pre ⟨T.setVm vm₁, locs, cells, slots⟩ (Value.ref b :: argsL).toArray) :
    (∃ (v : Option Value) (vm₁ : Vm) (B : Pt), s.WarmedH vm₁ ∧ Stand p l e R s m args below meth c B.U B.locs B.cells B.slots ∧ Post ⟨T.setVm vm₁, locs, cells, slots⟩ (Value.ref b :: argsL).toArray v B ∧
      ∀ target, Steps p.tables e below (B.U.setTop { g with pc := g.pc + 3, stack := v.toList ++ rest }) target → Steps p.tables e below (T.setTop g) target) ∨
    (∃ (q : Addr) (vm₁ : Vm) (B : Pt), s.WarmedH vm₁ ∧ Stand p l e R s m args below meth c B.U B.locs B.cells B.slots ∧ PostX ⟨T.setVm vm₁, locs, cells, slots⟩ (Value.ref b :: argsL).toArray q B ∧
      Steps p.tables e below (T.setTop g) ((B.U.setTop { g with stack := rest }).pushFrame (.throwing q))) := by
  obtain ⟨mk, methM, hnamed, hmethM, hstM, habM⟩ := Cond.instanceMethod_spec hinst
  obtain ⟨methM', cM, hmethM', -, -, -, -, -, -, hsigM⟩ := Cond.code_spec hnamed hcode
  cases hmethM.symm.trans hmethM'
  obtain ⟨c2, r2, m2, q1, q2, q3, q4, kP, hkP, hkPi⟩ := Cond.selects_spec hsel
  cases hcls.symm.trans q1
  cases (State.methodFound?_of_named hnamed hy).symm.trans q2
  cases hnamed.symm.trans q3
  have hselP : selectMethod e.platform s.vm cellB.cls mk = .method mk := by rw [Launch.admits_selectMethod X.admits]; exact q4
  obtain ⟨vm₁, X₁, hstep₁⟩ := X.invokevirtual hexec hown hlink hnamed hmethM hstM hkP hkPi hy (a := b) (cell := cellB) hcell
    (fun z h => by rw [h] at hobj; cases hobj) hselP hmethM habM hkP hkPi (g := g) hg (argsL := argsL) (rest := rest) (hlen _ hsigM) hstack hdg
  rcases hK m meth c ⟨T.setVm vm₁, locs, cells, slots⟩ { g with stack := rest } (.invokevirtual index) mk (Value.ref b :: argsL).toArray X₁ hg hsize hdg hW (X₁.named hnamed) (hpre vm₁ X₁.warmed) with ⟨v, B, X', hpost, hsteps⟩ | ⟨q, B, X', hpost, hsteps⟩
  · exact Or.inl ⟨v, vm₁, B, X₁.warmed, X', hpost, fun target h => hstep₁ _ fun acts => by rw [doInvoke_state]; exact hsteps.trans h⟩
  · exact Or.inr ⟨q, vm₁, B, X₁.warmed, X', hpost, hstep₁ _ fun acts => by rw [doInvoke_state]; exact hsteps⟩
theorem vx_callS (X : Stand p l e R s m args below meth c T locs cells slots) (hexec : p.tables.exec = Jvm.exec) {own : String} {index : Nat} {y : MethodName} {bytes : ByteArray} {maxL : Nat} {ret : Option FieldType}
    (hown : s.vm.findClass own = some m.cls) (hlink : (Cond.methodLink own index y).before args s = true) (hstat : (Cond.static y).before args s = true) (hinit : (Cond.initialized y.cls).before args s = true)
    (hcode : (Cond.code y bytes maxL ret).before args s = true) (hy : y.cls ≠ "java/lang/invoke/MethodHandle" ∧ y.cls ≠ "java/lang/invoke/VarHandle")
    {W9 : Nat} {Pre : Pt → Array Value → Prop} {Post : Pt → Array Value → Option Value → Pt → Prop} {PostX : Pt → Array Value → Addr → Pt → Prop} (hK : vx_Back l R p e below s args y 3 W9 Pre Post PostX)
    {g : JFrame} (hg : g.method = m) (hsize : g.locals.size = c.maxLocals) {argsL rest : List Value} (hlen : ∀ sig, parseMethodDescriptor y.desc = some sig → argsL.length = sig.parameters.length)
    (hstack : g.stack = argsL.reverse ++ rest) (hW : 2 * g.monitorRoom + (rest.map fun v => v.category).sum ≤ W9) (hdg : decode c.code g.pc = .ok (.invokestatic index, 3))
    (hpre : ∀ vm₁, s.WarmedH vm₁ → Pre ⟨T.setVm vm₁, locs, cells, slots⟩ argsL.toArray) :
    (∃ (v : Option Value) (vm₁ : Vm) (B : Pt), s.WarmedH vm₁ ∧ Stand p l e R s m args below meth c B.U B.locs B.cells B.slots ∧ Post ⟨T.setVm vm₁, locs, cells, slots⟩ argsL.toArray v B ∧
      ∀ target, Steps p.tables e below (B.U.setTop { g with pc := g.pc + 3, stack := v.toList ++ rest }) target → Steps p.tables e below (T.setTop g) target) ∨
    (∃ (q : Addr) (vm₁ : Vm) (B : Pt), s.WarmedH vm₁ ∧ Stand p l e R s m args below meth c B.U B.locs B.cells B.slots ∧ PostX ⟨T.setVm vm₁, locs, cells, slots⟩ argsL.toArray q B ∧
      Steps p.tables e below (T.setTop g) ((B.U.setTop { g with stack := rest }).pushFrame (.throwing q))) := by
  obtain ⟨mk, hnamed⟩ := Cond.code_named hcode
  obtain ⟨methM, cM, hmethM, -, -, -, -, -, -, hsigM⟩ := Cond.code_spec hnamed hcode
  have hstatic : methM.isStatic = true := Cond.static_spec hnamed hmethM hstat
  obtain ⟨kP, hkP, -⟩ := className_of_methodNamed hnamed
  have hinitP : kP.init = .initialized := Cond.initialized_spec (findClass_of_methodNamed hnamed) hkP hinit
  obtain ⟨vm₁, X₁, hstep₁⟩ := X.invokestatic hexec hown hlink hnamed hmethM hstatic hkP hinitP hy (g := g) hg (argsL := argsL) (rest := rest) (hlen _ hsigM) hstack hdg
  rcases hK m meth c ⟨T.setVm vm₁, locs, cells, slots⟩ { g with stack := rest } (.invokestatic index) mk argsL.toArray X₁ hg hsize hdg hW (X₁.named hnamed) (hpre vm₁ X₁.warmed) with ⟨v, B, X', hpost, hsteps⟩ | ⟨q, B, X', hpost, hsteps⟩
  · exact Or.inl ⟨v, vm₁, B, X₁.warmed, X', hpost, fun target h => hstep₁ _ fun acts => by rw [doInvoke_state]; exact hsteps.trans h⟩
  · exact Or.inr ⟨q, vm₁, B, X₁.warmed, X', hpost, hstep₁ _ fun acts => by rw [doInvoke_state]; exact hsteps⟩
end Calls
theorem vx_cls {s : State} {T : State} {vm₁ : Vm} {E : String} {k : ClassId} (hW : s.WarmedH vm₁) (h : (T.setVm vm₁).vm.findClass E = some k) : s.vm.findClass E = some k := by
  have h1 : vm₁.findClass E = some k := h
  rw [hW.alike.findClass] at h1
  exact h1
/-- the method's frame g, with q thrown over it -/
def vx_W (p : Program) (l : Launch) (e : Env) (R : Room) (s : State) (m : MethodId) (args : Array Value) (below : List Frame) (meth : Method) (c : Code) (H : Heap) (locs : List Loc) (cells slots : Nat) (Q : State → Prop) (g : JFrame) (q : Addr) : Prop :=
  ∀ T : State, T.heap = H → Stand p l e R s m args below meth c T locs cells slots → ∃ t, Steps p.tables e below ((T.setTop g).pushFrame (.throwing q)) t ∧ Q t
def vx_Run (p : Program) (l : Launch) (e : Env) (R : Room) (s : State) (m : MethodId) (args : Array Value) (below : List Frame) (meth : Method) (c : Code) (H : Heap) (locs : List Loc) (cells slots mc ms : Nat) (g : JFrame) (rest : List Value) (Qa : State → Outcome → State → Prop) (XC : String → State → State → Prop) (free : Addr → Prop) : Prop :=
  ∀ T : State, T.heap = H → Stand p l e R s m args below meth c T locs cells slots →
    (∃ (v : Option Value) (st₀ t T' : State) (L : List Loc), st₀.heap = H ∧ Stand p l e R s m args below meth c T' (locs ++ L) (cells + mc) (slots + ms) ∧ (∀ q ∈ L, free q.base) ∧ T'.heap = t.heap ∧ T'.vm = t.vm ∧ Qa st₀ (.returned v) t ∧
      Goes p e below T g T' { g with pc := g.pc + 3, stack := v.toList ++ rest }) ∨
    (∃ (q : Addr) (st₀ t T' : State) (L : List Loc) (E : String) (ce : Cell), st₀.heap = H ∧ Stand p l e R s m args below meth c T' (locs ++ L) (cells + mc) (slots + ms) ∧ (∀ z ∈ L, free z.base) ∧ T'.heap = t.heap ∧ T'.vm = t.vm ∧ XC E st₀ t ∧ t.heap[q]? = some ce ∧ ce.vm = .none ∧ s.vm.findClass E = some ce.cls ∧
      Steps p.tables e below (T.setTop g) ((T'.setTop { g with stack := rest }).pushFrame (.throwing q)))
def vx_X {S : Type} (px : S → Prop) (B : String → S → State → Prop) (A : Nat → Prop) : String → State → State → Prop := fun E st t => ∃ u : S, px u ∧ B E u t ∧ va_F A st t
section Runs
variable {p : Program} {l : Launch} {e : Env} {R : Room} {s : State} {m : MethodId} {args : Array Value} {below : List Frame} {meth : Method} {c : Code} {H : Heap} {locs : List Loc} {cells slots : Nat}
variable {y : MethodName} {bytes cc : ByteArray} {maxL nL mc ms n index : Nat} {ret : Option FieldType} {ws : List Cond} {rm : Room} {Pc : Array Value → State → Prop} {Qc : Array Value → State → Outcome → State → Prop} {XC : String → State → State → Prop} {free : Addr → Prop} {Ts : List Cond} {own C : String} {b : Addr} {As rest : List Value} {g : JFrame}
theorem vx_callBack (cb : CallB R s args own index y bytes maxL ret ws rm mc ms n) (hM : vx_Met l y ws rm Pc Qc XC mc ms free) (hbl : FrameBlind Pc) : vx_Back l R p e below s args y 3 8 (PreOf R mc ms Pc) (PostOf Qc mc ms free) (vx_Post XC mc ms free) := by
  obtain ⟨hrc, hrs, hfr, hlo, hws, hcw, -, hini, -⟩ := cb
  exact vx_back (bytes := bytes) (maxL := maxL) (ret := ret) hM hbl hrc hrs hfr hlo hws hcw (fun a' U hW => word_at hW (Or.inl (by first | rfl | simp [Cond.onTables, Cond.keeps, Cond.steady])) hini)
theorem vx_runV (S : CallFix p m c cc nL s args Ts own) (hM : vx_Met l y ws rm Pc Qc XC mc ms free) (cw : CallW R s args own C index y bytes maxL ret ws rm mc ms n) (hp : PreV s H C b Pc As)
    (hg : g.method = m) (hn : As.length = n) (hsize : g.locals.size = nL) (hstack : g.stack = As.reverse ++ .ref b :: rest) (hW : 2 * g.monitorRoom + (rest.map fun v => v.category).sum ≤ 8) (hdg : decode cc g.pc = .ok (.invokevirtual index, 3)) (hf : cells + mc ≤ R.cells ∧ slots + ms ≤ R.slots) :
    vx_Run p l e R s m args below meth c H locs cells slots mc ms g rest (Qc (Value.ref b :: As).toArray) XC free := by
  have hK : vx_Back l R p e below s args y 3 8 (PreOf R mc ms Pc) (PostOf Qc mc ms free) (vx_Post XC mc ms free) := vx_callBack cw.1 hM hp.1
  obtain ⟨⟨-, -, -, -, -, -, hcode, -, hy, hlen, hl⟩, hin, hse⟩ := cw
  obtain ⟨hx, hb, hml, ho, -⟩ := S
  obtain ⟨-, ⟨cellB, hcB, hoB, hclB⟩, hPc⟩ := hp
  intro T hT X
  rcases vx_callV X hx (C := C) (bytes := bytes) (maxL := maxL) (ret := ret) ho hl hin hse hcode hy hK (by rw [hT]; exact hcB) hoB hclB hg (hsize.trans hml.symm) (argsL := As) (rest := rest) (fun sig h => hn.trans (hlen sig h)) hstack hW (by rw [hb]; exact hdg)
    (fun vm₁ hW₁ => ⟨hf.1, hf.2, hPc (T.setVm vm₁) hT hW₁⟩) with ⟨v, vm₁, ⟨U', l2, c2, s2⟩, hW₁, X', ⟨g', mk, t, L, e1, e2, hq, h1, hL, h2, h3⟩, st⟩ | ⟨q, vm₁, ⟨U', l2, c2, s2⟩, hW₁, X', ⟨g', mk, t, L, E, ce, e1, e2, hq, hce, hcv, hcl, h1, hL, h2, h3⟩, st⟩
  · dsimp only [Pt.U, Pt.locs, Pt.cells, Pt.slots] at X' e1 e2 h1 h2 h3 st
    subst h1; subst h2; subst h3
    exact Or.inl ⟨v, (T.setVm vm₁).calling g' mk (Value.ref b :: As).toArray, t, U', L, hT, X', hL, e1, e2, hq, st⟩
  · dsimp only [Pt.U, Pt.locs, Pt.cells, Pt.slots] at X' e1 e2 h1 h2 h3 st hcl
    subst h1; subst h2; subst h3
    exact Or.inr ⟨q, (T.setVm vm₁).calling g' mk (Value.ref b :: As).toArray, t, U', L, E, ce, hT, X', hL, e1, e2, hq, hce, hcv, vx_cls hW₁ hcl, st⟩
theorem vx_runS (S : CallFix p m c cc nL s args Ts own) (hM : vx_Met l y ws rm Pc Qc XC mc ms free) (cw : CallB R s args own index y bytes maxL ret ws rm mc ms n ∧ (Cond.static y).before args s = true) (hp : PreS s H Pc As)
    (hg : g.method = m) (hn : As.length = n) (hsize : g.locals.size = nL) (hstack : g.stack = As.reverse ++ rest) (hW : 2 * g.monitorRoom + (rest.map fun v => v.category).sum ≤ 8) (hdg : decode cc g.pc = .ok (.invokestatic index, 3)) (hf : cells + mc ≤ R.cells ∧ slots + ms ≤ R.slots) :
    vx_Run p l e R s m args below meth c H locs cells slots mc ms g rest (Qc As.toArray) XC free := by
  have hK : vx_Back l R p e below s args y 3 8 (PreOf R mc ms Pc) (PostOf Qc mc ms free) (vx_Post XC mc ms free) := vx_callBack cw.1 hM hp.1
  obtain ⟨⟨-, -, -, -, -, -, hcode, hini, hy, hlen, hl⟩, hstt⟩ := cw
  obtain ⟨hx, hb, hml, ho, -⟩ := S
  intro T hT X
  rcases vx_callS X hx (bytes := bytes) (maxL := maxL) (ret := ret) ho hl hstt hini hcode hy hK hg (hsize.trans hml.symm) (argsL := As) (rest := rest) (fun sig h => hn.trans (hlen sig h)) hstack hW (by rw [hb]; exact hdg)
    (fun vm₁ hW₁ => ⟨hf.1, hf.2, hp.2 (T.setVm vm₁) hT hW₁⟩) with ⟨v, vm₁, ⟨U', l2, c2, s2⟩, hW₁, X', ⟨g', mk, t, L, e1, e2, hq, h1, hL, h2, h3⟩, st⟩ | ⟨q, vm₁, ⟨U', l2, c2, s2⟩, hW₁, X', ⟨g', mk, t, L, E, ce, e1, e2, hq, hce, hcv, hcl, h1, hL, h2, h3⟩, st⟩
  · dsimp only [Pt.U, Pt.locs, Pt.cells, Pt.slots] at X' e1 e2 h1 h2 h3 st
    subst h1; subst h2; subst h3
    exact Or.inl ⟨v, (T.setVm vm₁).calling g' mk As.toArray, t, U', L, hT, X', hL, e1, e2, hq, st⟩
  · dsimp only [Pt.U, Pt.locs, Pt.cells, Pt.slots] at X' e1 e2 h1 h2 h3 st hcl
    subst h1; subst h2; subst h3
    exact Or.inr ⟨q, (T.setVm vm₁).calling g' mk As.toArray, t, U', L, E, ce, hT, X', hL, e1, e2, hq, hce, hcv, vx_cls hW₁ hcl, st⟩
end Runs
section Rows
variable {p : Program} {l : Launch} {e : Env} {R : Room} {s : State} {m : MethodId} {args : Array Value} {below : List Frame} {meth : Method} {c : Code} {H : Heap} {locs : List Loc} {cells slots : Nat} {Q : State → Prop}
variable {mc ms : Nat} {free : Addr → Prop} {A0 A1 : Nat → Prop} {H0 : Heap} {a : Array Value} {pc : Nat} {ls : Array Slot} {st0 rest : List Value}
theorem vx_keep {st₀ t T' : State} {L : List Loc} (h0 : st₀.heap = H) (e1 : T'.heap = t.heap) (hS : va_S A0 H0 H locs) (hA : ∀ q, q < H.size → A1 q → A0 q) (hf : ∀ q, free q → A0 q) (hL : ∀ q ∈ L, free q.base) (hF : va_F A1 st₀ t) :
    H.size ≤ T'.heap.size ∧ (∀ q : Nat, q < H.size → ¬ A1 q → T'.heap[q]? = H[q]?) ∧ va_S A0 H0 T'.heap (locs ++ L) := by
  obtain ⟨hz, hk⟩ := hF
  rw [h0] at hz hk
  exact ⟨by rw [e1]; exact hz, fun q h1 h2 => by rw [e1]; exact hk q h1 h2,
    ⟨Nat.le_trans hS.1 (by rw [e1]; exact hz), fun q h1 h2 => by rw [e1, hk q (Nat.lt_of_lt_of_le h1 hS.1) (fun z => h2 (hA q (Nat.lt_of_lt_of_le h1 hS.1) z))]; exact hS.2.1 q h1 h2, fun q hq => by
      rcases List.mem_append.mp hq with h | h
      · exact hS.2.2 q h
      · exact hf _ (hL q h)⟩⟩
theorem vx_calli {S SX : Type} {post : Int32 → S → Prop} {px : SX → Prop} {B : S → State → Prop} {BX : String → SX → State → Prop} {AX : Nat → Prop} (hr : vx_Run p l e R s m args below meth c H locs cells slots mc ms (F0 m pc ls st0) rest (va_Qi post B A1 a) (vx_X px BX AX) free) (hS : va_S A0 H0 H locs) (hA : ∀ q, q < H.size → A1 q → A0 q) (hf : ∀ q, free q → A0 q) (hAX : ∀ q, q < H.size → AX q → A0 q)
    (kx : ∀ (E : String) (ce : Cell) (q9 : Addr) (u : SX) (t : State) (H1 : Heap) (locs1 : List Loc), t.heap = H1 → s.vm.Alike t.vm → px u → BX E u t → H.size ≤ H1.size → (∀ q : Nat, q < H.size → ¬ AX q → H1[q]? = H[q]?) → va_S A0 H0 H1 locs1 → H1[q9]? = some ce → ce.vm = .none → s.vm.findClass E = some ce.cls → vx_W p l e R s m args below meth c H1 locs1 (cells + mc) (slots + ms) Q (F0 m pc ls rest) q9)
    (kk : ∀ (r : Int32) (u : S) (t : State) (H1 : Heap) (locs1 : List Loc), t.heap = H1 → s.vm.Alike t.vm → post r u → B u t → H.size ≤ H1.size → (∀ q : Nat, q < H.size → ¬ A1 q → H1[q]? = H[q]?) → va_S A0 H0 H1 locs1 → W p l e R s m args below meth c H1 locs1 (cells + mc) (slots + ms) Q (F0 m (pc + 3) ls (.int r :: rest))) : W p l e R s m args below meth c H locs cells slots Q (F0 m pc ls st0) := by
  intro T hT X
  rcases hr T hT X with ⟨v, st₀, t, T', L, h0, X', hL, e1, e2, ⟨⟨r, u, hv, hp, hb⟩, hF⟩, st⟩ | ⟨q, st₀, t, T', L, E, ce, h0, X', hL, e1, e2, ⟨u, hp, hb, hF⟩, hce, hcv, hcl, st⟩
  · cases hv
    obtain ⟨k1, k2, k3⟩ := vx_keep h0 e1 hS hA hf hL hF
    obtain ⟨t2, a1, b1⟩ := kk r u t T'.heap (locs ++ L) e1.symm (by rw [← e2]; exact X'.warmed.alike) hp hb k1 k2 k3 T' rfl X'
    exact ⟨t2, st t2 a1, b1⟩
  · obtain ⟨k1, k2, k3⟩ := vx_keep h0 e1 hS hAX hf hL hF
    obtain ⟨t2, a1, b1⟩ := kx E ce q u t T'.heap (locs ++ L) e1.symm (by rw [← e2]; exact X'.warmed.alike) hp hb k1 k2 k3 (by rw [e1]; exact hce) hcv hcl T' rfl X'
    exact ⟨t2, st.trans a1, b1⟩
theorem vx_calll {S SX : Type} {post : Int64 → S → Prop} {px : SX → Prop} {B : S → State → Prop} {BX : String → SX → State → Prop} {AX : Nat → Prop} (hr : vx_Run p l e R s m args below meth c H locs cells slots mc ms (F0 m pc ls st0) rest (va_Ql post B A1 a) (vx_X px BX AX) free) (hS : va_S A0 H0 H locs) (hA : ∀ q, q < H.size → A1 q → A0 q) (hf : ∀ q, free q → A0 q) (hAX : ∀ q, q < H.size → AX q → A0 q)
    (kx : ∀ (E : String) (ce : Cell) (q9 : Addr) (u : SX) (t : State) (H1 : Heap) (locs1 : List Loc), t.heap = H1 → s.vm.Alike t.vm → px u → BX E u t → H.size ≤ H1.size → (∀ q : Nat, q < H.size → ¬ AX q → H1[q]? = H[q]?) → va_S A0 H0 H1 locs1 → H1[q9]? = some ce → ce.vm = .none → s.vm.findClass E = some ce.cls → vx_W p l e R s m args below meth c H1 locs1 (cells + mc) (slots + ms) Q (F0 m pc ls rest) q9)
    (kk : ∀ (r : Int64) (u : S) (t : State) (H1 : Heap) (locs1 : List Loc), t.heap = H1 → s.vm.Alike t.vm → post r u → B u t → H.size ≤ H1.size → (∀ q : Nat, q < H.size → ¬ A1 q → H1[q]? = H[q]?) → va_S A0 H0 H1 locs1 → W p l e R s m args below meth c H1 locs1 (cells + mc) (slots + ms) Q (F0 m (pc + 3) ls (.long r :: rest))) : W p l e R s m args below meth c H locs cells slots Q (F0 m pc ls st0) := by
  intro T hT X
  rcases hr T hT X with ⟨v, st₀, t, T', L, h0, X', hL, e1, e2, ⟨⟨r, u, hv, hp, hb⟩, hF⟩, st⟩ | ⟨q, st₀, t, T', L, E, ce, h0, X', hL, e1, e2, ⟨u, hp, hb, hF⟩, hce, hcv, hcl, st⟩
  · cases hv
    obtain ⟨k1, k2, k3⟩ := vx_keep h0 e1 hS hA hf hL hF
    obtain ⟨t2, a1, b1⟩ := kk r u t T'.heap (locs ++ L) e1.symm (by rw [← e2]; exact X'.warmed.alike) hp hb k1 k2 k3 T' rfl X'
    exact ⟨t2, st t2 a1, b1⟩
  · obtain ⟨k1, k2, k3⟩ := vx_keep h0 e1 hS hAX hf hL hF
    obtain ⟨t2, a1, b1⟩ := kx E ce q u t T'.heap (locs ++ L) e1.symm (by rw [← e2]; exact X'.warmed.alike) hp hb k1 k2 k3 (by rw [e1]; exact hce) hcv hcl T' rfl X'
    exact ⟨t2, st.trans a1, b1⟩
theorem vx_callf {S SX : Type} {post : UInt32 → S → Prop} {px : SX → Prop} {B : S → State → Prop} {BX : String → SX → State → Prop} {AX : Nat → Prop} (hr : vx_Run p l e R s m args below meth c H locs cells slots mc ms (F0 m pc ls st0) rest (va_Qf post B A1 a) (vx_X px BX AX) free) (hS : va_S A0 H0 H locs) (hA : ∀ q, q < H.size → A1 q → A0 q) (hf : ∀ q, free q → A0 q) (hAX : ∀ q, q < H.size → AX q → A0 q)
    (kx : ∀ (E : String) (ce : Cell) (q9 : Addr) (u : SX) (t : State) (H1 : Heap) (locs1 : List Loc), t.heap = H1 → s.vm.Alike t.vm → px u → BX E u t → H.size ≤ H1.size → (∀ q : Nat, q < H.size → ¬ AX q → H1[q]? = H[q]?) → va_S A0 H0 H1 locs1 → H1[q9]? = some ce → ce.vm = .none → s.vm.findClass E = some ce.cls → vx_W p l e R s m args below meth c H1 locs1 (cells + mc) (slots + ms) Q (F0 m pc ls rest) q9)
    (kk : ∀ (r : UInt32) (u : S) (t : State) (H1 : Heap) (locs1 : List Loc), t.heap = H1 → s.vm.Alike t.vm → post r u → B u t → H.size ≤ H1.size → (∀ q : Nat, q < H.size → ¬ A1 q → H1[q]? = H[q]?) → va_S A0 H0 H1 locs1 → W p l e R s m args below meth c H1 locs1 (cells + mc) (slots + ms) Q (F0 m (pc + 3) ls (.float r :: rest))) : W p l e R s m args below meth c H locs cells slots Q (F0 m pc ls st0) := by
  intro T hT X
  rcases hr T hT X with ⟨v, st₀, t, T', L, h0, X', hL, e1, e2, ⟨⟨r, u, hv, hp, hb⟩, hF⟩, st⟩ | ⟨q, st₀, t, T', L, E, ce, h0, X', hL, e1, e2, ⟨u, hp, hb, hF⟩, hce, hcv, hcl, st⟩
  · cases hv
    obtain ⟨k1, k2, k3⟩ := vx_keep h0 e1 hS hA hf hL hF
    obtain ⟨t2, a1, b1⟩ := kk r u t T'.heap (locs ++ L) e1.symm (by rw [← e2]; exact X'.warmed.alike) hp hb k1 k2 k3 T' rfl X'
    exact ⟨t2, st t2 a1, b1⟩
  · obtain ⟨k1, k2, k3⟩ := vx_keep h0 e1 hS hAX hf hL hF
    obtain ⟨t2, a1, b1⟩ := kx E ce q u t T'.heap (locs ++ L) e1.symm (by rw [← e2]; exact X'.warmed.alike) hp hb k1 k2 k3 (by rw [e1]; exact hce) hcv hcl T' rfl X'
    exact ⟨t2, st.trans a1, b1⟩
theorem vx_calld {S SX : Type} {post : UInt64 → S → Prop} {px : SX → Prop} {B : S → State → Prop} {BX : String → SX → State → Prop} {AX : Nat → Prop} (hr : vx_Run p l e R s m args below meth c H locs cells slots mc ms (F0 m pc ls st0) rest (va_Qd post B A1 a) (vx_X px BX AX) free) (hS : va_S A0 H0 H locs) (hA : ∀ q, q < H.size → A1 q → A0 q) (hf : ∀ q, free q → A0 q) (hAX : ∀ q, q < H.size → AX q → A0 q)
    (kx : ∀ (E : String) (ce : Cell) (q9 : Addr) (u : SX) (t : State) (H1 : Heap) (locs1 : List Loc), t.heap = H1 → s.vm.Alike t.vm → px u → BX E u t → H.size ≤ H1.size → (∀ q : Nat, q < H.size → ¬ AX q → H1[q]? = H[q]?) → va_S A0 H0 H1 locs1 → H1[q9]? = some ce → ce.vm = .none → s.vm.findClass E = some ce.cls → vx_W p l e R s m args below meth c H1 locs1 (cells + mc) (slots + ms) Q (F0 m pc ls rest) q9)
    (kk : ∀ (r : UInt64) (u : S) (t : State) (H1 : Heap) (locs1 : List Loc), t.heap = H1 → s.vm.Alike t.vm → post r u → B u t → H.size ≤ H1.size → (∀ q : Nat, q < H.size → ¬ A1 q → H1[q]? = H[q]?) → va_S A0 H0 H1 locs1 → W p l e R s m args below meth c H1 locs1 (cells + mc) (slots + ms) Q (F0 m (pc + 3) ls (.double r :: rest))) : W p l e R s m args below meth c H locs cells slots Q (F0 m pc ls st0) := by
  intro T hT X
  rcases hr T hT X with ⟨v, st₀, t, T', L, h0, X', hL, e1, e2, ⟨⟨r, u, hv, hp, hb⟩, hF⟩, st⟩ | ⟨q, st₀, t, T', L, E, ce, h0, X', hL, e1, e2, ⟨u, hp, hb, hF⟩, hce, hcv, hcl, st⟩
  · cases hv
    obtain ⟨k1, k2, k3⟩ := vx_keep h0 e1 hS hA hf hL hF
    obtain ⟨t2, a1, b1⟩ := kk r u t T'.heap (locs ++ L) e1.symm (by rw [← e2]; exact X'.warmed.alike) hp hb k1 k2 k3 T' rfl X'
    exact ⟨t2, st t2 a1, b1⟩
  · obtain ⟨k1, k2, k3⟩ := vx_keep h0 e1 hS hAX hf hL hF
    obtain ⟨t2, a1, b1⟩ := kx E ce q u t T'.heap (locs ++ L) e1.symm (by rw [← e2]; exact X'.warmed.alike) hp hb k1 k2 k3 (by rw [e1]; exact hce) hcv hcl T' rfl X'
    exact ⟨t2, st.trans a1, b1⟩
theorem vx_callv {S SX : Type} {post : S → Prop} {px : SX → Prop} {B : S → State → Prop} {BX : String → SX → State → Prop} {AX : Nat → Prop} (hr : vx_Run p l e R s m args below meth c H locs cells slots mc ms (F0 m pc ls st0) rest (va_Qv post B A1 a) (vx_X px BX AX) free) (hS : va_S A0 H0 H locs) (hA : ∀ q, q < H.size → A1 q → A0 q) (hf : ∀ q, free q → A0 q) (hAX : ∀ q, q < H.size → AX q → A0 q)
    (kx : ∀ (E : String) (ce : Cell) (q9 : Addr) (u : SX) (t : State) (H1 : Heap) (locs1 : List Loc), t.heap = H1 → s.vm.Alike t.vm → px u → BX E u t → H.size ≤ H1.size → (∀ q : Nat, q < H.size → ¬ AX q → H1[q]? = H[q]?) → va_S A0 H0 H1 locs1 → H1[q9]? = some ce → ce.vm = .none → s.vm.findClass E = some ce.cls → vx_W p l e R s m args below meth c H1 locs1 (cells + mc) (slots + ms) Q (F0 m pc ls rest) q9)
    (kk : ∀ (u : S) (t : State) (H1 : Heap) (locs1 : List Loc), t.heap = H1 → s.vm.Alike t.vm → post u → B u t → H.size ≤ H1.size → (∀ q : Nat, q < H.size → ¬ A1 q → H1[q]? = H[q]?) → va_S A0 H0 H1 locs1 → W p l e R s m args below meth c H1 locs1 (cells + mc) (slots + ms) Q (F0 m (pc + 3) ls (rest))) : W p l e R s m args below meth c H locs cells slots Q (F0 m pc ls st0) := by
  intro T hT X
  rcases hr T hT X with ⟨v, st₀, t, T', L, h0, X', hL, e1, e2, ⟨⟨u, hv, hp, hb⟩, hF⟩, st⟩ | ⟨q, st₀, t, T', L, E, ce, h0, X', hL, e1, e2, ⟨u, hp, hb, hF⟩, hce, hcv, hcl, st⟩
  · cases hv
    obtain ⟨k1, k2, k3⟩ := vx_keep h0 e1 hS hA hf hL hF
    obtain ⟨t2, a1, b1⟩ := kk u t T'.heap (locs ++ L) e1.symm (by rw [← e2]; exact X'.warmed.alike) hp hb k1 k2 k3 T' rfl X'
    exact ⟨t2, st t2 a1, b1⟩
  · obtain ⟨k1, k2, k3⟩ := vx_keep h0 e1 hS hAX hf hL hF
    obtain ⟨t2, a1, b1⟩ := kx E ce q u t T'.heap (locs ++ L) e1.symm (by rw [← e2]; exact X'.warmed.alike) hp hb k1 k2 k3 (by rw [e1]; exact hce) hcv hcl T' rfl X'
    exact ⟨t2, st.trans a1, b1⟩
/-- caught by the row x of this method's table; the rows ahead don't take it -/
theorem vx_catch {own name : String} {E : String} {ce : Cell} {q : Addr} (hown : s.vm.findClass own = some m.cls) (pre : List ExceptionTableEntry) (x : ExceptionTableEntry) (suf : List ExceptionTableEntry) (hsplit : c.exceptionTable.toList = pre ++ x :: suf)
    (hpass : ∀ z ∈ pre, covers z pc = false ∨ (z.catchType ≠ 0 ∧ ∃ nm : String, (Cond.classLink own z.catchType nm).before args s = true ∧ va_Nc E nm s)) (hx : covers x pc = true) (h0 : x.catchType ≠ 0)
    (hlink : (Cond.classLink own x.catchType name).before args s = true) (hcast : (Cond.castable E name).before args s = true) (hcell : H[q]? = some ce) (hv : ce.vm = .none) (hcl : s.vm.findClass E = some ce.cls)
    (kk : W p l e R s m args below meth c H locs cells slots Q (F0 m x.handlerPc ls [.ref q])) : vx_W p l e R s m args below meth c H locs cells slots Q (F0 m pc ls rest) q := by
  intro T hT X
  have hpl : e.platform.magicAccessors = ({} : Platform).magicAccessors := by rw [X.admits.platform]
  obtain ⟨c3, c4, hc3, hc4, hasg⟩ := Cond.castable_spec hcast
  cases Option.some.inj (hc3.symm.trans hcl)
  obtain ⟨c5, hc5, hcl5⟩ := Cond.classLink_spec hown hlink e.platform hpl
  cases Option.some.inj (hc4.symm.trans hc5)
  obtain ⟨vm', X', st⟩ := X.thenCaughtThrough q (g := F0 m pc ls rest) rfl (Steps.refl _) (by rw [hT]; exact hcell) (by rw [hv]; rfl) (by obtain ⟨k9, h9, -⟩ := Vm.findClass_spec hcl; exact ⟨k9, h9⟩) pre x suf hsplit
    (fun z hz => by
      rcases hpass z hz with h | ⟨hz0, nm, hl1, hn1⟩
      · exact Or.inl h
      · obtain ⟨c6, hc6, hcl6⟩ := Cond.classLink_spec hown hl1 e.platform hpl
        obtain ⟨a8, b8, h1, h2, h3⟩ := hn1
        cases Option.some.inj (h1.symm.trans hcl)
        cases Option.some.inj (h2.symm.trans hc6)
        exact Or.inr ⟨hz0, _, hcl6, h3⟩) hx (Or.inr ⟨h0, c4, hcl5, hasg⟩)
  obtain ⟨t, a1, b1⟩ := kk (T.setVm vm') hT X'
  exact ⟨t, st.trans a1, b1⟩
end Rows
section Ends
variable {p : Program} {l : Launch} {e : Env} {R : Room} {s : State} {m : MethodId} {args : Array Value} {below : List Frame} {meth : Method} {c : Code} {H : Heap} {locs : List Loc} {cells slots : Nat} {Q : State → Prop}
variable {mc ms : Nat} {free : Addr → Prop} {A0 A1 : Nat → Prop} {H0 : Heap} {a : Array Value} {ls : Array Slot} {st0 rest : List Value}
variable {Qc : Array Value → State → Outcome → State → Prop} {XC : String → State → State → Prop}
/-- what a body that may throw owes at its end -/
def vx_MQ (below : List Frame) (Qc : Array Value → State → Outcome → State → Prop) (XC : String → State → State → Prop) (a : Array Value) (s : State) (mc ms : Nat) (free : Addr → Prop) : State → Prop := fun t =>
  ∃ o, t.status = .running ∧ Ended t below o ∧ vx_Q Qc XC mc ms free a s o t
theorem vx_ret {g : JFrame} {mc ms : Nat} (k : W p l e R s m args below meth c H locs cells slots (MQ below Qc args s mc ms free) g) : W p l e R s m args below meth c H locs cells slots (vx_MQ below Qc XC args s mc ms free) g := by
  intro T hT X
  obtain ⟨t, a1, o, b1, b2, b3, b4⟩ := k T hT X
  exact ⟨t, a1, o, b1, b2, Or.inl ⟨b3, b4⟩⟩
/-- not caught here: it goes on to the caller -/
theorem vx_widen {g : JFrame} {q : Addr} {k n : Nat} (h1 : cells ≤ k) (h2 : slots ≤ n) (kk : vx_W p l e R s m args below meth c H locs k n Q g q) : vx_W p l e R s m args below meth c H locs cells slots Q g q := fun T hT X => kk T hT (stand_widen X h1 h2)
theorem vx_out {pc : Nat} {E : String} {ce : Cell} {q : Addr} {mc ms : Nat} (hout : ∀ x ∈ c.exceptionTable.toList, covers x pc = false) (hlocks : meth.locks = false) (hcell : H[q]? = some ce) (hv : ce.vm = .none) (hcl : s.vm.findClass E = some ce.cls)
    (hx : ∀ t : State, t.heap = H → s.vm.Alike t.vm → XC E s t) (hf : ∀ z ∈ locs, free z.base) (hc : cells ≤ mc) (hs : slots ≤ ms) :
    vx_W p l e R s m args below meth c H locs cells slots (vx_MQ below Qc XC args s mc ms free) (F0 m pc ls rest) q := by
  intro T hT X
  obtain ⟨st1, hrun, hend, hW, hsm⟩ := X.leaveThrown q (g := F0 m pc ls rest) rfl rfl rfl hout hlocks
  have hcell9 : (T.setFrames (.throwing q :: below)).heap[q]? = some ce := by
    show T.heap[q]? = some ce
    rw [hT]; exact hcell
  exact ⟨_, st1, .threw q, hrun, hend, Or.inr ⟨q, rfl, E, ce, locs, hx _ hT hW.alike, hcell9, hv, hcl, hW, hsm.mono hc hs, hf⟩⟩
theorem vx_frame {U : State} {k n : Nat} (h : s.sameButNew ({ U with vm := s.vm } : State) locs k n) : s.heap.size ≤ U.heap.size ∧ ∀ q : Nat, q < s.heap.size → (∀ z ∈ locs, z.base ≠ q) → U.heap[q]? = s.heap[q]? := by
  obtain ⟨-, h2, -, -, -, h6⟩ := h
  refine ⟨h2, fun q hq hz => ?_⟩
  obtain ⟨c9, e1, e2, e3, e4⟩ := h6 q _ (Array.getElem?_eq_getElem hq)
  have hs : c9.slots = (s.heap[q]).slots := Array.ext_getElem? fun i => e4 i fun hm => hz _ hm rfl
  have h9 : c9 = s.heap[q] := by
    rw [hs] at e2
    exact e2
  have e5 : U.heap[q]? = some c9 := e1
  rw [e5, h9, Array.getElem?_eq_getElem hq]
/-- the words of a throw but the four that speak of the heap -/
def vx_no (w : Cond) : Bool := decide (w ≠ .isRef (.static Bundle.tN "UNASSIGNED_STACK" Bundle.steD)) && decide (w ≠ .isRef (.static Bundle.tN "SUPPRESSED_SENTINEL" Bundle.listD)) && decide (w ≠ .laysStatic Bundle.tN "UNASSIGNED_STACK" Bundle.steD) && decide (w ≠ .laysStatic Bundle.tN "SUPPRESSED_SENTINEL" Bundle.listD)
def vx_at0 (own : String) (ic : Nat) (X : String) (names : List String) : List Cond := (Bundle.ownAtoms0 own ic X names).filter vx_no
def vx_atS (own : String) (ic : Nat) (X : String) (names : List String) : List Cond := (Bundle.ownAtoms own ic X names).filter vx_no
/-- a word that the tables alone decide, or a good one -/
def vx_ot (w : Cond) : Bool := w.onTables || goodWord w
theorem vx_ot_at {args a' : Array Value} {s U : State} {w : Cond} (hW : s.WarmedH U.vm) (hvm : s.vm = U.vm) (hg : vx_ot w = true) (h : w.before args s = true) : w.before a' U = true := by
  simp only [vx_ot, Bool.or_eq_true] at hg
  rcases hg with hg | hg
  · exact va_tabs hg hvm h
  · exact word_at hW (good_of_word hg) h
/-- a list's words: the good ones out of the method's own list, the others by premises of their own -/
theorem vx_hat {args : Array Value} {s : State} {L B : List Cond} (h1 : ∀ w ∈ L.filter goodWord, w.before args s = true) (h2 : ∀ w ∈ L.filter (fun w => !goodWord w), w ∈ B) (h3 : ∀ w ∈ B, w.before args s = true) : ∀ w ∈ L, w.before args s = true := by
  intro w hw
  by_cases g : goodWord w = true
  · exact h1 w (List.mem_filter.mpr ⟨hw, g⟩)
  · refine h3 w (h2 w (List.mem_filter.mpr ⟨hw, ?_⟩))
    show (!goodWord w) = true
    cases hgw : goodWord w
    · rfl
    · exact absurd hgw g
theorem vx_c {args : Array Value} {s : State} {w : Cond} {B : List Cond} (h : w.before args s = true) (t : ∀ w ∈ B, w.before args s = true) : ∀ w' ∈ w :: B, w'.before args s = true := fun w' h' => (List.mem_cons.mp h').elim (fun e => by rw [e]; exact h) (t w')
theorem vx_n {args : Array Value} {s : State} : ∀ w ∈ ([] : List Cond), w.before args s = true := fun _ h => nomatch h
theorem vx_own {args : Array Value} {s : State} {L : List Cond} (h1 : ∀ w ∈ L.filter vx_no, w.before args s = true)
    (hU : (Cond.isRef (.static Bundle.tN "UNASSIGNED_STACK" Bundle.steD)).before args s = true) (hN : (Cond.isRef (.static Bundle.tN "SUPPRESSED_SENTINEL" Bundle.listD)).before args s = true)
    (lU : (Cond.laysStatic Bundle.tN "UNASSIGNED_STACK" Bundle.steD).before args s = true) (lN : (Cond.laysStatic Bundle.tN "SUPPRESSED_SENTINEL" Bundle.listD).before args s = true) : ∀ w ∈ L, w.before args s = true := by
  intro w hw
  by_cases e1 : w = .isRef (.static Bundle.tN "UNASSIGNED_STACK" Bundle.steD)
  · rw [e1]; exact hU
  · by_cases e2 : w = .isRef (.static Bundle.tN "SUPPRESSED_SENTINEL" Bundle.listD)
    · rw [e2]; exact hN
    · by_cases e3 : w = .laysStatic Bundle.tN "UNASSIGNED_STACK" Bundle.steD
      · rw [e3]; exact lU
      · by_cases e4 : w = .laysStatic Bundle.tN "SUPPRESSED_SENTINEL" Bundle.listD
        · rw [e4]; exact lN
        · exact h1 w (List.mem_filter.mpr ⟨hw, by unfold vx_no; rw [decide_eq_true e1, decide_eq_true e2, decide_eq_true e3, decide_eq_true e4]; rfl⟩)
/-- where a static field lies, its class's statics cell in H -/
def vx_L (C n d : String) (A : Nat → Prop) (U : State) (H : Heap) : Prop := ∃ (c : ClassId) (k : Class) (i : Nat) (f : Field) (a : Nat) (cell : Cell), U.vm.findClass C = some c ∧ U.fieldFound? C n d = some (c, k, i, f) ∧ f.isStatic = true ∧ k.statics = some a ∧ H[a]? = some cell ∧ cell.vm.isStatics = true ∧ cell.cls = c ∧ f.slot < cell.slots.size ∧ k.staticTypes[f.slot]? = some f.type ∧ ¬ A a
theorem vx_L.moved {C n d : String} {A : Nat → Prop} {u U : State} {H : Heap} (hvm : u.vm.Alike U.vm) (h : vx_L C n d A u H) : vx_L C n d A U H := by
  obtain ⟨c, k, i, f, a, cell, h1, h2, h3, h4, h5, h6, h7, h8, h9, h10⟩ := h
  obtain ⟨k', hi', he⟩ := State.fieldFound?_setVm hvm h2
  exact ⟨c, k', i, f, a, cell, by rw [hvm.findClass]; exact h1, hi', h3, by rw [he]; exact h4, h5, h6, h7, h8, by rw [he]; exact h9, h10⟩
theorem vx_L.kept {C n d : String} {A : Nat → Prop} {U : State} {H H1 : Heap} (h : vx_L C n d A U H) (hq : ∀ a : Nat, a < H.size → ¬ A a → H1[a]? = H[a]?) : vx_L C n d A U H1 := by
  obtain ⟨c, k, i, f, a, cell, h1, h2, h3, h4, h5, h6, h7, h8, h9, h10⟩ := h
  exact ⟨c, k, i, f, a, cell, h1, h2, h3, h4, by rw [hq a (Array.getElem?_eq_some_iff.mp h5).1 h10]; exact h5, h6, h7, h8, h9, h10⟩
theorem vx_L.narrow {C n d : String} {A B : Nat → Prop} {U : State} {H : Heap} (h : vx_L C n d A U H) (hAB : ∀ q, B q → A q) : vx_L C n d B U H := by
  obtain ⟨c, k, i, f, a, cell, h1, h2, h3, h4, h5, h6, h7, h8, h9, h10⟩ := h
  exact ⟨c, k, i, f, a, cell, h1, h2, h3, h4, h5, h6, h7, h8, h9, fun z => h10 (hAB _ z)⟩
theorem vx_L.word {C n d : String} {A : Nat → Prop} {s : State} {args : Array Value} (h : vx_L C n d A s s.heap) : (Cond.laysStatic C n d).before args s = true := by
  obtain ⟨c, k, i, f, a, cell, h1, h2, h3, h4, h5, h6, h7, h8, h9, -⟩ := h
  show (Cond.laysStatic C n d).holds args s none s [] = true
  exact Cond.laysStatic_of h1 h2 h3 h4 h5 h6 h7 h8 h9
/-- .. and what it holds: null or some reference -/
def vx_Zq (C n d : String) (A : Nat → Prop) (U : State) (H : Heap) : Prop := va_Zq C n d A U H ∧ vx_L C n d A U H
theorem vx_Zq.moved {C n d : String} {A : Nat → Prop} {u U : State} {H : Heap} (hvm : u.vm.Alike U.vm) (h : vx_Zq C n d A u H) : vx_Zq C n d A U H := ⟨va_Zq.moved hvm h.1, vx_L.moved hvm h.2⟩
theorem vx_Zq.kept {C n d : String} {A : Nat → Prop} {U : State} {H H1 : Heap} (h : vx_Zq C n d A U H) (hq : ∀ a : Nat, a < H.size → ¬ A a → H1[a]? = H[a]?) : vx_Zq C n d A U H1 := ⟨va_Zq.kept h.1 hq, vx_L.kept h.2 hq⟩
theorem vx_Zq.narrow {C n d : String} {A B : Nat → Prop} {U : State} {H : Heap} (h : vx_Zq C n d A U H) (hAB : ∀ q, B q → A q) : vx_Zq C n d B U H := ⟨va_Zq.narrow h.1 hAB, vx_L.narrow h.2 hAB⟩
theorem vx_Zqof {args : Array Value} {s : State} {C n d : String} {A : Nat → Prop} (hl : (Cond.laysStatic C n d).before args s = true) (hini : (Cond.initialized C).before args s = true) (h : (Cond.isRef (.static C n d)).before args s = true) (hA : ∀ a : Nat, a < s.heap.size → ¬ A a) : vx_Zq C n d A s s.heap := by
  refine ⟨va_Zqof hl hini h hA, ?_⟩
  obtain ⟨c, k, i, f, a, cell, h1, h2, h3, h4, h5, h6, h7, h8, h9⟩ := Cond.laysStatic_spec hl
  exact ⟨c, k, i, f, a, cell, h1, h2, h3, h4, h5, h6, h7, h8, h9, hA a (Array.getElem?_eq_some_iff.mp h5).1⟩
theorem vx_isRef {C n d : String} {v : Value} {A : Nat → Prop} {s : State} {args : Array Value} (h : va_Z C n d v A s s.heap) (hv : v.isRef = true) : (Cond.isRef (.static C n d)).before args s = true := by
  obtain ⟨cf, kf, fi, f, a, cell, h1, h2, h3, h4, h5, h6, h7, -⟩ := h
  have he : (Term.static C n d).eval args s none [] s = some v := by
    simp [Term.eval, State.fieldNamed?, h1, h2, h4, h5, h6, h7]
  simp only [Cond.before, Cond.holds, Cond.value, he]
  cases v <;> simp_all [Value.isRef]
theorem vx_isRefq {C n d : String} {A : Nat → Prop} {s : State} {args : Array Value} (h : va_Zq C n d A s s.heap) : (Cond.isRef (.static C n d)).before args s = true := by
  rcases h with h | ⟨t, h⟩
  · exact vx_isRef h rfl
  · exact vx_isRef h rfl
/-- the same frame, seen from here: as if the method were called anew in this heap -/
theorem vx_rebase {T : State} (X : Stand p l e R s m args below meth c T locs cells slots) {R' : Room} (hf : R'.frames ≤ R.frames) (hl : R'.locals ≤ R.locals) (hc : cells + R'.cells ≤ R.cells) (hs : slots + R'.slots ≤ R.slots) :
    Stand p l e R' ((T.setVm s.vm).setFrames (.invoking m args :: below)) m args below meth c T [] 0 0 := by
  have htop : (T.setVm s.vm).topJava?.isSome := X.here.top
  have hF : ((T.setVm s.vm).setFrames (.invoking m args :: below)).frames = .invoking m args :: below := State.frames_setFrames _ (State.cur_lt_of_top htop)
  obtain ⟨g₀, hg0⟩ := Option.isSome_iff_exists.mp htop
  obtain ⟨r, hr⟩ := State.topJava?_eq_some.mp hg0
  have hl9 : e.platform.stackLimits (T.setVm s.vm).me = e.platform.stackLimits s.me := X.limits
  have hb9 : (T.setVm s.vm).me.stackBytes = s.me.stackBytes := X.bytes
  refine ⟨X.admits, X.cas, X.clock, hF, ?_, X.hears, X.method, X.code, X.here, X.tail, X.warmed, ?_, ?_, ?_⟩
  · have h := X.room
    have hU : ((T.setVm s.vm).setFrames (.invoking m args :: below)).localsInUse = s.localsInUse := by
      rw [State.localsInUse_invoking hF (meth := meth) (c := c) X.method X.code, State.localsInUse_invoking X.frames X.method X.code]
    simp only [State.hasRoom, Bool.and_eq_true, decide_eq_true_eq] at h ⊢
    obtain ⟨⟨⟨⟨h1, h2, h3, h4, h5, h6⟩, h7⟩, h8⟩, h9⟩ := h
    rw [X.frames, List.length_cons] at h2 h3
    have q1 := X.heapSize
    have q2 := X.used
    simp only [hF, hU, List.length_cons, State.stackLimits_setFrames, State.stackBytes_setFrames, hl9, hb9]
    refine ⟨⟨⟨⟨by omega, by omega, by omega, by omega, by omega, h6⟩, ?_⟩, ?_⟩, X.book⟩
    · show T.heap.size + R'.cells ≤ e.platform.maxCells
      omega
    · show T.slotsUsed + R'.slots ≤ e.platform.maxSlots
      omega
  · rw [State.stackLimits_setFrames]; rfl
  · rw [State.stackBytes_setFrames]; rfl
  · refine ⟨?_, Nat.le_refl _, Nat.le_refl _, ?_, ?_, fun a c9 h9 => ⟨c9, h9, rfl, rfl, fun _ _ => rfl⟩⟩
    · obtain ⟨t, ht, -⟩ := State.frames_cons hr
      show T.setVm s.vm = { ((T.setVm s.vm).setFrames (.invoking m args :: below)).setFrames (T.setVm s.vm).frames with heap := T.heap, slotsUsed := T.slotsUsed }
      rw [State.setFrames_setFrames, State.setFrames_self ht]
      rfl
    · show T.slotsUsed = T.slotsUsed + ((T.heap.toList.drop T.heap.size).map (·.slots.size)).sum
      rw [List.drop_eq_nil_of_le (Nat.le_of_eq Array.length_toList)]
      rfl
    · show ((T.heap.toList.drop T.heap.size).map (·.slots.size)).sum ≤ 0
      rw [List.drop_eq_nil_of_le (Nat.le_of_eq Array.length_toList)]
      exact Nat.le_refl _
/-- 'throw new E()': new; dup; invokespecial; athrow -/
theorem vx_throw0 {cc : ByteArray} {pc : Nat} (hexec : p.tables.exec = Jvm.exec) (hb : c.code = cc) (hl : l.stackTraces = false) {own cls : String} {names : List String} {ik ic mc ms : Nat} {A : Nat → Prop}
    (hown : s.vm.findClass own = some m.cls) (hcls : Bundle.fit cls = true) (hnames : ∀ n ∈ names, Bundle.fit n = true)
    (hk : (Cond.classLink own ik cls).before args s = true) (hini : (Cond.initialized cls).before args s = true) (hat : ∀ w ∈ vx_at0 own ic cls names, w.before args s = true)
    (hgood : ∀ w ∈ Cond.classLink own ik cls :: Cond.initialized cls :: vx_at0 own ic cls names, vx_ot w = true)
    (hU : vx_Zq Bundle.tN "UNASSIGNED_STACK" Bundle.steD A s s.heap) (hN : vx_Zq Bundle.tN "SUPPRESSED_SENTINEL" Bundle.listD A s s.heap) (hS : va_S A s.heap H locs) (hsize : ls.size = c.maxLocals)
    (d0 : decode cc pc = .ok (.new ik, 3)) (d3 : decode cc (pc + 3) = .ok (.dup, 1)) (d4 : decode cc (pc + 4) = .ok (.invokespecial ic, 3)) (d7 : decode cc (pc + 7) = .ok (.athrow, 1))
    (hout : ∀ x ∈ c.exceptionTable.toList, covers x (pc + 7) = false)
    (hRframes : names.length + 3 < R.frames) (hRlocals : (rest.map fun v => v.category).sum + (13 * (names.length + 1) + 42) ≤ R.locals) (hRcells : cells + 1 ≤ R.cells) (hRslots : slots + 6 ≤ R.slots) (hlocks : meth.locks = false)
    (hx : ∀ t : State, s.vm.Alike t.vm → H.size ≤ t.heap.size → (∀ q : Nat, q < H.size → t.heap[q]? = H[q]?) → XC cls s t)
    (hf : ∀ z ∈ locs, free z.base) (hc : cells + 1 ≤ mc) (hs : slots + 6 ≤ ms) :
    W p l e R s m args below meth c H locs cells slots (vx_MQ below Qc XC args s mc ms free) (F0 m pc ls rest) := by
  intro T hT X
  have htr : e.platform.stackTraces = false := (show e.platform.stackTraces = l.stackTraces by rw [X.admits.platform]).trans hl
  have Y := vx_rebase X (R' := { frames := R.frames, locals := R.locals, cells := 1, slots := 6 }) (Nat.le_refl _) (Nat.le_refl _) hRcells hRslots
  obtain ⟨s', hA⟩ : ∃ z, z = (T.setVm s.vm).setFrames (.invoking m args :: below) := ⟨_, rfl⟩
  rw [← hA] at Y
  have hvm : s'.vm = s.vm := by rw [hA]; rfl
  have hhp : s'.heap = H := by rw [hA]; exact hT
  have hW0 : s.WarmedH s'.vm := by rw [hvm]; exact State.WarmedH.refl s
  have hat' : ∀ w ∈ vx_at0 own ic cls names, w.before args s' = true := fun w hw => vx_ot_at hW0 hvm.symm (hgood w (List.mem_cons_of_mem _ (List.mem_cons_of_mem _ hw))) (hat w hw)
  have hk' : (Cond.classLink own ik cls).before args s' = true := vx_ot_at hW0 hvm.symm (hgood _ List.mem_cons_self) hk
  have hini' : (Cond.initialized cls).before args s' = true := vx_ot_at hW0 hvm.symm (hgood _ (List.mem_cons_of_mem _ List.mem_cons_self)) hini
  have hU' : vx_Zq Bundle.tN "UNASSIGNED_STACK" Bundle.steD A s' s'.heap := by rw [hhp]; exact vx_Zq.moved hW0.alike (hU.kept hS.2.1)
  have hN' : vx_Zq Bundle.tN "SUPPRESSED_SENTINEL" Bundle.listD A s' s'.heap := by rw [hhp]; exact vx_Zq.moved hW0.alike (hN.kept hS.2.1)
  have h : ∀ w ∈ Bundle.ownAtoms0 own ic cls names, w.before args s' = true := vx_own hat' (vx_isRefq hU'.1) (vx_isRefq hN'.1) hU'.2.word hN'.2.word
  have hown' : s'.vm.findClass own = some m.cls := by rw [hvm]; exact hown
  have hins : (Cond.instantiable cls 6).before args s' = true := h _ (by simp [Bundle.ownAtoms0])
  obtain ⟨vm₁, cX, kX, hfX, hkX, -, -, X₁, st1⟩ := Y.newCold hexec (own := own) (C := cls) (index := ik) (n := 6) hown' hk' hins hini'
    (g := F0 m pc ls rest) rfl (by rw [hb]; exact d0) (Nat.le_refl _) (Nat.le_refl _)
  generalize hT1 : (T.setVm vm₁).pushCell { cls := cX, slots := kX.instanceTypes.map defaultValue, vm := .none } = T1 at X₁ st1
  have hcat : (Value.ref T.heap.size).category = 1 := rfl
  have hcellA : T1.heap[T.heap.size]? = some (freshCell cX kX) := by rw [← hT1]; exact State.heap_pushCell_size _ _
  have d3' : decode c.code (pc + 3) = .ok (.dup, 1) := by rw [hb]; exact d3
  obtain ⟨U, hsteps, hrun, hend, hW, hsame, ce, hce, hO⟩ := X₁.ctorThrow0 hexec htr (own := own) (cls := cls) (names := names) (ic := ic) hown' hcls hnames h (fun x hx => nomatch hx) hfX hkX hcellA (by rw [hhp, hT]; exact Nat.le_refl _)
    (g := { method := m, pc := pc + 4, locals := ls, stack := .ref T.heap.size :: .ref T.heap.size :: rest, locked := none }) rfl hsize rfl rfl (rest := rest) rfl
    (by rw [hb]; exact d4) (by rw [hb]; exact d7) hout hRframes (by simp only [List.map_cons, List.sum_cons, hcat]; omega) hlocks
  obtain ⟨f1, f2⟩ := vx_frame hsame
  rw [hhp] at f1 f2
  have hWs : s.WarmedH U.vm := State.WarmedH.trans hW0 hW
  have hcl : s.vm.findClass cls = some ce.cls := by
    have h9 := hO.cls
    rw [hvm] at h9
    exact h9
  have hall : s.sameButNew ({ U with vm := s.vm } : State) locs mc ms := by
    subst hA
    obtain ⟨e1, e2⟩ := hsame
    rw [State.setFrames_setFrames] at e1
    have h2 : (T.setVm s.vm).sameButNew ({ U with vm := s.vm } : State) [] (0 + 1) (0 + 6) := ⟨e1, e2⟩
    have h3 := X.same.trans h2
    rw [List.append_nil] at h3
    exact h3.mono hc hs
  refine ⟨U, ?_, .threw T.heap.size, hrun, hend, Or.inr ⟨T.heap.size, rfl, cls, ce, locs, hx U hWs.alike f1 (fun q hq => f2 q hq (fun z hz => nomatch hz)), hce, hO.vm, hcl, hWs, hall, hf⟩⟩
  refine st1 _ ?_
  show Steps p.tables e below (T1.setTop { method := m, pc := pc + 3, locals := ls, stack := .ref T.heap.size :: rest, locked := none }) _
  jvm_step X₁.here [X₁.here.top, hexec, d3', Value.category]
  exact hsteps
/-- 'throw new E("text")': new; dup; ldc; invokespecial; athrow -/
theorem vx_throwS {cc : ByteArray} {pc : Nat} (hexec : p.tables.exec = Jvm.exec) (hb : c.code = cc) (hl : l.stackTraces = false) {own cls text : String} {names : List String} {ik is ic mc ms sa : Nat} {A : Nat → Prop}
    (hown : s.vm.findClass own = some m.cls) (hcls : Bundle.fit cls = true) (hnames : ∀ n ∈ names, Bundle.fit n = true)
    (hk : (Cond.classLink own ik cls).before args s = true) (hini : (Cond.initialized cls).before args s = true) (hstr : vk_R own is text sa s) (hat : ∀ w ∈ vx_atS own ic cls names, w.before args s = true)
    (hgood : ∀ w ∈ Cond.classLink own ik cls :: Cond.initialized cls :: vx_atS own ic cls names, vx_ot w = true)
    (hU : vx_Zq Bundle.tN "UNASSIGNED_STACK" Bundle.steD A s s.heap) (hN : vx_Zq Bundle.tN "SUPPRESSED_SENTINEL" Bundle.listD A s s.heap) (hS : va_S A s.heap H locs) (hsize : ls.size = c.maxLocals)
    (d0 : decode cc pc = .ok (.new ik, 3)) (d3 : decode cc (pc + 3) = .ok (.dup, 1)) (d4 : decode cc (pc + 4) = .ok (.ldc is, 2)) (d6 : decode cc (pc + 6) = .ok (.invokespecial ic, 3)) (d9 : decode cc (pc + 9) = .ok (.athrow, 1))
    (hout : ∀ x ∈ c.exceptionTable.toList, covers x (pc + 9) = false)
    (hRframes : names.length + 3 < R.frames) (hRlocals : (rest.map fun v => v.category).sum + (13 * (names.length + 1) + 43) ≤ R.locals) (hRcells : cells + 1 ≤ R.cells) (hRslots : slots + 6 ≤ R.slots) (hlocks : meth.locks = false)
    (hx : ∀ t : State, s.vm.Alike t.vm → H.size ≤ t.heap.size → (∀ q : Nat, q < H.size → t.heap[q]? = H[q]?) → XC cls s t)
    (hf : ∀ z ∈ locs, free z.base) (hc : cells + 1 ≤ mc) (hs : slots + 6 ≤ ms) :
    W p l e R s m args below meth c H locs cells slots (vx_MQ below Qc XC args s mc ms free) (F0 m pc ls rest) := by
  intro T hT X
  have htr : e.platform.stackTraces = false := (show e.platform.stackTraces = l.stackTraces by rw [X.admits.platform]).trans hl
  have Y := vx_rebase X (R' := { frames := R.frames, locals := R.locals, cells := 1, slots := 6 }) (Nat.le_refl _) (Nat.le_refl _) hRcells hRslots
  obtain ⟨s', hA⟩ : ∃ z, z = (T.setVm s.vm).setFrames (.invoking m args :: below) := ⟨_, rfl⟩
  rw [← hA] at Y
  have hvm : s'.vm = s.vm := by rw [hA]; rfl
  have hhp : s'.heap = H := by rw [hA]; exact hT
  have hW0 : s.WarmedH s'.vm := by rw [hvm]; exact State.WarmedH.refl s
  have hat' : ∀ w ∈ vx_atS own ic cls names, w.before args s' = true := fun w hw => vx_ot_at hW0 hvm.symm (hgood w (List.mem_cons_of_mem _ (List.mem_cons_of_mem _ hw))) (hat w hw)
  have hk' : (Cond.classLink own ik cls).before args s' = true := vx_ot_at hW0 hvm.symm (hgood _ List.mem_cons_self) hk
  have hini' : (Cond.initialized cls).before args s' = true := vx_ot_at hW0 hvm.symm (hgood _ (List.mem_cons_of_mem _ List.mem_cons_self)) hini
  have hU' : vx_Zq Bundle.tN "UNASSIGNED_STACK" Bundle.steD A s' s'.heap := by rw [hhp]; exact vx_Zq.moved hW0.alike (hU.kept hS.2.1)
  have hN' : vx_Zq Bundle.tN "SUPPRESSED_SENTINEL" Bundle.listD A s' s'.heap := by rw [hhp]; exact vx_Zq.moved hW0.alike (hN.kept hS.2.1)
  have h : ∀ w ∈ Bundle.ownAtoms own ic cls names, w.before args s' = true := vx_own hat' (vx_isRefq hU'.1) (vx_isRefq hN'.1) hU'.2.word hN'.2.word
  have hown' : s'.vm.findClass own = some m.cls := by rw [hvm]; exact hown
  have hins : (Cond.instantiable cls 6).before args s' = true := h _ (by simp [Bundle.ownAtoms])
  obtain ⟨vm₁, cX, kX, hfX, hkX, -, -, X₁, st1⟩ := Y.newCold hexec (own := own) (C := cls) (index := ik) (n := 6) hown' hk' hins hini'
    (g := F0 m pc ls rest) rfl (by rw [hb]; exact d0) (Nat.le_refl _) (Nat.le_refl _)
  generalize hT1 : (T.setVm vm₁).pushCell { cls := cX, slots := kX.instanceTypes.map defaultValue, vm := .none } = T1 at X₁ st1
  have hcat : (Value.ref T.heap.size).category = 1 := rfl
  have hcellA : T1.heap[T.heap.size]? = some (freshCell cX kX) := by rw [← hT1]; exact State.heap_pushCell_size _ _
  have d3' : decode c.code (pc + 3) = .ok (.dup, 1) := by rw [hb]; exact d3
  have d4' : decode c.code (pc + 4) = .ok (.ldc is, 2) := by rw [hb]; exact d4
  have hstr' : vk_R own is text sa s' := vk_R.warm hW0 hstr
  obtain ⟨U, hsteps, hrun, hend, hW, hsame, ce, hce, hO⟩ := X₁.ctorThrowS hexec htr (own := own) (cls := cls) (names := names) (ic := ic) hown' hcls hnames h (fun x hx => nomatch hx) hfX hkX hcellA (by rw [hhp, hT]; exact Nat.le_refl _) (msg := .ref sa) rfl
    (g := { method := m, pc := pc + 6, locals := ls, stack := .ref sa :: .ref T.heap.size :: .ref T.heap.size :: rest, locked := none }) rfl hsize rfl rfl (rest := rest) rfl
    (by rw [hb]; exact d6) (by rw [hb]; exact d9) hout hRframes (by simp only [List.map_cons, List.sum_cons, hcat]; omega) hlocks
  obtain ⟨f1, f2⟩ := vx_frame hsame
  rw [hhp] at f1 f2
  have hWs : s.WarmedH U.vm := State.WarmedH.trans hW0 hW
  have hcl : s.vm.findClass cls = some ce.cls := by
    have h9 := hO.cls
    rw [hvm] at h9
    exact h9
  have hall : s.sameButNew ({ U with vm := s.vm } : State) locs mc ms := by
    subst hA
    obtain ⟨e1, e2⟩ := hsame
    rw [State.setFrames_setFrames] at e1
    have h2 : (T.setVm s.vm).sameButNew ({ U with vm := s.vm } : State) [] (0 + 1) (0 + 6) := ⟨e1, e2⟩
    have h3 := X.same.trans h2
    rw [List.append_nil] at h3
    exact h3.mono hc hs
  refine ⟨U, ?_, .threw T.heap.size, hrun, hend, Or.inr ⟨T.heap.size, rfl, cls, ce, locs, hx U hWs.alike f1 (fun q hq => f2 q hq (fun z hz => nomatch hz)), hce, hO.vm, hcl, hWs, hall, hf⟩⟩
  refine st1 _ ?_
  show Steps p.tables e below (T1.setTop { method := m, pc := pc + 3, locals := ls, stack := .ref T.heap.size :: rest, locked := none }) _
  jvm_step X₁.here [X₁.here.top, hexec, d3', Value.category]
  exact X₁.ldcString hexec (own := own) (text := text) (index := is) (a := sa) hown' hstr'.1 hstr'.2
    (g := { method := m, pc := pc + 4, locals := ls, stack := .ref T.heap.size :: .ref T.heap.size :: rest, locked := none }) rfl d4' _ hsteps
/-- 'throw new E("text")', the text by a wide index -/
theorem vx_throwSW {cc : ByteArray} {pc : Nat} (hexec : p.tables.exec = Jvm.exec) (hb : c.code = cc) (hl : l.stackTraces = false) {own cls text : String} {names : List String} {ik is ic mc ms sa : Nat} {A : Nat → Prop}
    (hown : s.vm.findClass own = some m.cls) (hcls : Bundle.fit cls = true) (hnames : ∀ n ∈ names, Bundle.fit n = true)
    (hk : (Cond.classLink own ik cls).before args s = true) (hini : (Cond.initialized cls).before args s = true) (hstr : vk_R own is text sa s) (hat : ∀ w ∈ vx_atS own ic cls names, w.before args s = true)
    (hgood : ∀ w ∈ Cond.classLink own ik cls :: Cond.initialized cls :: vx_atS own ic cls names, vx_ot w = true)
    (hU : vx_Zq Bundle.tN "UNASSIGNED_STACK" Bundle.steD A s s.heap) (hN : vx_Zq Bundle.tN "SUPPRESSED_SENTINEL" Bundle.listD A s s.heap) (hS : va_S A s.heap H locs) (hsize : ls.size = c.maxLocals)
    (d0 : decode cc pc = .ok (.new ik, 3)) (d3 : decode cc (pc + 3) = .ok (.dup, 1)) (d4 : decode cc (pc + 4) = .ok (.ldc_w is, 3)) (d7 : decode cc (pc + 7) = .ok (.invokespecial ic, 3)) (d10 : decode cc (pc + 10) = .ok (.athrow, 1))
    (hout : ∀ x ∈ c.exceptionTable.toList, covers x (pc + 10) = false)
    (hRframes : names.length + 3 < R.frames) (hRlocals : (rest.map fun v => v.category).sum + (13 * (names.length + 1) + 43) ≤ R.locals) (hRcells : cells + 1 ≤ R.cells) (hRslots : slots + 6 ≤ R.slots) (hlocks : meth.locks = false)
    (hx : ∀ t : State, s.vm.Alike t.vm → H.size ≤ t.heap.size → (∀ q : Nat, q < H.size → t.heap[q]? = H[q]?) → XC cls s t)
    (hf : ∀ z ∈ locs, free z.base) (hc : cells + 1 ≤ mc) (hs : slots + 6 ≤ ms) :
    W p l e R s m args below meth c H locs cells slots (vx_MQ below Qc XC args s mc ms free) (F0 m pc ls rest) := by
  intro T hT X
  have htr : e.platform.stackTraces = false := (show e.platform.stackTraces = l.stackTraces by rw [X.admits.platform]).trans hl
  have Y := vx_rebase X (R' := { frames := R.frames, locals := R.locals, cells := 1, slots := 6 }) (Nat.le_refl _) (Nat.le_refl _) hRcells hRslots
  obtain ⟨s', hA⟩ : ∃ z, z = (T.setVm s.vm).setFrames (.invoking m args :: below) := ⟨_, rfl⟩
  rw [← hA] at Y
  have hvm : s'.vm = s.vm := by rw [hA]; rfl
  have hhp : s'.heap = H := by rw [hA]; exact hT
  have hW0 : s.WarmedH s'.vm := by rw [hvm]; exact State.WarmedH.refl s
  have hat' : ∀ w ∈ vx_atS own ic cls names, w.before args s' = true := fun w hw => vx_ot_at hW0 hvm.symm (hgood w (List.mem_cons_of_mem _ (List.mem_cons_of_mem _ hw))) (hat w hw)
  have hk' : (Cond.classLink own ik cls).before args s' = true := vx_ot_at hW0 hvm.symm (hgood _ List.mem_cons_self) hk
  have hini' : (Cond.initialized cls).before args s' = true := vx_ot_at hW0 hvm.symm (hgood _ (List.mem_cons_of_mem _ List.mem_cons_self)) hini
  have hU' : vx_Zq Bundle.tN "UNASSIGNED_STACK" Bundle.steD A s' s'.heap := by rw [hhp]; exact vx_Zq.moved hW0.alike (hU.kept hS.2.1)
  have hN' : vx_Zq Bundle.tN "SUPPRESSED_SENTINEL" Bundle.listD A s' s'.heap := by rw [hhp]; exact vx_Zq.moved hW0.alike (hN.kept hS.2.1)
  have h : ∀ w ∈ Bundle.ownAtoms own ic cls names, w.before args s' = true := vx_own hat' (vx_isRefq hU'.1) (vx_isRefq hN'.1) hU'.2.word hN'.2.word
  have hown' : s'.vm.findClass own = some m.cls := by rw [hvm]; exact hown
  have hins : (Cond.instantiable cls 6).before args s' = true := h _ (by simp [Bundle.ownAtoms])
  obtain ⟨vm₁, cX, kX, hfX, hkX, -, -, X₁, st1⟩ := Y.newCold hexec (own := own) (C := cls) (index := ik) (n := 6) hown' hk' hins hini'
    (g := F0 m pc ls rest) rfl (by rw [hb]; exact d0) (Nat.le_refl _) (Nat.le_refl _)
  generalize hT1 : (T.setVm vm₁).pushCell { cls := cX, slots := kX.instanceTypes.map defaultValue, vm := .none } = T1 at X₁ st1
  have hcat : (Value.ref T.heap.size).category = 1 := rfl
  have hcellA : T1.heap[T.heap.size]? = some (freshCell cX kX) := by rw [← hT1]; exact State.heap_pushCell_size _ _
  have d3' : decode c.code (pc + 3) = .ok (.dup, 1) := by rw [hb]; exact d3
  have d4' : decode c.code (pc + 4) = .ok (.ldc_w is, 3) := by rw [hb]; exact d4
  have hstr' : vk_R own is text sa s' := vk_R.warm hW0 hstr
  obtain ⟨U, hsteps, hrun, hend, hW, hsame, ce, hce, hO⟩ := X₁.ctorThrowS hexec htr (own := own) (cls := cls) (names := names) (ic := ic) hown' hcls hnames h (fun x hx => nomatch hx) hfX hkX hcellA (by rw [hhp, hT]; exact Nat.le_refl _) (msg := .ref sa) rfl
    (g := { method := m, pc := pc + 7, locals := ls, stack := .ref sa :: .ref T.heap.size :: .ref T.heap.size :: rest, locked := none }) rfl hsize rfl rfl (rest := rest) rfl
    (by rw [hb]; exact d7) (by rw [hb]; exact d10) hout hRframes (by simp only [List.map_cons, List.sum_cons, hcat]; omega) hlocks
  obtain ⟨f1, f2⟩ := vx_frame hsame
  rw [hhp] at f1 f2
  have hWs : s.WarmedH U.vm := State.WarmedH.trans hW0 hW
  have hcl : s.vm.findClass cls = some ce.cls := by
    have h9 := hO.cls
    rw [hvm] at h9
    exact h9
  have hall : s.sameButNew ({ U with vm := s.vm } : State) locs mc ms := by
    subst hA
    obtain ⟨e1, e2⟩ := hsame
    rw [State.setFrames_setFrames] at e1
    have h2 : (T.setVm s.vm).sameButNew ({ U with vm := s.vm } : State) [] (0 + 1) (0 + 6) := ⟨e1, e2⟩
    have h3 := X.same.trans h2
    rw [List.append_nil] at h3
    exact h3.mono hc hs
  refine ⟨U, ?_, .threw T.heap.size, hrun, hend, Or.inr ⟨T.heap.size, rfl, cls, ce, locs, hx U hWs.alike f1 (fun q hq => f2 q hq (fun z hz => nomatch hz)), hce, hO.vm, hcl, hWs, hall, hf⟩⟩
  refine st1 _ ?_
  show Steps p.tables e below (T1.setTop { method := m, pc := pc + 3, locals := ls, stack := .ref T.heap.size :: rest, locked := none }) _
  jvm_step X₁.here [X₁.here.top, hexec, d3', Value.category]
  exact X₁.ldcStringW hexec (own := own) (text := text) (index := is) (a := sa) hown' hstr'.1 hstr'.2
    (g := { method := m, pc := pc + 4, locals := ls, stack := .ref T.heap.size :: .ref T.heap.size :: rest, locked := none }) rfl d4' _ hsteps
end Ends
section Bodies
variable {l : Launch}
theorem vx_ofW {y : MethodName} {ws ws' : List Cond} {rm : Room} {Pc : Array Value → State → Prop} {Qc : Array Value → State → Outcome → State → Prop} {XC : String → State → State → Prop} {mc ms : Nat} {free : Addr → Prop} {cc : ByteArray} {maxL : Nat} {ret : Option FieldType}
    (hy : plainName y.cls = true) (hw : ws = Cond.code y cc maxL ret :: ws')
    (body : ∀ p e s m args below meth c s₁, BodyLoose p l y (headSpec ws rm) cc maxL ret e s m args below meth c s₁ → c.maxLocals = maxL → (∀ x ∈ c.exceptionTable.toList, False) → Pc args s →
      W p l e (headSpec ws rm).room s m args below meth c s.heap [] 0 0 (vx_MQ below Qc XC args s mc ms free) (entryFrame m args maxL)) : vx_Met l y ws rm Pc Qc XC mc ms free := by
  refine MetFree.of_bodyS (code := cc) (maxLocals := maxL) (ret := ret) hy ?_ ?_
  · intro args s m h hn
    obtain ⟨meth, c, h1, h2, h3, h4, h5, h6, -, -⟩ := Cond.code_spec hn (atoms_spec (ws := ws) h _ (by rw [hw]; exact List.mem_cons_self))
    exact ⟨meth, c, h1, h2, h3, h4, h5, h6⟩
  · intro p e s m args below meth c s₁ B hml hP _
    have hh0 : s₁.heap = s.heap := by rw [B.state]; rfl
    have ht : ∀ x ∈ c.exceptionTable.toList, False := by
      obtain ⟨meth9, c9, h1, h2, -, -, -, -, h7, -⟩ := Cond.code_spec B.named (atoms_spec (ws := ws) B.pre _ (by rw [hw]; exact List.mem_cons_self))
      cases Option.some.inj (h1.symm.trans B.method)
      cases Option.some.inj (h2.symm.trans (Stand.of_body B).code)
      intro x hx
      rw [Array.isEmpty_iff.mp h7] at hx
      cases hx
    obtain ⟨t, a1, o, b1, b2, b3⟩ := body p e s m args below meth c s₁ B hml ht hP s₁ hh0 (Stand.of_body B)
    exact ⟨t, o, a1, b1, b2, b3⟩
/-- the table of a body with handlers -/
theorem vx_table {p : Program} {x y : MethodName} {S : Spec} {cc bytes : ByteArray} {maxL maxL' : Nat} {ret ret' : Option FieldType} {e : Env} {s s₁ : State} {m : MethodId} {args : Array Value} {below : List Frame} {meth : Method} {c : Code} {hh : List (Nat × Nat × Nat × Nat)}
    (B : BodyLoose p l y S cc maxL ret e s m args below meth c s₁) (h : (Cond.codeWith y bytes maxL' ret' hh).before args s = true) : c.exceptionTable.toList = tableOf hh := by
  obtain ⟨m9, meth9, c9, hn9, h1, h2, -, -, h6, -⟩ := Cond.codeWith_spec h
  cases Option.some.inj (hn9.symm.trans B.named)
  cases Option.some.inj (h1.symm.trans B.method)
  cases Option.some.inj (h2.symm.trans (Stand.of_body B).code)
  rw [← h6, table_eq]
end Bodies
end VXA
/-! ===== END ===== -/
/-! ===== BEGIN a static call of a method with an exception table ===== -/
section VXS
variable {p : Program} {l : Launch} {e : Env} {R : Room} {s : State} {m : MethodId} {args : Array Value} {below : List Frame} {meth : Method} {c : Code} {T : State} {H : Heap} {locs : List Loc} {cells slots : Nat}
abbrev vx_CSW (R : Room) (s : State) (args : Array Value) (own : String) (index : Nat) (y : MethodName) (bytes : ByteArray) (maxL : Nat) (ret : Option FieldType) (hh : List (Nat × Nat × Nat × Nat)) (ws : List Cond) (rm : Room) (mc ms n : Nat) : Prop :=
  (rm.cells = mc ∧ rm.slots = ms ∧ rm.frames + 1 ≤ R.frames ∧ 8 + (maxL + 11) + rm.locals ≤ R.locals ∧ (∀ w ∈ ws, ∀ (a' : Array Value) (U : State), s.WarmedH U.vm → w.before a' U = true) ∧ Cond.codeWith y bytes maxL ret hh ∈ ws) ∧
  (Cond.codeWith y bytes maxL ret hh).before args s = true ∧ (Cond.initialized y.cls).before args s = true ∧ (y.cls ≠ "java/lang/invoke/MethodHandle" ∧ y.cls ≠ "java/lang/invoke/VarHandle") ∧
  (∀ sig, parseMethodDescriptor y.desc = some sig → n = sig.parameters.length) ∧ (Cond.methodLink own index y).before args s = true ∧ (Cond.static y).before args s = true
theorem vx_cwSW {own : String} {index maxL mc ms : Nat} {y : MethodName} {bytes : ByteArray} {ret : Option FieldType} {hh : List (Nat × Nat × Nat × Nat)} {Ts ws ws' : List Cond} {rm : Room} (n : Nat) (ht : ∀ w ∈ Ts, w.before args s = true) (hT : GoodIn Ts (va_wsS own index y ws)) (hw : ws = Cond.codeWith y bytes maxL ret hh :: ws') (hrc : rm.cells = mc) (hrs : rm.slots = ms)
    (hd : y.cls ≠ "java/lang/invoke/MethodHandle" ∧ y.cls ≠ "java/lang/invoke/VarHandle" ∧ (parseMethodDescriptor y.desc).map (fun d => d.parameters.length) = some n) (hR : rm.frames + 1 ≤ R.frames ∧ 8 + (maxL + 11) + rm.locals ≤ R.locals) :
    vx_CSW R s args own index y bytes maxL ret hh ws rm mc ms n := by
  have ok : ∀ w ∈ va_wsS own index y ws, w.before args s = true := fun w h => ht w (hT w h).1
  have hG : GoodIn Ts ws := fun w h => hT w (by unfold va_wsS; exact List.mem_append_right _ h)
  have hc : Cond.codeWith y bytes maxL ret hh ∈ ws := by rw [hw]; exact List.mem_cons_self
  refine ⟨⟨hrc, hrs, hR.1, hR.2, pay_in ht hG, hc⟩, ht _ (hG _ hc).1, ok _ (by simp [va_wsS]), ⟨hd.1, hd.2.1⟩, fun sig h => ?_, ok _ (by simp [va_wsS]), ok _ (by simp [va_wsS])⟩
  have h2 := hd.2.2
  rw [h] at h2
  exact (Option.some.inj h2).symm
theorem vx_callSW (X : Stand p l e R s m args below meth c T locs cells slots) (hexec : p.tables.exec = Jvm.exec) {own : String} {index : Nat} {y : MethodName} {bytes : ByteArray} {maxL : Nat} {ret : Option FieldType} {hh : List (Nat × Nat × Nat × Nat)}
    (hown : s.vm.findClass own = some m.cls) (hlink : (Cond.methodLink own index y).before args s = true) (hstat : (Cond.static y).before args s = true) (hinit : (Cond.initialized y.cls).before args s = true)
    (hcode : (Cond.codeWith y bytes maxL ret hh).before args s = true) (hy : y.cls ≠ "java/lang/invoke/MethodHandle" ∧ y.cls ≠ "java/lang/invoke/VarHandle")
    {W9 : Nat} {Pre : Pt → Array Value → Prop} {Post : Pt → Array Value → Option Value → Pt → Prop} (hK : Back l R p e below s args y 3 W9 Pre Post)
    {g : JFrame} (hg : g.method = m) (hsize : g.locals.size = c.maxLocals) {argsL rest : List Value} (hlen : ∀ sig, parseMethodDescriptor y.desc = some sig → argsL.length = sig.parameters.length)
    (hstack : g.stack = argsL.reverse ++ rest) (hW : 2 * g.monitorRoom + (rest.map fun v => v.category).sum ≤ W9) (hdg : decode c.code g.pc = .ok (.invokestatic index, 3))
    (hpre : ∀ vm₁, s.WarmedH vm₁ → Pre ⟨T.setVm vm₁, locs, cells, slots⟩ argsL.toArray) :
    ∃ (v : Option Value) (vm₁ : Vm) (B : Pt), s.WarmedH vm₁ ∧ Stand p l e R s m args below meth c B.U B.locs B.cells B.slots ∧ Post ⟨T.setVm vm₁, locs, cells, slots⟩ argsL.toArray v B ∧
      ∀ target, Steps p.tables e below (B.U.setTop { g with pc := g.pc + 3, stack := v.toList ++ rest }) target → Steps p.tables e below (T.setTop g) target := by
  obtain ⟨mk, methM, cM, hnamed, hmethM, -, -, -, -, -, -, hsigM⟩ := Cond.codeWith_spec hcode
  have hstatic : methM.isStatic = true := Cond.static_spec hnamed hmethM hstat
  obtain ⟨kP, hkP, -⟩ := className_of_methodNamed hnamed
  have hinitP : kP.init = .initialized := Cond.initialized_spec (findClass_of_methodNamed hnamed) hkP hinit
  obtain ⟨vm₁, X₁, hstep₁⟩ := X.invokestatic hexec hown hlink hnamed hmethM hstatic hkP hinitP hy (g := g) hg (argsL := argsL) (rest := rest) (hlen _ hsigM) hstack hdg
  obtain ⟨v, B, X', hpost, hsteps⟩ := hK m meth c ⟨T.setVm vm₁, locs, cells, slots⟩ { g with stack := rest } (.invokestatic index) mk argsL.toArray X₁ hg hsize hdg hW (X₁.named hnamed) (hpre vm₁ X₁.warmed)
  exact ⟨v, vm₁, B, X₁.warmed, X', hpost, fun target h => hstep₁ _ fun acts => by rw [doInvoke_state]; exact hsteps.trans h⟩
theorem vx_runSW {y : MethodName} {bytes cc : ByteArray} {maxL nL mc ms n index : Nat} {ret : Option FieldType} {hh : List (Nat × Nat × Nat × Nat)} {ws : List Cond} {rm : Room} {Pc : Array Value → State → Prop} {Qc : Array Value → State → Outcome → State → Prop} {free : Addr → Prop} {Ts : List Cond} {own : String} {As rest : List Value} {g : JFrame}
    (S : CallFix p m c cc nL s args Ts own) (hM : Met l y ws rm Pc Qc mc ms free) (cw : vx_CSW R s args own index y bytes maxL ret hh ws rm mc ms n) (hp : PreS s H Pc As)
    (hg : g.method = m) (hn : As.length = n) (hsize : g.locals.size = nL) (hstack : g.stack = As.reverse ++ rest) (hW : 2 * g.monitorRoom + (rest.map fun v => v.category).sum ≤ 8) (hdg : decode cc g.pc = .ok (.invokestatic index, 3)) (hf : cells + mc ≤ R.cells ∧ slots + ms ≤ R.slots) :
    va_Run p l e R s m args below meth c H locs cells slots mc ms g rest (Qc As.toArray) (free) := by
  obtain ⟨⟨hrc, hrs, hfr, hlo, hws, hcw⟩, hcode, hini, hy, hlen, hl, hstt⟩ := cw
  have hK : Back l R p e below s args y 3 8 (PreOf R mc ms Pc) (PostOf Qc mc ms free) := va_backW (hh := hh) (bytes := bytes) (maxL := maxL) (ret := ret) hM hp.1 hrc hrs hfr hlo hws hcw (fun a' U hW => word_at hW (Or.inl (by first | rfl | simp [Cond.onTables, Cond.keeps, Cond.steady])) hini)
  obtain ⟨hx, hb, hml, ho, -⟩ := S
  intro T hT X
  obtain ⟨v, vm₁, ⟨U', l2, c2, s2⟩, hW₁, X', ⟨g', mk, t, L, e1, e2, hq, h1, hL, h2, h3⟩, st⟩ := vx_callSW X hx (hh := hh) (bytes := bytes) (maxL := maxL) (ret := ret) ho hl hstt hini hcode hy hK hg (hsize.trans hml.symm) (argsL := As) (rest := rest) (fun sig h => hn.trans (hlen sig h)) hstack hW (by rw [hb]; exact hdg)
    (fun vm₁ hW₁ => ⟨hf.1, hf.2, hp.2 (T.setVm vm₁) hT hW₁⟩)
  dsimp only [Pt.U, Pt.locs, Pt.cells, Pt.slots] at X' e1 e2 h1 h2 h3 st
  subst h1; subst h2; subst h3
  exact ⟨v, (T.setVm vm₁).calling g' mk As.toArray, t, U', L, hT, X', hL, e1, e2, hq, st⟩
/-- not caught here, past rows that name other classes: it goes on to the caller -/
theorem vx_outP {p : Program} {l : Launch} {e : Env} {R : Room} {s : State} {m : MethodId} {args : Array Value} {below : List Frame} {meth : Method} {c : Code} {H : Heap} {locs : List Loc} {cells slots : Nat} {free : Addr → Prop} {ls : Array Slot} {rest : List Value} {Qc : Array Value → State → Outcome → State → Prop} {XC : String → State → State → Prop}
    {pc : Nat} {own E : String} {ce : Cell} {q : Addr} {mc ms : Nat} (hown : s.vm.findClass own = some m.cls) (hlocks : meth.locks = false)
    (hpass : ∀ z ∈ c.exceptionTable.toList, covers z pc = false ∨ (z.catchType ≠ 0 ∧ ∃ nm : String, (Cond.classLink own z.catchType nm).before args s = true ∧ va_Nc E nm s)) (hcell : H[q]? = some ce) (hv : ce.vm = .none) (hcl : s.vm.findClass E = some ce.cls)
    (hx : ∀ t : State, t.heap = H → s.vm.Alike t.vm → XC E s t) (hf : ∀ z ∈ locs, free z.base) (hc : cells ≤ mc) (hs : slots ≤ ms) :
    vx_W p l e R s m args below meth c H locs cells slots (vx_MQ below Qc XC args s mc ms free) (F0 m pc ls rest) q := by
  intro T hT X
  have hpl : e.platform.magicAccessors = ({} : Platform).magicAccessors := by rw [X.admits.platform]
  obtain ⟨vm', hW', X', st⟩ := X.outThrough hlocks q (g := F0 m pc ls rest) rfl rfl rfl (cell := ce) (by rw [hT]; exact hcell) (by rw [hv]; rfl)
    (by obtain ⟨k9, h9, -⟩ := Vm.findClass_spec hcl; exact ⟨k9, h9⟩) (fun z hz => by
      rcases hpass z hz with h | ⟨hz0, nm, hl1, hn1⟩
      · exact Or.inl h
      · obtain ⟨c6, hc6, hcl6⟩ := Cond.classLink_spec hown hl1 e.platform hpl
        obtain ⟨a8, b8, h1, h2, h3⟩ := hn1
        cases Option.some.inj (h1.symm.trans hcl)
        cases Option.some.inj (h2.symm.trans hc6)
        exact Or.inr ⟨hz0, _, hcl6, h3⟩)
  obtain ⟨g₀, hfr⟩ := X'.frames_eq
  have hcell9 : ((T.setVm vm').setFrames (.throwing q :: below)).heap[q]? = some ce := by
    show T.heap[q]? = some ce
    rw [hT]; exact hcell
  have hend : Ended ((T.setVm vm').setFrames (.throwing q :: below)) below (.threw q) := State.frames_setFrames _ (State.cur_lt_of_frames hfr)
  refine ⟨(T.setVm vm').setFrames (.throwing q :: below), ?_, .threw q, X'.here.running, hend, Or.inr ⟨q, rfl, E, ce, locs, hx _ hT (X'.ends _).1.alike, hcell9, hv, hcl, (X'.ends _).1, (X'.ends _).2.mono hc hs, hf⟩⟩
  rw [X.pushThrowing_eq]
  exact st
/-- a thing of a world lies in the heap -/
theorem vx_lt {D : va_G} {cl : List vw_C} {ws : va_W} {H1 : Heap} (h : va_P D cl ws H1) {k : Nat} {q : Nat × va_E} (hk : ws[k]? = some q) : q.1 < H1.size := (h k q hk).lt
end VXS
/-! ===== END ===== -/
/-! ===== BEGIN methods with a table of their own: called by a name, returning or throwing ===== -/
section VXH
/-! vx_backW, vx_callVX, vx_callSX, vx_callVW, vx_runVW, vx_runVX, vx_runSX, vx_ofWH follow the same proofs as their sisters above (Free/Laws.lean, Shelf42/LK1.lean); vx_outP calls Shelf42/NT130.lean (outThrough). -/
section
variable {l : Launch} {R : Room} {p : Program} {e : Env} {below : List Frame} {s : State} {sargs : Array Value} {y : MethodName} {len W9 : Nat}
theorem vx_backW {ws : List Cond} {rm : Room} {Pc : Array Value → State → Prop} {Qc : Array Value → State → Outcome → State → Prop} {XC : String → State → State → Prop} {mc ms : Nat} {free : Addr → Prop} {bytes : ByteArray} {maxL : Nat} {ret : Option FieldType} {hh : List (Nat × Nat × Nat × Nat)}
    (hM : vx_Met l y ws rm Pc Qc XC mc ms free) (hblind : FrameBlind Pc) (hrc : rm.cells = mc) (hrs : rm.slots = ms)
    (hframes : rm.frames + 1 ≤ R.frames) (hlocals : W9 + (maxL + 11) + rm.locals ≤ R.locals)
    (hws : ∀ w ∈ ws, ∀ a' U, s.WarmedH U.vm → w.before a' U = true) (hcode : Cond.codeWith y bytes maxL ret hh ∈ ws) (hinit : ∀ a' U, s.WarmedH U.vm → (Cond.initialized y.cls).before a' U = true) :
    vx_Back l R p e below s sargs y len W9 (PreOf R mc ms Pc) (PostOf Qc mc ms free) (vx_Post XC mc ms free) := by
  intro m meth c A g ig mk a X hg hsize hdg hW hn hp
  have h1 : (headSpec ws rm).pre.before a A.U = true := atoms_intro fun w hw => hws w hw _ _ X.warmed
  have h2 : (Cond.codeWith y bytes maxL ret hh).before a A.U = true := hws _ hcode _ _ X.warmed
  have h3 : (Cond.initialized y.cls).before a A.U = true := hinit _ _ X.warmed
  have h4 : A.cells + (headSpec ws rm).room.cells ≤ R.cells := by rw [show (headSpec ws rm).room.cells = mc from hrc]; exact hp.1
  have h5 : A.slots + (headSpec ws rm).room.slots ≤ R.slots := by rw [show (headSpec ws rm).room.slots = ms from hrs]; exact hp.2.1
  have hPc : Pc a (A.U.calling g mk a) := hblind _ _ _ _ hp.2.2
  obtain ⟨U, Ls, c0, s0⟩ := A
  dsimp only [Pt.U, Pt.locs, Pt.cells, Pt.slots] at h1 h2 h3 h4 h5 X hn hPc ⊢
  obtain ⟨m9, methY, cY, hn9, hmY, hcY, -, hlY, -⟩ := Cond.codeWith_spec h2
  cases Option.some.inj (hn9.symm.trans hn)
  obtain ⟨kY, hkY, -⟩ := className_of_methodNamed hn
  have hinitY : kY.init = .initialized := Cond.initialized_spec (findClass_of_methodNamed hn) hkY h3
  have h : At U g.method c below := by rw [hg]; exact X.here
  have hlocals9 : W9 + (maxL + 11) + (headSpec ws rm).room.locals ≤ R.locals := hlocals
  have happ : (headSpec ws rm).appliesLoose y e.platform (U.calling g mk a) = true :=
    Spec.appliesLoose_calling (g := g) h hdg hn hkY hinitY
      (X.room_calling (g := g) (R' := (headSpec ws rm).room) hsize hmY hcY hframes (by rw [hlY]; omega) h4 h5) h1
  obtain ⟨mid, hmid⟩ := h.above
  have hfr : (U.setTop g).frames = (.java g :: mid) ++ below := by rw [State.frames_setTop' g h.top, hmid]; rfl
  obtain ⟨o, s₂, hsteps, -, hend, hq⟩ := Steps.callFree hM p X.admits X.cas X.clock (acts := []) hfr happ hPc trivial
  have hq' : vx_Q Qc XC mc ms free a (U.calling g mk a) o s₂ := hq
  rw [State.frames_setTop' g h.top] at hend
  obtain ⟨g₀, hg0⟩ := Option.isSome_iff_exists.mp h.top
  obtain ⟨r, hr⟩ := State.topJava?_eq_some.mp hg0
  have hr' : (({ U with heap := s₂.heap, slotsUsed := s₂.slotsUsed } : State).setVm s₂.vm).frames = .java g₀ :: r := hr
  rcases hq' with ⟨hqc, L, hfe, hL⟩ | ⟨q, rfl, E, ce, L, hx, hce, hcv, hcl, hW₂, hsm, hL⟩
  · obtain ⟨⟨v, rfl⟩, hW₂, e2, q2, q3, q4, q5, q6⟩ := id hfe
    have e3 : s₂ = ({ (U.calling g mk a).setFrames s₂.frames with heap := s₂.heap, slotsUsed := s₂.slotsUsed } : State).setVm s₂.vm := by
      have : s₂ = ({ s₂ with vm := (U.calling g mk a).vm } : State).setVm s₂.vm := rfl
      rw [e2] at this
      exact this
    obtain ⟨c₂, i₂, len₂, hc₂, hd₂, hf₂⟩ := hend
    have hW' : U.WarmedH s₂.vm := hW₂
    have hcc : c₂ = c := by
      have h1 : s₂.code? g.method = U.code? g.method := by
        rw [State.code?_eq, State.code?_eq, hW'.alike.method?]
      exact Option.some.inj (hc₂.symm.trans (h1.trans h.code))
    subst hcc
    have hlen : len₂ = len := by rw [hdg] at hd₂; cases hd₂; rfl
    subst hlen
    have hs₂ : s₂ = (({ U with heap := s₂.heap, slotsUsed := s₂.slotsUsed } : State).setVm s₂.vm).setTop { g with pc := g.pc + len₂, stack := v.toList ++ g.stack } := by
      refine e3.trans ?_
      rw [hf₂, State.calling_eq h.top, State.setFrames_setFrames, State.setTop_of_frames _ hr', hr]
      rfl
    have hsame : U.sameButNew ({ U with heap := s₂.heap, slotsUsed := s₂.slotsUsed } : State) L mc ms := by
      refine ⟨?_, q2, q3, q4, q5, q6⟩
      obtain ⟨t, ht, -⟩ := State.frames_cons hr
      show ({ U with heap := s₂.heap, slotsUsed := s₂.slotsUsed } : State) = { U.setFrames U.frames with heap := s₂.heap, slotsUsed := s₂.slotsUsed }
      rw [State.setFrames_self ht]
    subst hg
    refine Or.inl ⟨v, ⟨(({ U with heap := s₂.heap, slotsUsed := s₂.slotsUsed } : State).setVm s₂.vm), Ls ++ L, c0 + mc, s0 + ms⟩,
      ⟨X.admits, X.cas, X.clock, X.frames, X.room, X.hears, X.method, X.code, (X.here.setHeapUsed s₂.heap s₂.slotsUsed).setVm hW'.alike, X.tail, State.WarmedH.trans X.warmed hW', X.limits, X.bytes, X.same.trans (hsame.setVm s.vm)⟩,
      ⟨g, mk, s₂, L, rfl, rfl, hqc, rfl, hL, rfl, rfl⟩, ?_⟩
    show Steps p.tables e below _ ((({ U with heap := s₂.heap, slotsUsed := s₂.slotsUsed } : State).setVm s₂.vm).setTop { g with pc := g.pc + len₂, stack := v.toList ++ g.stack })
    rw [← hs₂]
    exact hsteps
  · obtain ⟨e2, q2, q3, q4, q5, q6⟩ := id hsm
    have e3 : s₂ = ({ (U.calling g mk a).setFrames s₂.frames with heap := s₂.heap, slotsUsed := s₂.slotsUsed } : State).setVm s₂.vm := by
      have : s₂ = ({ s₂ with vm := (U.calling g mk a).vm } : State).setVm s₂.vm := rfl
      rw [e2] at this
      exact this
    have hf₂ : s₂.frames = .throwing q :: .java g :: U.frames.tail := hend
    have hW' : U.WarmedH s₂.vm := hW₂
    have hs₂ : s₂ = ((({ U with heap := s₂.heap, slotsUsed := s₂.slotsUsed } : State).setVm s₂.vm).setTop g).pushFrame (.throwing q) := by
      refine e3.trans ?_
      rw [hf₂, State.calling_eq h.top, State.setFrames_setFrames, State.pushFrame, State.frames_setTop _ hr', State.setTop_of_frames _ hr', State.setFrames_setFrames, hr]
      rfl
    have hsame : U.sameButNew ({ U with heap := s₂.heap, slotsUsed := s₂.slotsUsed } : State) L mc ms := by
      refine ⟨?_, q2, q3, q4, q5, q6⟩
      obtain ⟨t, ht, -⟩ := State.frames_cons hr
      show ({ U with heap := s₂.heap, slotsUsed := s₂.slotsUsed } : State) = { U.setFrames U.frames with heap := s₂.heap, slotsUsed := s₂.slotsUsed }
      rw [State.setFrames_self ht]
    subst hg
    refine Or.inr ⟨q, ⟨(({ U with heap := s₂.heap, slotsUsed := s₂.slotsUsed } : State).setVm s₂.vm), Ls ++ L, c0 + mc, s0 + ms⟩,
      ⟨X.admits, X.cas, X.clock, X.frames, X.room, X.hears, X.method, X.code, (X.here.setHeapUsed s₂.heap s₂.slotsUsed).setVm hW'.alike, X.tail, State.WarmedH.trans X.warmed hW', X.limits, X.bytes, X.same.trans (hsame.setVm s.vm)⟩,
      ⟨g, mk, s₂, L, E, ce, rfl, rfl, hx, hce, hcv, hcl, rfl, hL, rfl, rfl⟩, ?_⟩
    show Steps p.tables e below _ (((({ U with heap := s₂.heap, slotsUsed := s₂.slotsUsed } : State).setVm s₂.vm).setTop g).pushFrame (.throwing q))
    rw [← hs₂]
    exact hsteps
end
variable {p : Program} {l : Launch} {e : Env} {R : Room} {s : State} {m : MethodId} {args : Array Value} {below : List Frame} {meth : Method} {c : Code} {T : State} {H : Heap} {locs : List Loc} {cells slots : Nat}
theorem vx_callVX (X : Stand p l e R s m args below meth c T locs cells slots) (hexec : p.tables.exec = Jvm.exec) {own C : String} {index : Nat} {y : MethodName} {bytes : ByteArray} {maxL : Nat} {ret : Option FieldType} {hh : List (Nat × Nat × Nat × Nat)}
    (hown : s.vm.findClass own = some m.cls) (hlink : (Cond.methodLink own index y).before args s = true) (hinst : (Cond.instanceMethod y).before args s = true) (hsel : (Cond.selects C y y).before args s = true)
    (hcode : (Cond.codeWith y bytes maxL ret hh).before args s = true) (hy : y.cls ≠ "java/lang/invoke/MethodHandle" ∧ y.cls ≠ "java/lang/invoke/VarHandle")
    {W9 : Nat} {Pre : Pt → Array Value → Prop} {Post : Pt → Array Value → Option Value → Pt → Prop} {PostX : Pt → Array Value → Addr → Pt → Prop} (hK : vx_Back l R p e below s args y 3 W9 Pre Post PostX)
    {b : Addr} {cellB : Cell} (hcell : T.heap[b]? = some cellB) (hobj : cellB.vm.isStatics = false) (hcls : s.vm.findClass C = some cellB.cls)
    {g : JFrame} (hg : g.method = m) (hsize : g.locals.size = c.maxLocals) {argsL rest : List Value} (hlen : ∀ sig, parseMethodDescriptor y.desc = some sig → argsL.length = sig.parameters.length)
    (hstack : g.stack = argsL.reverse ++ .ref b :: rest) (hW : 2 * g.monitorRoom + (rest.map fun v => v.category).sum ≤ W9) (hdg : decode c.code g.pc = .ok (.invokevirtual index, 3))
    (hpre : ∀ vm₁, s.WarmedH vm₁ → Pre ⟨T.setVm vm₁, locs, cells, slots⟩ (Value.ref b :: argsL).toArray) :
    (∃ (v : Option Value) (vm₁ : Vm) (B : Pt), s.WarmedH vm₁ ∧ Stand p l e R s m args below meth c B.U B.locs B.cells B.slots ∧ Post ⟨T.setVm vm₁, locs, cells, slots⟩ (Value.ref b :: argsL).toArray v B ∧
      ∀ target, Steps p.tables e below (B.U.setTop { g with pc := g.pc + 3, stack := v.toList ++ rest }) target → Steps p.tables e below (T.setTop g) target) ∨
    (∃ (q : Addr) (vm₁ : Vm) (B : Pt), s.WarmedH vm₁ ∧ Stand p l e R s m args below meth c B.U B.locs B.cells B.slots ∧ PostX ⟨T.setVm vm₁, locs, cells, slots⟩ (Value.ref b :: argsL).toArray q B ∧
      Steps p.tables e below (T.setTop g) ((B.U.setTop { g with stack := rest }).pushFrame (.throwing q))) := by
  obtain ⟨mk, methM, hnamed, hmethM, hstM, habM⟩ := Cond.instanceMethod_spec hinst
  obtain ⟨m8, methM', cM, hn8, hmethM', -, -, -, -, -, -, hsigM⟩ := Cond.codeWith_spec hcode
  cases Option.some.inj (hn8.symm.trans hnamed)
  cases hmethM.symm.trans hmethM'
  obtain ⟨c2, r2, m2, q1, q2, q3, q4, kP, hkP, hkPi⟩ := Cond.selects_spec hsel
  cases hcls.symm.trans q1
  cases (State.methodFound?_of_named hnamed hy).symm.trans q2
  cases hnamed.symm.trans q3
  have hselP : selectMethod e.platform s.vm cellB.cls mk = .method mk := by rw [Launch.admits_selectMethod X.admits]; exact q4
  obtain ⟨vm₁, X₁, hstep₁⟩ := X.invokevirtual hexec hown hlink hnamed hmethM hstM hkP hkPi hy (a := b) (cell := cellB) hcell
    (fun z h => by rw [h] at hobj; cases hobj) hselP hmethM habM hkP hkPi (g := g) hg (argsL := argsL) (rest := rest) (hlen _ hsigM) hstack hdg
  rcases hK m meth c ⟨T.setVm vm₁, locs, cells, slots⟩ { g with stack := rest } (.invokevirtual index) mk (Value.ref b :: argsL).toArray X₁ hg hsize hdg hW (X₁.named hnamed) (hpre vm₁ X₁.warmed) with ⟨v, B, X', hpost, hsteps⟩ | ⟨q, B, X', hpost, hsteps⟩
  · exact Or.inl ⟨v, vm₁, B, X₁.warmed, X', hpost, fun target h => hstep₁ _ fun acts => by rw [doInvoke_state]; exact hsteps.trans h⟩
  · exact Or.inr ⟨q, vm₁, B, X₁.warmed, X', hpost, hstep₁ _ fun acts => by rw [doInvoke_state]; exact hsteps⟩
theorem vx_callSX (X : Stand p l e R s m args below meth c T locs cells slots) (hexec : p.tables.exec = Jvm.exec) {own : String} {index : Nat} {y : MethodName} {bytes : ByteArray} {maxL : Nat} {ret : Option FieldType} {hh : List (Nat × Nat × Nat × Nat)}
    (hown : s.vm.findClass own = some m.cls) (hlink : (Cond.methodLink own index y).before args s = true) (hstat : (Cond.static y).before args s = true) (hinit : (Cond.initialized y.cls).before args s = true)
    (hcode : (Cond.codeWith y bytes maxL ret hh).before args s = true) (hy : y.cls ≠ "java/lang/invoke/MethodHandle" ∧ y.cls ≠ "java/lang/invoke/VarHandle")
    {W9 : Nat} {Pre : Pt → Array Value → Prop} {Post : Pt → Array Value → Option Value → Pt → Prop} {PostX : Pt → Array Value → Addr → Pt → Prop} (hK : vx_Back l R p e below s args y 3 W9 Pre Post PostX)
    {g : JFrame} (hg : g.method = m) (hsize : g.locals.size = c.maxLocals) {argsL rest : List Value} (hlen : ∀ sig, parseMethodDescriptor y.desc = some sig → argsL.length = sig.parameters.length)
    (hstack : g.stack = argsL.reverse ++ rest) (hW : 2 * g.monitorRoom + (rest.map fun v => v.category).sum ≤ W9) (hdg : decode c.code g.pc = .ok (.invokestatic index, 3))
    (hpre : ∀ vm₁, s.WarmedH vm₁ → Pre ⟨T.setVm vm₁, locs, cells, slots⟩ argsL.toArray) :
    (∃ (v : Option Value) (vm₁ : Vm) (B : Pt), s.WarmedH vm₁ ∧ Stand p l e R s m args below meth c B.U B.locs B.cells B.slots ∧ Post ⟨T.setVm vm₁, locs, cells, slots⟩ argsL.toArray v B ∧
      ∀ target, Steps p.tables e below (B.U.setTop { g with pc := g.pc + 3, stack := v.toList ++ rest }) target → Steps p.tables e below (T.setTop g) target) ∨
    (∃ (q : Addr) (vm₁ : Vm) (B : Pt), s.WarmedH vm₁ ∧ Stand p l e R s m args below meth c B.U B.locs B.cells B.slots ∧ PostX ⟨T.setVm vm₁, locs, cells, slots⟩ argsL.toArray q B ∧
      Steps p.tables e below (T.setTop g) ((B.U.setTop { g with stack := rest }).pushFrame (.throwing q))) := by
  obtain ⟨mk, methM, cM, hnamed, hmethM, -, -, -, -, -, -, hsigM⟩ := Cond.codeWith_spec hcode
  have hstatic : methM.isStatic = true := Cond.static_spec hnamed hmethM hstat
  obtain ⟨kP, hkP, -⟩ := className_of_methodNamed hnamed
  have hinitP : kP.init = .initialized := Cond.initialized_spec (findClass_of_methodNamed hnamed) hkP hinit
  obtain ⟨vm₁, X₁, hstep₁⟩ := X.invokestatic hexec hown hlink hnamed hmethM hstatic hkP hinitP hy (g := g) hg (argsL := argsL) (rest := rest) (hlen _ hsigM) hstack hdg
  rcases hK m meth c ⟨T.setVm vm₁, locs, cells, slots⟩ { g with stack := rest } (.invokestatic index) mk argsL.toArray X₁ hg hsize hdg hW (X₁.named hnamed) (hpre vm₁ X₁.warmed) with ⟨v, B, X', hpost, hsteps⟩ | ⟨q, B, X', hpost, hsteps⟩
  · exact Or.inl ⟨v, vm₁, B, X₁.warmed, X', hpost, fun target h => hstep₁ _ fun acts => by rw [doInvoke_state]; exact hsteps.trans h⟩
  · exact Or.inr ⟨q, vm₁, B, X₁.warmed, X', hpost, hstep₁ _ fun acts => by rw [doInvoke_state]; exact hsteps⟩
theorem vx_callVW (X : Stand p l e R s m args below meth c T locs cells slots) (hexec : p.tables.exec = Jvm.exec) {own C : String} {index : Nat} {y : MethodName} {bytes : ByteArray} {maxL : Nat} {ret : Option FieldType} {hh : List (Nat × Nat × Nat × Nat)}
    (hown : s.vm.findClass own = some m.cls) (hlink : (Cond.methodLink own index y).before args s = true) (hinst : (Cond.instanceMethod y).before args s = true) (hsel : (Cond.selects C y y).before args s = true)
    (hcode : (Cond.codeWith y bytes maxL ret hh).before args s = true) (hy : y.cls ≠ "java/lang/invoke/MethodHandle" ∧ y.cls ≠ "java/lang/invoke/VarHandle")
    {W9 : Nat} {Pre : Pt → Array Value → Prop} {Post : Pt → Array Value → Option Value → Pt → Prop} (hK : Back l R p e below s args y 3 W9 Pre Post)
    {b : Addr} {cellB : Cell} (hcell : T.heap[b]? = some cellB) (hobj : cellB.vm.isStatics = false) (hcls : s.vm.findClass C = some cellB.cls)
    {g : JFrame} (hg : g.method = m) (hsize : g.locals.size = c.maxLocals) {argsL rest : List Value} (hlen : ∀ sig, parseMethodDescriptor y.desc = some sig → argsL.length = sig.parameters.length)
    (hstack : g.stack = argsL.reverse ++ .ref b :: rest) (hW : 2 * g.monitorRoom + (rest.map fun v => v.category).sum ≤ W9) (hdg : decode c.code g.pc = .ok (.invokevirtual index, 3))
    (hpre : ∀ vm₁, s.WarmedH vm₁ → Pre ⟨T.setVm vm₁, locs, cells, slots⟩ (Value.ref b :: argsL).toArray) :
    ∃ (v : Option Value) (vm₁ : Vm) (B : Pt), s.WarmedH vm₁ ∧ Stand p l e R s m args below meth c B.U B.locs B.cells B.slots ∧ Post ⟨T.setVm vm₁, locs, cells, slots⟩ (Value.ref b :: argsL).toArray v B ∧
      ∀ target, Steps p.tables e below (B.U.setTop { g with pc := g.pc + 3, stack := v.toList ++ rest }) target → Steps p.tables e below (T.setTop g) target := by
  obtain ⟨mk, methM, hnamed, hmethM, hstM, habM⟩ := Cond.instanceMethod_spec hinst
  obtain ⟨m8, methM', cM, hn8, hmethM', -, -, -, -, -, -, hsigM⟩ := Cond.codeWith_spec hcode
  cases Option.some.inj (hn8.symm.trans hnamed)
  cases hmethM.symm.trans hmethM'
  obtain ⟨c2, r2, m2, q1, q2, q3, q4, kP, hkP, hkPi⟩ := Cond.selects_spec hsel
  cases hcls.symm.trans q1
  cases (State.methodFound?_of_named hnamed hy).symm.trans q2
  cases hnamed.symm.trans q3
  have hselP : selectMethod e.platform s.vm cellB.cls mk = .method mk := by rw [Launch.admits_selectMethod X.admits]; exact q4
  obtain ⟨vm₁, X₁, hstep₁⟩ := X.invokevirtual hexec hown hlink hnamed hmethM hstM hkP hkPi hy (a := b) (cell := cellB) hcell
    (fun z h => by rw [h] at hobj; cases hobj) hselP hmethM habM hkP hkPi (g := g) hg (argsL := argsL) (rest := rest) (hlen _ hsigM) hstack hdg
  obtain ⟨v, B, X', hpost, hsteps⟩ := hK m meth c ⟨T.setVm vm₁, locs, cells, slots⟩ { g with stack := rest } (.invokevirtual index) mk (Value.ref b :: argsL).toArray X₁ hg hsize hdg hW (X₁.named hnamed) (hpre vm₁ X₁.warmed)
  exact ⟨v, vm₁, B, X₁.warmed, X', hpost, fun target h => hstep₁ _ fun acts => by rw [doInvoke_state]; exact hsteps.trans h⟩
abbrev vx_CVW (R : Room) (s : State) (args : Array Value) (own C : String) (index : Nat) (y : MethodName) (bytes : ByteArray) (maxL : Nat) (ret : Option FieldType) (hh : List (Nat × Nat × Nat × Nat)) (ws : List Cond) (rm : Room) (mc ms n : Nat) : Prop :=
  (rm.cells = mc ∧ rm.slots = ms ∧ rm.frames + 1 ≤ R.frames ∧ 8 + (maxL + 11) + rm.locals ≤ R.locals ∧ (∀ w ∈ ws, ∀ (a' : Array Value) (U : State), s.WarmedH U.vm → w.before a' U = true) ∧ Cond.codeWith y bytes maxL ret hh ∈ ws) ∧
  (Cond.codeWith y bytes maxL ret hh).before args s = true ∧ (Cond.initialized y.cls).before args s = true ∧ (y.cls ≠ "java/lang/invoke/MethodHandle" ∧ y.cls ≠ "java/lang/invoke/VarHandle") ∧
  (∀ sig, parseMethodDescriptor y.desc = some sig → n = sig.parameters.length) ∧ (Cond.methodLink own index y).before args s = true ∧ (Cond.instanceMethod y).before args s = true ∧ (Cond.selects C y y).before args s = true
theorem vx_cwVW {own C : String} {index maxL mc ms : Nat} {y : MethodName} {bytes : ByteArray} {ret : Option FieldType} {hh : List (Nat × Nat × Nat × Nat)} {Ts ws ws' : List Cond} {rm : Room} (n : Nat) (ht : ∀ w ∈ Ts, w.before args s = true) (hT : GoodIn Ts (wsV own index C y ws)) (hw : ws = Cond.codeWith y bytes maxL ret hh :: ws') (hrc : rm.cells = mc) (hrs : rm.slots = ms)
    (hd : y.cls = C ∧ y.cls ≠ "java/lang/invoke/MethodHandle" ∧ y.cls ≠ "java/lang/invoke/VarHandle" ∧ (parseMethodDescriptor y.desc).map (fun d => d.parameters.length) = some n) (hR : rm.frames + 1 ≤ R.frames ∧ 8 + (maxL + 11) + rm.locals ≤ R.locals) :
    vx_CVW R s args own C index y bytes maxL ret hh ws rm mc ms n := by
  obtain ⟨hC, hd⟩ := hd
  subst hC
  have ok : ∀ w ∈ wsV own index y.cls y ws, w.before args s = true := fun w h => ht w (hT w h).1
  have hG : GoodIn Ts ws := fun w h => hT w (by unfold wsV; exact List.mem_append_right _ h)
  have hc : Cond.codeWith y bytes maxL ret hh ∈ ws := by rw [hw]; exact List.mem_cons_self
  refine ⟨⟨hrc, hrs, hR.1, hR.2, pay_in ht hG, hc⟩, ht _ (hG _ hc).1, ok _ (by simp [wsV]), ⟨hd.1, hd.2.1⟩, fun sig h => ?_, ok _ (by simp [wsV]), ok _ (by simp [wsV]), ok _ (by simp [wsV])⟩
  have h2 := hd.2.2
  rw [h] at h2
  exact (Option.some.inj h2).symm
theorem vx_runVW {y : MethodName} {bytes cc : ByteArray} {maxL nL mc ms n index : Nat} {ret : Option FieldType} {hh : List (Nat × Nat × Nat × Nat)} {ws : List Cond} {rm : Room} {Pc : Array Value → State → Prop} {Qc : Array Value → State → Outcome → State → Prop} {free : Addr → Prop} {Ts : List Cond} {own C : String} {b : Addr} {As rest : List Value} {g : JFrame}
    (S : CallFix p m c cc nL s args Ts own) (hM : Met l y ws rm Pc Qc mc ms free) (cw : vx_CVW R s args own C index y bytes maxL ret hh ws rm mc ms n) (hp : PreV s H C b Pc As)
    (hg : g.method = m) (hn : As.length = n) (hsize : g.locals.size = nL) (hstack : g.stack = As.reverse ++ .ref b :: rest) (hW : 2 * g.monitorRoom + (rest.map fun v => v.category).sum ≤ 8) (hdg : decode cc g.pc = .ok (.invokevirtual index, 3)) (hf : cells + mc ≤ R.cells ∧ slots + ms ≤ R.slots) :
    va_Run p l e R s m args below meth c H locs cells slots mc ms g rest (Qc (Value.ref b :: As).toArray) free := by
  obtain ⟨⟨hrc, hrs, hfr, hlo, hws, hcw⟩, hcode, hini, hy, hlen, hl, hin, hse⟩ := cw
  have hK : Back l R p e below s args y 3 8 (PreOf R mc ms Pc) (PostOf Qc mc ms free) := va_backW (hh := hh) (bytes := bytes) (maxL := maxL) (ret := ret) hM hp.1 hrc hrs hfr hlo hws hcw (fun a' U hW => word_at hW (Or.inl (by first | rfl | simp [Cond.onTables, Cond.keeps, Cond.steady])) hini)
  obtain ⟨hx, hb, hml, ho, -⟩ := S
  obtain ⟨-, ⟨cellB, hcB, hoB, hclB⟩, hPc⟩ := hp
  intro T hT X
  obtain ⟨v, vm₁, ⟨U', l2, c2, s2⟩, hW₁, X', ⟨g', mk, t, L, e1, e2, hq, h1, hL, h2, h3⟩, st⟩ := vx_callVW X hx (C := C) (hh := hh) (bytes := bytes) (maxL := maxL) (ret := ret) ho hl hin hse hcode hy hK (by rw [hT]; exact hcB) hoB hclB hg (hsize.trans hml.symm) (argsL := As) (rest := rest) (fun sig h => hn.trans (hlen sig h)) hstack hW (by rw [hb]; exact hdg)
    (fun vm₁ hW₁ => ⟨hf.1, hf.2, hPc (T.setVm vm₁) hT hW₁⟩)
  dsimp only [Pt.U, Pt.locs, Pt.cells, Pt.slots] at X' e1 e2 h1 h2 h3 st
  subst h1; subst h2; subst h3
  exact ⟨v, (T.setVm vm₁).calling g' mk (Value.ref b :: As).toArray, t, U', L, hT, X', hL, e1, e2, hq, st⟩
section
variable {y : MethodName} {bytes cc : ByteArray} {maxL nL mc ms n index : Nat} {ret : Option FieldType} {ws : List Cond} {rm : Room} {Pc : Array Value → State → Prop} {Qc : Array Value → State → Outcome → State → Prop} {XC : String → State → State → Prop} {free : Addr → Prop} {Ts : List Cond} {own C : String} {b : Addr} {As rest : List Value} {g : JFrame}
theorem vx_runVX {hh : List (Nat × Nat × Nat × Nat)} (S : CallFix p m c cc nL s args Ts own) (hM : vx_Met l y ws rm Pc Qc XC mc ms free) (cw : vx_CVW R s args own C index y bytes maxL ret hh ws rm mc ms n) (hp : PreV s H C b Pc As)
    (hg : g.method = m) (hn : As.length = n) (hsize : g.locals.size = nL) (hstack : g.stack = As.reverse ++ .ref b :: rest) (hW : 2 * g.monitorRoom + (rest.map fun v => v.category).sum ≤ 8) (hdg : decode cc g.pc = .ok (.invokevirtual index, 3)) (hf : cells + mc ≤ R.cells ∧ slots + ms ≤ R.slots) :
    vx_Run p l e R s m args below meth c H locs cells slots mc ms g rest (Qc (Value.ref b :: As).toArray) XC free := by
  obtain ⟨⟨hrc, hrs, hfr, hlo, hws, hcw⟩, hcode, hini, hy, hlen, hl, hin, hse⟩ := cw
  have hK : vx_Back l R p e below s args y 3 8 (PreOf R mc ms Pc) (PostOf Qc mc ms free) (vx_Post XC mc ms free) := vx_backW (hh := hh) (bytes := bytes) (maxL := maxL) (ret := ret) hM hp.1 hrc hrs hfr hlo hws hcw (fun a' U hW => word_at hW (Or.inl (by first | rfl | simp [Cond.onTables, Cond.keeps, Cond.steady])) hini)
  obtain ⟨hx, hb, hml, ho, -⟩ := S
  obtain ⟨-, ⟨cellB, hcB, hoB, hclB⟩, hPc⟩ := hp
  intro T hT X
  rcases vx_callVX X hx (C := C) (hh := hh) (bytes := bytes) (maxL := maxL) (ret := ret) ho hl hin hse hcode hy hK (by rw [hT]; exact hcB) hoB hclB hg (hsize.trans hml.symm) (argsL := As) (rest := rest) (fun sig h => hn.trans (hlen sig h)) hstack hW (by rw [hb]; exact hdg)
    (fun vm₁ hW₁ => ⟨hf.1, hf.2, hPc (T.setVm vm₁) hT hW₁⟩) with ⟨v, vm₁, ⟨U', l2, c2, s2⟩, hW₁, X', ⟨g', mk, t, L, e1, e2, hq, h1, hL, h2, h3⟩, st⟩ | ⟨q, vm₁, ⟨U', l2, c2, s2⟩, hW₁, X', ⟨g', mk, t, L, E, ce, e1, e2, hq, hce, hcv, hcl, h1, hL, h2, h3⟩, st⟩
  · dsimp only [Pt.U, Pt.locs, Pt.cells, Pt.slots] at X' e1 e2 h1 h2 h3 st
    subst h1; subst h2; subst h3
    exact Or.inl ⟨v, (T.setVm vm₁).calling g' mk (Value.ref b :: As).toArray, t, U', L, hT, X', hL, e1, e2, hq, st⟩
  · dsimp only [Pt.U, Pt.locs, Pt.cells, Pt.slots] at X' e1 e2 h1 h2 h3 st hcl
    subst h1; subst h2; subst h3
    exact Or.inr ⟨q, (T.setVm vm₁).calling g' mk (Value.ref b :: As).toArray, t, U', L, E, ce, hT, X', hL, e1, e2, hq, hce, hcv, vx_cls hW₁ hcl, st⟩
theorem vx_runSX {hh : List (Nat × Nat × Nat × Nat)} (S : CallFix p m c cc nL s args Ts own) (hM : vx_Met l y ws rm Pc Qc XC mc ms free) (cw : vx_CSW R s args own index y bytes maxL ret hh ws rm mc ms n) (hp : PreS s H Pc As)
    (hg : g.method = m) (hn : As.length = n) (hsize : g.locals.size = nL) (hstack : g.stack = As.reverse ++ rest) (hW : 2 * g.monitorRoom + (rest.map fun v => v.category).sum ≤ 8) (hdg : decode cc g.pc = .ok (.invokestatic index, 3)) (hf : cells + mc ≤ R.cells ∧ slots + ms ≤ R.slots) :
    vx_Run p l e R s m args below meth c H locs cells slots mc ms g rest (Qc As.toArray) XC free := by
  obtain ⟨⟨hrc, hrs, hfr, hlo, hws, hcw⟩, hcode, hini, hy, hlen, hl, hstt⟩ := cw
  have hK : vx_Back l R p e below s args y 3 8 (PreOf R mc ms Pc) (PostOf Qc mc ms free) (vx_Post XC mc ms free) := vx_backW (hh := hh) (bytes := bytes) (maxL := maxL) (ret := ret) hM hp.1 hrc hrs hfr hlo hws hcw (fun a' U hW => word_at hW (Or.inl (by first | rfl | simp [Cond.onTables, Cond.keeps, Cond.steady])) hini)
  obtain ⟨hx, hb, hml, ho, -⟩ := S
  intro T hT X
  rcases vx_callSX X hx (hh := hh) (bytes := bytes) (maxL := maxL) (ret := ret) ho hl hstt hini hcode hy hK hg (hsize.trans hml.symm) (argsL := As) (rest := rest) (fun sig h => hn.trans (hlen sig h)) hstack hW (by rw [hb]; exact hdg)
    (fun vm₁ hW₁ => ⟨hf.1, hf.2, hp.2 (T.setVm vm₁) hT hW₁⟩) with ⟨v, vm₁, ⟨U', l2, c2, s2⟩, hW₁, X', ⟨g', mk, t, L, e1, e2, hq, h1, hL, h2, h3⟩, st⟩ | ⟨q, vm₁, ⟨U', l2, c2, s2⟩, hW₁, X', ⟨g', mk, t, L, E, ce, e1, e2, hq, hce, hcv, hcl, h1, hL, h2, h3⟩, st⟩
  · dsimp only [Pt.U, Pt.locs, Pt.cells, Pt.slots] at X' e1 e2 h1 h2 h3 st
    subst h1; subst h2; subst h3
    exact Or.inl ⟨v, (T.setVm vm₁).calling g' mk As.toArray, t, U', L, hT, X', hL, e1, e2, hq, st⟩
  · dsimp only [Pt.U, Pt.locs, Pt.cells, Pt.slots] at X' e1 e2 h1 h2 h3 st hcl
    subst h1; subst h2; subst h3
    exact Or.inr ⟨q, (T.setVm vm₁).calling g' mk As.toArray, t, U', L, E, ce, hT, X', hL, e1, e2, hq, hce, hcv, vx_cls hW₁ hcl, st⟩
end
end VXH
theorem vx_ofWH {l : Launch} {y : MethodName} {ws ws' : List Cond} {rm : Room} {Pc : Array Value → State → Prop} {Qc : Array Value → State → Outcome → State → Prop} {XC : String → State → State → Prop} {mc ms : Nat} {free : Addr → Prop} {cc : ByteArray} {maxL : Nat} {ret : Option FieldType} {hh : List (Nat × Nat × Nat × Nat)}
    (hy : plainName y.cls = true) (hw : ws = Cond.codeWith y cc maxL ret hh :: ws')
    (body : ∀ p e s m args below meth c s₁, BodyLoose p l y (headSpec ws rm) cc maxL ret e s m args below meth c s₁ → c.maxLocals = maxL → Pc args s →
      W p l e (headSpec ws rm).room s m args below meth c s.heap [] 0 0 (vx_MQ below Qc XC args s mc ms free) (entryFrame m args maxL)) : vx_Met l y ws rm Pc Qc XC mc ms free := by
  refine MetFree.of_bodyS (code := cc) (maxLocals := maxL) (ret := ret) hy ?_ ?_
  · intro args s m h hn
    obtain ⟨m9, meth, c, hn9, h1, h2, h3, h4, -, h5, h6, -⟩ := Cond.codeWith_spec (atoms_spec (ws := ws) h _ (by rw [hw]; exact List.mem_cons_self))
    cases hn.symm.trans hn9
    exact ⟨meth, c, h1, h2, h3, h4, h5, h6⟩
  · intro p e s m args below meth c s₁ B hml hP _
    have hh0 : s₁.heap = s.heap := by rw [B.state]; rfl
    obtain ⟨t, a1, o, b1, b2, b3⟩ := body p e s m args below meth c s₁ B hml hP s₁ hh0 (Stand.of_body B)
    exact ⟨t, o, a1, b1, b2, b3⟩
/-! ===== END ===== -/
end
section
def RX0 : String := "Relationrows$Bits"
def TX0 : u_T := fun k => match k with
  | 0 => ("Relationrows$Bits", "low", "J", false)
  | _ => ("Relationrows$Bits", "high", "J", false)
def tyX0 : Nat → FieldType := fun k => match k with
  | 0 => .long
  | _ => .long
abbrev wsX00 : List Cond := u_ws RX0 TX0 2
theorem nmX0 : ∀ a, a < 2 → ∀ b, b < 2 → a ≠ b → (TX0 a).2.1 ≠ (TX0 b).2.1 := by decide +kernel
theorem tyX0_ok : ∀ k, k < 2 → parseFieldDescriptor (TX0 k).2.2.1 = some (tyX0 k) := by decide +kernel
abbrev cX0_init : ByteArray := prog_2_method_1_code
def yX0_init : MethodName := ⟨RX0, "<init>", "()V"⟩
abbrev cX0_below : ByteArray := prog_2_method_2_code
def yX0_below : MethodName := ⟨RX0, "below", "(I)J"⟩
abbrev cX0_lowRange : ByteArray := prog_2_method_3_code
def yX0_lowRange : MethodName := ⟨RX0, "lowRange", "(II)J"⟩
abbrev cX0_highRange : ByteArray := prog_2_method_4_code
def yX0_highRange : MethodName := ⟨RX0, "highRange", "(II)J"⟩
abbrev cX0_clear : ByteArray := prog_2_method_5_code
def yX0_clear : MethodName := ⟨RX0, "clear", "()V"⟩
abbrev cX0_become : ByteArray := prog_2_method_6_code
def yX0_become : MethodName := ⟨RX0, "become", "(LRelationrows$Bits;)V"⟩
abbrev cX0_unite : ByteArray := prog_2_method_7_code
def yX0_unite : MethodName := ⟨RX0, "unite", "(LRelationrows$Bits;)V"⟩
abbrev cX0_remove : ByteArray := prog_2_method_8_code
def yX0_remove : MethodName := ⟨RX0, "remove", "(LRelationrows$Bits;)V"⟩
abbrev cX0_putRange : ByteArray := prog_2_method_9_code
def yX0_putRange : MethodName := ⟨RX0, "putRange", "(IIZ)V"⟩
abbrev cX0_invert : ByteArray := prog_2_method_10_code
def yX0_invert : MethodName := ⟨RX0, "invert", "(II)V"⟩
abbrev cX0_holds : ByteArray := prog_2_method_11_code
def yX0_holds : MethodName := ⟨RX0, "holds", "(I)Z"⟩
abbrev cX0_isEmpty : ByteArray := prog_2_method_12_code
def yX0_isEmpty : MethodName := ⟨RX0, "isEmpty", "()Z"⟩
abbrev cX0_meets : ByteArray := prog_2_method_13_code
def yX0_meets : MethodName := ⟨RX0, "meets", "(LRelationrows$Bits;)Z"⟩
abbrev cX0_isLike : ByteArray := prog_2_method_14_code
def yX0_isLike : MethodName := ⟨RX0, "isLike", "(LRelationrows$Bits;)Z"⟩
abbrev cX0_size : ByteArray := prog_2_method_15_code
def yX0_size : MethodName := ⟨RX0, "size", "()I"⟩
abbrev cX0_leastFrom : ByteArray := prog_2_method_16_code
def yX0_leastFrom : MethodName := ⟨RX0, "leastFrom", "(I)I"⟩
abbrev cX0_placeOfLeast : ByteArray := prog_2_method_17_code
def yX0_placeOfLeast : MethodName := ⟨RX0, "placeOfLeast", "(J)I"⟩
abbrev cX0_greatestTo : ByteArray := prog_2_method_18_code
def yX0_greatestTo : MethodName := ⟨RX0, "greatestTo", "(I)I"⟩
def RX1 : String := "Relationrows$Relation"
def TX1 : u_T := fun k => match k with
  | 0 => ("Relationrows$Relation", "elements", "I", false)
  | 1 => ("Relationrows$Relation", "low", "[J", true)
  | 2 => ("Relationrows$Relation", "high", "[J", true)
  | _ => ("Relationrows$Relation", "row", "LRelationrows$Bits;", true)
def tyX1 : Nat → FieldType := fun k => match k with
  | 0 => .int
  | 1 => .array .long
  | 2 => .array .long
  | _ => .object "Relationrows$Bits"
abbrev wsX10 : List Cond := u_ws RX1 TX1 4
theorem nmX1 : ∀ a, a < 4 → ∀ b, b < 4 → a ≠ b → (TX1 a).2.1 ≠ (TX1 b).2.1 := by decide +kernel
theorem tyX1_ok : ∀ k, k < 4 → parseFieldDescriptor (TX1 k).2.2.1 = some (tyX1 k) := by decide +kernel
abbrev cX1_init : ByteArray := prog_3_method_1_code
def yX1_init : MethodName := ⟨RX1, "<init>", "()V"⟩
abbrev cX1_restart : ByteArray := prog_3_method_2_code
def yX1_restart : MethodName := ⟨RX1, "restart", "(I)V"⟩
abbrev cX1_elementsInside : ByteArray := prog_3_method_3_code
def yX1_elementsInside : MethodName := ⟨RX1, "elementsInside", "()I"⟩
abbrev cX1_lowAt : ByteArray := prog_3_method_4_code
def yX1_lowAt : MethodName := ⟨RX1, "lowAt", "(I)J"⟩
abbrev cX1_highAt : ByteArray := prog_3_method_5_code
def yX1_highAt : MethodName := ⟨RX1, "highAt", "(I)J"⟩
abbrev cX1_rowInto : ByteArray := prog_3_method_6_code
def yX1_rowInto : MethodName := ⟨RX1, "rowInto", "(ILRelationrows$Bits;)V"⟩
abbrev cX1_putRow : ByteArray := prog_3_method_7_code
def yX1_putRow : MethodName := ⟨RX1, "putRow", "(ILRelationrows$Bits;)V"⟩
abbrev cX1_putWords : ByteArray := prog_3_method_8_code
def yX1_putWords : MethodName := ⟨RX1, "putWords", "(IJJ)V"⟩
abbrev cX1_holds : ByteArray := prog_3_method_9_code
def yX1_holds : MethodName := ⟨RX1, "holds", "(II)Z"⟩
abbrev cX1_join : ByteArray := prog_3_method_10_code
def yX1_join : MethodName := ⟨RX1, "join", "(II)V"⟩
abbrev cX1_joinOwn : ByteArray := prog_3_method_11_code
def yX1_joinOwn : MethodName := ⟨RX1, "joinOwn", "()V"⟩
abbrev cX1_sizeOf : ByteArray := prog_3_method_12_code
def yX1_sizeOf : MethodName := ⟨RX1, "sizeOf", "(I)I"⟩
abbrev cX1_pairs : ByteArray := prog_3_method_13_code
def yX1_pairs : MethodName := ⟨RX1, "pairs", "()I"⟩
abbrev cX1_ownPairs : ByteArray := prog_3_method_14_code
def yX1_ownPairs : MethodName := ⟨RX1, "ownPairs", "()I"⟩
abbrev cX1_take : ByteArray := prog_3_method_15_code
def yX1_take : MethodName := ⟨RX1, "take", "(LRelationrows$Relation;)V"⟩
abbrev cX1_mix : ByteArray := prog_3_method_16_code
def yX1_mix : MethodName := ⟨RX1, "mix", "(LRelationrows$Relation;I)V"⟩
abbrev cX1_mixed : ByteArray := prog_3_method_17_code
def yX1_mixed : MethodName := ⟨RX1, "mixed", "(JJI)J"⟩
abbrev cX1_product : ByteArray := prog_3_method_18_code
def yX1_product : MethodName := ⟨RX1, "product", "(LRelationrows$Relation;LRelationrows$Relation;)V"⟩
abbrev cX1_takeCovers : ByteArray := prog_3_method_19_code
def yX1_takeCovers : MethodName := ⟨RX1, "takeCovers", "(LRelationrows$Relation;)V"⟩
abbrev cX1_reverse : ByteArray := prog_3_method_20_code
def yX1_reverse : MethodName := ⟨RX1, "reverse", "()V"⟩
abbrev cX1_swapPair : ByteArray := prog_3_method_21_code
def yX1_swapPair : MethodName := ⟨RX1, "swapPair", "(II)V"⟩
abbrev cX1_invert : ByteArray := prog_3_method_22_code
def yX1_invert : MethodName := ⟨RX1, "invert", "()V"⟩
abbrev cX1_closeUp : ByteArray := prog_3_method_23_code
def yX1_closeUp : MethodName := ⟨RX1, "closeUp", "()V"⟩
abbrev cX1_imageOf : ByteArray := prog_3_method_24_code
def yX1_imageOf : MethodName := ⟨RX1, "imageOf", "(LRelationrows$Bits;LRelationrows$Bits;)V"⟩
abbrev cX1_hasAllOf : ByteArray := prog_3_method_25_code
def yX1_hasAllOf : MethodName := ⟨RX1, "hasAllOf", "(LRelationrows$Relation;)Z"⟩
abbrev cX1_isLike : ByteArray := prog_3_method_26_code
def yX1_isLike : MethodName := ⟨RX1, "isLike", "(LRelationrows$Relation;)Z"⟩
abbrev cX1_isTransitive : ByteArray := prog_3_method_27_code
def yX1_isTransitive : MethodName := ⟨RX1, "isTransitive", "()Z"⟩
abbrev cX1_everyTwoAre : ByteArray := prog_3_method_28_code
def yX1_everyTwoAre : MethodName := ⟨RX1, "everyTwoAre", "(I)Z"⟩
abbrev cX1_fits : ByteArray := prog_3_method_29_code
def yX1_fits : MethodName := ⟨RX1, "fits", "(IZZ)Z"⟩
abbrev cX1_inOneClass : ByteArray := prog_3_method_30_code
def yX1_inOneClass : MethodName := ⟨RX1, "inOneClass", "(II)Z"⟩
abbrev cX1_leastOfClass : ByteArray := prog_3_method_31_code
def yX1_leastOfClass : MethodName := ⟨RX1, "leastOfClass", "(I)I"⟩
abbrev cX1_classesInside : ByteArray := prog_3_method_32_code
def yX1_classesInside : MethodName := ⟨RX1, "classesInside", "()I"⟩
def RX2 : String := "Relationrows$Theorem"
def TX2 : u_T := fun k => match k with
  | 0 => ("Relationrows$Theorem", "walks", "LRelationrows$Walks;", true)
  | 1 => ("Relationrows$Theorem", "left", "LRelationrows$Relation;", true)
  | 2 => ("Relationrows$Theorem", "right", "LRelationrows$Relation;", true)
  | 3 => ("Relationrows$Theorem", "middle", "LRelationrows$Relation;", true)
  | 4 => ("Relationrows$Theorem", "row", "LRelationrows$Bits;", true)
  | 5 => ("Relationrows$Theorem", "other", "LRelationrows$Bits;", true)
  | _ => ("Relationrows$Theorem", "leasts", "[I", true)
def tyX2 : Nat → FieldType := fun k => match k with
  | 0 => .object "Relationrows$Walks"
  | 1 => .object "Relationrows$Relation"
  | 2 => .object "Relationrows$Relation"
  | 3 => .object "Relationrows$Relation"
  | 4 => .object "Relationrows$Bits"
  | 5 => .object "Relationrows$Bits"
  | _ => .array .int
abbrev wsX20 : List Cond := u_ws RX2 TX2 7
theorem nmX2 : ∀ a, a < 7 → ∀ b, b < 7 → a ≠ b → (TX2 a).2.1 ≠ (TX2 b).2.1 := by decide +kernel
theorem tyX2_ok : ∀ k, k < 7 → parseFieldDescriptor (TX2 k).2.2.1 = some (tyX2 k) := by decide +kernel
abbrev cX2_init : ByteArray := prog_4_method_1_code
def yX2_init : MethodName := ⟨RX2, "<init>", "()V"⟩
abbrev cX2_wrongOfOne : ByteArray := prog_4_method_2_code
def yX2_wrongOfOne : MethodName := ⟨RX2, "wrongOfOne", "(LRelationrows$Relation;)I"⟩
abbrev cX2_wrongOfThree : ByteArray := prog_4_method_3_code
def yX2_wrongOfThree : MethodName := ⟨RX2, "wrongOfThree", "(LRelationrows$Relation;LRelationrows$Relation;LRelationrows$Relation;)I"⟩
abbrev cX2_wrongUnless : ByteArray := prog_4_method_4_code
def yX2_wrongUnless : MethodName := ⟨RX2, "wrongUnless", "(Z)I"⟩
abbrev cX2_closureTellsWalks : ByteArray := prog_4_method_5_code
def yX2_closureTellsWalks : MethodName := ⟨RX2, "closureTellsWalks", "(LRelationrows$Relation;)Z"⟩
abbrev cX2_classesPartElements : ByteArray := prog_4_method_6_code
def yX2_classesPartElements : MethodName := ⟨RX2, "classesPartElements", "()Z"⟩
abbrev cX2_orderKeeps : ByteArray := prog_4_method_7_code
def yX2_orderKeeps : MethodName := ⟨RX2, "orderKeeps", "(LRelationrows$Relation;)Z"⟩
abbrev cX2_coversGiveClosure : ByteArray := prog_4_method_8_code
def yX2_coversGiveClosure : MethodName := ⟨RX2, "coversGiveClosure", "()Z"⟩
abbrev cX2_isAssociative : ByteArray := prog_4_method_9_code
def yX2_isAssociative : MethodName := ⟨RX2, "isAssociative", "(LRelationrows$Relation;LRelationrows$Relation;LRelationrows$Relation;)Z"⟩
abbrev cX2_distributesBefore : ByteArray := prog_4_method_10_code
def yX2_distributesBefore : MethodName := ⟨RX2, "distributesBefore", "(LRelationrows$Relation;LRelationrows$Relation;LRelationrows$Relation;)Z"⟩
abbrev cX2_distributesBehind : ByteArray := prog_4_method_11_code
def yX2_distributesBehind : MethodName := ⟨RX2, "distributesBehind", "(LRelationrows$Relation;LRelationrows$Relation;LRelationrows$Relation;)Z"⟩
def RX3 : String := "Relationrows$Walks"
def TX3 : u_T := fun k => match k with
  | 0 => ("Relationrows$Walks", "reached", "LRelationrows$Bits;", true)
  | 1 => ("Relationrows$Walks", "fresh", "LRelationrows$Bits;", true)
  | 2 => ("Relationrows$Walks", "left", "LRelationrows$Bits;", true)
  | 3 => ("Relationrows$Walks", "blocked", "LRelationrows$Bits;", true)
  | 4 => ("Relationrows$Walks", "free", "LRelationrows$Bits;", true)
  | _ => ("Relationrows$Walks", "order", "[I", true)
def tyX3 : Nat → FieldType := fun k => match k with
  | 0 => .object "Relationrows$Bits"
  | 1 => .object "Relationrows$Bits"
  | 2 => .object "Relationrows$Bits"
  | 3 => .object "Relationrows$Bits"
  | 4 => .object "Relationrows$Bits"
  | _ => .array .int
abbrev wsX30 : List Cond := u_ws RX3 TX3 6
theorem nmX3 : ∀ a, a < 6 → ∀ b, b < 6 → a ≠ b → (TX3 a).2.1 ≠ (TX3 b).2.1 := by decide +kernel
theorem tyX3_ok : ∀ k, k < 6 → parseFieldDescriptor (TX3 k).2.2.1 = some (tyX3 k) := by decide +kernel
abbrev cX3_init : ByteArray := prog_5_method_1_code
def yX3_init : MethodName := ⟨RX3, "<init>", "()V"⟩
abbrev cX3_stepsBetween : ByteArray := prog_5_method_2_code
def yX3_stepsBetween : MethodName := ⟨RX3, "stepsBetween", "(LRelationrows$Relation;II)I"⟩
abbrev cX3_reachFrom : ByteArray := prog_5_method_3_code
def yX3_reachFrom : MethodName := ⟨RX3, "reachFrom", "(LRelationrows$Relation;ILRelationrows$Bits;)V"⟩
abbrev cX3_leave : ByteArray := prog_5_method_4_code
def yX3_leave : MethodName := ⟨RX3, "leave", "(LRelationrows$Relation;I)V"⟩
abbrev cX3_goOn : ByteArray := prog_5_method_5_code
def yX3_goOn : MethodName := ⟨RX3, "goOn", "(LRelationrows$Relation;)V"⟩
abbrev cX3_longest : ByteArray := prog_5_method_6_code
def yX3_longest : MethodName := ⟨RX3, "longest", "(LRelationrows$Relation;)I"⟩
abbrev cX3_findOrder : ByteArray := prog_5_method_7_code
def yX3_findOrder : MethodName := ⟨RX3, "findOrder", "(LRelationrows$Relation;)Z"⟩
abbrev cX3_orderedAt : ByteArray := prog_5_method_8_code
def yX3_orderedAt : MethodName := ⟨RX3, "orderedAt", "(I)I"⟩
def RX4 : String := "Relationrows"
def TX4 : u_T := fun k => match k with
  | 0 => ("Relationrows", "elements", "I", false)
  | 1 => ("Relationrows", "relations", "[LRelationrows$Relation;", true)
  | 2 => ("Relationrows", "marks", "LRelationrows$Bits;", true)
  | 3 => ("Relationrows", "row", "LRelationrows$Bits;", true)
  | 4 => ("Relationrows", "work", "LRelationrows$Relation;", true)
  | 5 => ("Relationrows", "walks", "LRelationrows$Walks;", true)
  | _ => ("Relationrows", "theorem", "LRelationrows$Theorem;", true)
def tyX4 : Nat → FieldType := fun k => match k with
  | 0 => .int
  | 1 => .array (.object "Relationrows$Relation")
  | 2 => .object "Relationrows$Bits"
  | 3 => .object "Relationrows$Bits"
  | 4 => .object "Relationrows$Relation"
  | 5 => .object "Relationrows$Walks"
  | _ => .object "Relationrows$Theorem"
abbrev wsX40 : List Cond := u_ws RX4 TX4 7
theorem nmX4 : ∀ a, a < 7 → ∀ b, b < 7 → a ≠ b → (TX4 a).2.1 ≠ (TX4 b).2.1 := by decide +kernel
theorem tyX4_ok : ∀ k, k < 7 → parseFieldDescriptor (TX4 k).2.2.1 = some (tyX4 k) := by decide +kernel
abbrev cX4_init : ByteArray := prog_1_method_1_code
def yX4_init : MethodName := ⟨RX4, "<init>", "()V"⟩
abbrev cX4_begin : ByteArray := prog_1_method_2_code
def yX4_begin : MethodName := ⟨RX4, "begin", "(I)I"⟩
abbrev cX4_set : ByteArray := prog_1_method_3_code
def yX4_set : MethodName := ⟨RX4, "set", "(IIIZ)Z"⟩
abbrev cX4_setRange : ByteArray := prog_1_method_4_code
def yX4_setRange : MethodName := ⟨RX4, "setRange", "(IIIIZ)I"⟩
abbrev cX4_flipRange : ByteArray := prog_1_method_5_code
def yX4_flipRange : MethodName := ⟨RX4, "flipRange", "(IIII)I"⟩
abbrev cX4_setRow : ByteArray := prog_1_method_6_code
def yX4_setRow : MethodName := ⟨RX4, "setRow", "(IIJ)I"⟩
abbrev cX4_chain : ByteArray := prog_1_method_7_code
def yX4_chain : MethodName := ⟨RX4, "chain", "(I)I"⟩
abbrev cX4_draw : ByteArray := prog_1_method_8_code
def yX4_draw : MethodName := ⟨RX4, "draw", "(III)I"⟩
abbrev cX4_copy : ByteArray := prog_1_method_9_code
def yX4_copy : MethodName := ⟨RX4, "copy", "(II)I"⟩
abbrev cX4_combine : ByteArray := prog_1_method_10_code
def yX4_combine : MethodName := ⟨RX4, "combine", "(III)I"⟩
abbrev cX4_compose : ByteArray := prog_1_method_11_code
def yX4_compose : MethodName := ⟨RX4, "compose", "(III)I"⟩
abbrev cX4_turn : ByteArray := prog_1_method_12_code
def yX4_turn : MethodName := ⟨RX4, "turn", "(I)I"⟩
abbrev cX4_oppose : ByteArray := prog_1_method_13_code
def yX4_oppose : MethodName := ⟨RX4, "oppose", "(I)I"⟩
abbrev cX4_close : ByteArray := prog_1_method_14_code
def yX4_close : MethodName := ⟨RX4, "close", "(IZ)I"⟩
abbrev cX4_cover : ByteArray := prog_1_method_15_code
def yX4_cover : MethodName := ⟨RX4, "cover", "(II)I"⟩
abbrev cX4_has : ByteArray := prog_1_method_16_code
def yX4_has : MethodName := ⟨RX4, "has", "(III)Z"⟩
abbrev cX4_count : ByteArray := prog_1_method_17_code
def yX4_count : MethodName := ⟨RX4, "count", "(I)I"⟩
abbrev cX4_countOf : ByteArray := prog_1_method_18_code
def yX4_countOf : MethodName := ⟨RX4, "countOf", "(II)I"⟩
abbrev cX4_beside : ByteArray := prog_1_method_19_code
def yX4_beside : MethodName := ⟨RX4, "beside", "(IIII)I"⟩
abbrev cX4_wordOf : ByteArray := prog_1_method_20_code
def yX4_wordOf : MethodName := ⟨RX4, "wordOf", "(III)J"⟩
abbrev cX4_meet : ByteArray := prog_1_method_21_code
def yX4_meet : MethodName := ⟨RX4, "meet", "(IIII)Z"⟩
abbrev cX4_compare : ByteArray := prog_1_method_22_code
def yX4_compare : MethodName := ⟨RX4, "compare", "(II)I"⟩
abbrev cX4_is : ByteArray := prog_1_method_23_code
def yX4_is : MethodName := ⟨RX4, "is", "(II)Z"⟩
abbrev cX4_steps : ByteArray := prog_1_method_24_code
def yX4_steps : MethodName := ⟨RX4, "steps", "(III)I"⟩
abbrev cX4_classOf : ByteArray := prog_1_method_25_code
def yX4_classOf : MethodName := ⟨RX4, "classOf", "(II)I"⟩
abbrev cX4_classes : ByteArray := prog_1_method_26_code
def yX4_classes : MethodName := ⟨RX4, "classes", "(I)I"⟩
abbrev cX4_hasRing : ByteArray := prog_1_method_27_code
def yX4_hasRing : MethodName := ⟨RX4, "hasRing", "(I)Z"⟩
abbrev cX4_orderAt : ByteArray := prog_1_method_28_code
def yX4_orderAt : MethodName := ⟨RX4, "orderAt", "(II)I"⟩
abbrev cX4_longestWalk : ByteArray := prog_1_method_29_code
def yX4_longestWalk : MethodName := ⟨RX4, "longestWalk", "(I)I"⟩
abbrev cX4_mark : ByteArray := prog_1_method_30_code
def yX4_mark : MethodName := ⟨RX4, "mark", "(IIZ)I"⟩
abbrev cX4_spread : ByteArray := prog_1_method_31_code
def yX4_spread : MethodName := ⟨RX4, "spread", "(IZ)I"⟩
abbrev cX4_markedAt : ByteArray := prog_1_method_32_code
def yX4_markedAt : MethodName := ⟨RX4, "markedAt", "(I)I"⟩
abbrev cX4_endOfMarks : ByteArray := prog_1_method_33_code
def yX4_endOfMarks : MethodName := ⟨RX4, "endOfMarks", "()I"⟩
abbrev cX4_meanRow : ByteArray := prog_1_method_34_code
def yX4_meanRow : MethodName := ⟨RX4, "meanRow", "(I)D"⟩
abbrev cX4_share : ByteArray := prog_1_method_35_code
def yX4_share : MethodName := ⟨RX4, "share", "(I)F"⟩
abbrev cX4_errors : ByteArray := prog_1_method_36_code
def yX4_errors : MethodName := ⟨RX4, "errors", "()I"⟩
abbrev cX4_relationAt : ByteArray := prog_1_method_37_code
def yX4_relationAt : MethodName := ⟨RX4, "relationAt", "(I)LRelationrows$Relation;"⟩
abbrev cX4_checkElement : ByteArray := prog_1_method_38_code
def yX4_checkElement : MethodName := ⟨RX4, "checkElement", "(I)V"⟩
abbrev cX4_checkRange : ByteArray := prog_1_method_39_code
def yX4_checkRange : MethodName := ⟨RX4, "checkRange", "(II)V"⟩
abbrev cX4_seedAfter : ByteArray := prog_1_method_40_code
def yX4_seedAfter : MethodName := ⟨RX4, "seedAfter", "(I)I"⟩
abbrev cX4_elementOf : ByteArray := prog_1_method_41_code
def yX4_elementOf : MethodName := ⟨RX4, "elementOf", "(I)I"⟩
abbrev cX4_closeAside : ByteArray := prog_1_method_42_code
def yX4_closeAside : MethodName := ⟨RX4, "closeAside", "(LRelationrows$Relation;)V"⟩
def RX5 : String := "RelationrowsModel"
def TX5 : u_T := fun k => match k with
  | 0 => ("RelationrowsModel", "has", "[Z", true)
  | 1 => ("RelationrowsModel", "isMarked", "[Z", true)
  | 2 => ("RelationrowsModel", "elements", "I", false)
  | 3 => ("RelationrowsModel", "thrown", "I", false)
  | 4 => ("RelationrowsModel", "square", "[Z", true)
  | 5 => ("RelationrowsModel", "other", "[Z", true)
  | 6 => ("RelationrowsModel", "third", "[Z", true)
  | 7 => ("RelationrowsModel", "isMet", "[Z", true)
  | 8 => ("RelationrowsModel", "was", "[Z", true)
  | 9 => ("RelationrowsModel", "queue", "[I", true)
  | 10 => ("RelationrowsModel", "far", "[I", true)
  | 11 => ("RelationrowsModel", "order", "[I", true)
  | _ => ("RelationrowsModel", "longest", "[I", true)
def tyX5 : Nat → FieldType := fun k => match k with
  | 0 => .array .boolean
  | 1 => .array .boolean
  | 2 => .int
  | 3 => .int
  | 4 => .array .boolean
  | 5 => .array .boolean
  | 6 => .array .boolean
  | 7 => .array .boolean
  | 8 => .array .boolean
  | 9 => .array .int
  | 10 => .array .int
  | 11 => .array .int
  | _ => .array .int
abbrev wsX50 : List Cond := u_ws RX5 TX5 13
theorem nmX5 : ∀ a, a < 13 → ∀ b, b < 13 → a ≠ b → (TX5 a).2.1 ≠ (TX5 b).2.1 := by decide +kernel
theorem tyX5_ok : ∀ k, k < 13 → parseFieldDescriptor (TX5 k).2.2.1 = some (tyX5 k) := by decide +kernel
abbrev cX5_init : ByteArray := prog_7_method_1_code
def yX5_init : MethodName := ⟨RX5, "<init>", "()V"⟩
abbrev cX5_thrown : ByteArray := prog_7_method_2_code
def yX5_thrown : MethodName := ⟨RX5, "thrown", "()I"⟩
abbrev cX5_in : ByteArray := prog_7_method_3_code
def yX5_in : MethodName := ⟨RX5, "in", "(III)Z"⟩
abbrev cX5_isRelation : ByteArray := prog_7_method_4_code
def yX5_isRelation : MethodName := ⟨RX5, "isRelation", "(I)Z"⟩
abbrev cX5_isElement : ByteArray := prog_7_method_5_code
def yX5_isElement : MethodName := ⟨RX5, "isElement", "(I)Z"⟩
abbrev cX5_isRow : ByteArray := prog_7_method_6_code
def yX5_isRow : MethodName := ⟨RX5, "isRow", "(II)Z"⟩
abbrev cX5_isRange : ByteArray := prog_7_method_7_code
def yX5_isRange : MethodName := ⟨RX5, "isRange", "(II)Z"⟩
abbrev cX5_refuse : ByteArray := prog_7_method_8_code
def yX5_refuse : MethodName := ⟨RX5, "refuse", "(I)I"⟩
abbrev cX5_told : ByteArray := prog_7_method_9_code
def yX5_told : MethodName := ⟨RX5, "told", "(I)I"⟩
abbrev cX5_says : ByteArray := prog_7_method_10_code
def yX5_says : MethodName := ⟨RX5, "says", "(Z)Z"⟩
abbrev cX5_denies : ByteArray := prog_7_method_11_code
def yX5_denies : MethodName := ⟨RX5, "denies", "(I)Z"⟩
abbrev cX5_place : ByteArray := prog_7_method_12_code
def yX5_place : MethodName := ⟨RX5, "place", "(III)I"⟩
abbrev cX5_leads : ByteArray := prog_7_method_13_code
def yX5_leads : MethodName := ⟨RX5, "leads", "(III)Z"⟩
abbrev cX5_inRow : ByteArray := prog_7_method_14_code
def yX5_inRow : MethodName := ⟨RX5, "inRow", "(II)I"⟩
abbrev cX5_pairs : ByteArray := prog_7_method_15_code
def yX5_pairs : MethodName := ⟨RX5, "pairs", "(I)I"⟩
abbrev cX5_lays : ByteArray := prog_7_method_16_code
def yX5_lays : MethodName := ⟨RX5, "lays", "(I)I"⟩
abbrev cX5_begin : ByteArray := prog_7_method_17_code
def yX5_begin : MethodName := ⟨RX5, "begin", "(I)I"⟩
abbrev cX5_set : ByteArray := prog_7_method_18_code
def yX5_set : MethodName := ⟨RX5, "set", "(IIIZ)Z"⟩
abbrev cX5_setRange : ByteArray := prog_7_method_19_code
def yX5_setRange : MethodName := ⟨RX5, "setRange", "(IIIIZ)I"⟩
abbrev cX5_flipRange : ByteArray := prog_7_method_20_code
def yX5_flipRange : MethodName := ⟨RX5, "flipRange", "(IIII)I"⟩
abbrev cX5_setRow : ByteArray := prog_7_method_21_code
def yX5_setRow : MethodName := ⟨RX5, "setRow", "(IIJ)I"⟩
abbrev cX5_chain : ByteArray := prog_7_method_22_code
def yX5_chain : MethodName := ⟨RX5, "chain", "(I)I"⟩
abbrev cX5_draw : ByteArray := prog_7_method_23_code
def yX5_draw : MethodName := ⟨RX5, "draw", "(III)I"⟩
abbrev cX5_copy : ByteArray := prog_7_method_24_code
def yX5_copy : MethodName := ⟨RX5, "copy", "(II)I"⟩
abbrev cX5_combine : ByteArray := prog_7_method_25_code
def yX5_combine : MethodName := ⟨RX5, "combine", "(III)I"⟩
abbrev cX5_composes : ByteArray := prog_7_method_26_code
def yX5_composes : MethodName := ⟨RX5, "composes", "(II)V"⟩
abbrev cX5_compose : ByteArray := prog_7_method_27_code
def yX5_compose : MethodName := ⟨RX5, "compose", "(III)I"⟩
abbrev cX5_turn : ByteArray := prog_7_method_28_code
def yX5_turn : MethodName := ⟨RX5, "turn", "(I)I"⟩
abbrev cX5_oppose : ByteArray := prog_7_method_29_code
def yX5_oppose : MethodName := ⟨RX5, "oppose", "(I)I"⟩
abbrev cX5_walks : ByteArray := prog_7_method_30_code
def yX5_walks : MethodName := ⟨RX5, "walks", "(II)V"⟩
abbrev cX5_closes : ByteArray := prog_7_method_31_code
def yX5_closes : MethodName := ⟨RX5, "closes", "(I)V"⟩
abbrev cX5_close : ByteArray := prog_7_method_32_code
def yX5_close : MethodName := ⟨RX5, "close", "(IZ)I"⟩
abbrev cX5_isRinged : ByteArray := prog_7_method_33_code
def yX5_isRinged : MethodName := ⟨RX5, "isRinged", "(I)Z"⟩
abbrev cX5_covers : ByteArray := prog_7_method_34_code
def yX5_covers : MethodName := ⟨RX5, "covers", "()V"⟩
abbrev cX5_cover : ByteArray := prog_7_method_35_code
def yX5_cover : MethodName := ⟨RX5, "cover", "(II)I"⟩
abbrev cX5_has : ByteArray := prog_7_method_36_code
def yX5_has : MethodName := ⟨RX5, "has", "(III)Z"⟩
abbrev cX5_count : ByteArray := prog_7_method_37_code
def yX5_count : MethodName := ⟨RX5, "count", "(I)I"⟩
abbrev cX5_countOf : ByteArray := prog_7_method_38_code
def yX5_countOf : MethodName := ⟨RX5, "countOf", "(II)I"⟩
abbrev cX5_beside : ByteArray := prog_7_method_39_code
def yX5_beside : MethodName := ⟨RX5, "beside", "(IIII)I"⟩
abbrev cX5_wordOf : ByteArray := prog_7_method_40_code
def yX5_wordOf : MethodName := ⟨RX5, "wordOf", "(III)J"⟩
abbrev cX5_meet : ByteArray := prog_7_method_41_code
def yX5_meet : MethodName := ⟨RX5, "meet", "(IIII)Z"⟩
abbrev cX5_compare : ByteArray := prog_7_method_42_code
def yX5_compare : MethodName := ⟨RX5, "compare", "(II)I"⟩
abbrev cX5_keeps : ByteArray := prog_7_method_43_code
def yX5_keeps : MethodName := ⟨RX5, "keeps", "(IIII)Z"⟩
abbrev cX5_is : ByteArray := prog_7_method_44_code
def yX5_is : MethodName := ⟨RX5, "is", "(II)Z"⟩
abbrev cX5_steps : ByteArray := prog_7_method_45_code
def yX5_steps : MethodName := ⟨RX5, "steps", "(III)I"⟩
abbrev cX5_leastOf : ByteArray := prog_7_method_46_code
def yX5_leastOf : MethodName := ⟨RX5, "leastOf", "(I)I"⟩
abbrev cX5_classOf : ByteArray := prog_7_method_47_code
def yX5_classOf : MethodName := ⟨RX5, "classOf", "(II)I"⟩
abbrev cX5_classes : ByteArray := prog_7_method_48_code
def yX5_classes : MethodName := ⟨RX5, "classes", "(I)I"⟩
abbrev cX5_hasRing : ByteArray := prog_7_method_49_code
def yX5_hasRing : MethodName := ⟨RX5, "hasRing", "(I)Z"⟩
abbrev cX5_isFree : ByteArray := prog_7_method_50_code
def yX5_isFree : MethodName := ⟨RX5, "isFree", "(II)Z"⟩
abbrev cX5_orders : ByteArray := prog_7_method_51_code
def yX5_orders : MethodName := ⟨RX5, "orders", "(I)I"⟩
abbrev cX5_orderAt : ByteArray := prog_7_method_52_code
def yX5_orderAt : MethodName := ⟨RX5, "orderAt", "(II)I"⟩
abbrev cX5_longestWalk : ByteArray := prog_7_method_53_code
def yX5_longestWalk : MethodName := ⟨RX5, "longestWalk", "(I)I"⟩
abbrev cX5_marks : ByteArray := prog_7_method_54_code
def yX5_marks : MethodName := ⟨RX5, "marks", "()I"⟩
abbrev cX5_mark : ByteArray := prog_7_method_55_code
def yX5_mark : MethodName := ⟨RX5, "mark", "(IIZ)I"⟩
abbrev cX5_spread : ByteArray := prog_7_method_56_code
def yX5_spread : MethodName := ⟨RX5, "spread", "(IZ)I"⟩
abbrev cX5_markedAt : ByteArray := prog_7_method_57_code
def yX5_markedAt : MethodName := ⟨RX5, "markedAt", "(I)I"⟩
abbrev cX5_endOfMarks : ByteArray := prog_7_method_58_code
def yX5_endOfMarks : MethodName := ⟨RX5, "endOfMarks", "()I"⟩
abbrev cX5_meanRow : ByteArray := prog_7_method_59_code
def yX5_meanRow : MethodName := ⟨RX5, "meanRow", "(I)D"⟩
abbrev cX5_share : ByteArray := prog_7_method_60_code
def yX5_share : MethodName := ⟨RX5, "share", "(I)F"⟩
abbrev cX5_isClosed : ByteArray := prog_7_method_61_code
def yX5_isClosed : MethodName := ⟨RX5, "isClosed", "(I)Z"⟩
abbrev cX5_isOrdered : ByteArray := prog_7_method_62_code
def yX5_isOrdered : MethodName := ⟨RX5, "isOrdered", "(I)Z"⟩
abbrev cX5_areComposed : ByteArray := prog_7_method_63_code
def yX5_areComposed : MethodName := ⟨RX5, "areComposed", "()Z"⟩
abbrev cX5_errors : ByteArray := prog_7_method_64_code
def yX5_errors : MethodName := ⟨RX5, "errors", "()I"⟩
def RJ13 : String := "java/lang/Long"
abbrev cJ13_bitCount_95d88 : ByteArray := prog_13_method_50_code
def yJ13_bitCount_95d88 : MethodName := ⟨RJ13, "bitCount", "(J)I"⟩
def RJ9 : String := "java/lang/Math"
abbrev cJ9_min_7cf53 : ByteArray := prog_14_method_69_code
def yJ9_min_7cf53 : MethodName := ⟨RJ9, "min", "(II)I"⟩
def RJ0 : String := "java/lang/String"
def RL : String := "RelationrowsLaw"
abbrev cL_begin : ByteArray := method_3_code
def yL_begin : MethodName := ⟨RL, "begin", "(LRelationrows;I[J)I"⟩
abbrev cL_set : ByteArray := method_4_code
def yL_set : MethodName := ⟨RL, "set", "(LRelationrows;IIIZ[J)I"⟩
abbrev cL_setRange : ByteArray := method_5_code
def yL_setRange : MethodName := ⟨RL, "setRange", "(LRelationrows;IIIIZ[J)I"⟩
abbrev cL_flipRange : ByteArray := method_6_code
def yL_flipRange : MethodName := ⟨RL, "flipRange", "(LRelationrows;IIII[J)I"⟩
abbrev cL_setRow : ByteArray := method_7_code
def yL_setRow : MethodName := ⟨RL, "setRow", "(LRelationrows;IIJ[J)I"⟩
abbrev cL_chain : ByteArray := method_8_code
def yL_chain : MethodName := ⟨RL, "chain", "(LRelationrows;I[J)I"⟩
abbrev cL_draw : ByteArray := method_9_code
def yL_draw : MethodName := ⟨RL, "draw", "(LRelationrows;III[J)I"⟩
abbrev cL_copy : ByteArray := method_10_code
def yL_copy : MethodName := ⟨RL, "copy", "(LRelationrows;II[J)I"⟩
abbrev cL_combine : ByteArray := method_11_code
def yL_combine : MethodName := ⟨RL, "combine", "(LRelationrows;III[J)I"⟩
abbrev cL_compose : ByteArray := method_12_code
def yL_compose : MethodName := ⟨RL, "compose", "(LRelationrows;III[J)I"⟩
abbrev cL_turn : ByteArray := method_13_code
def yL_turn : MethodName := ⟨RL, "turn", "(LRelationrows;I[J)I"⟩
abbrev cL_oppose : ByteArray := method_14_code
def yL_oppose : MethodName := ⟨RL, "oppose", "(LRelationrows;I[J)I"⟩
abbrev cL_close : ByteArray := method_15_code
def yL_close : MethodName := ⟨RL, "close", "(LRelationrows;IZ[J)I"⟩
abbrev cL_cover : ByteArray := method_16_code
def yL_cover : MethodName := ⟨RL, "cover", "(LRelationrows;II[J)I"⟩
abbrev cL_has : ByteArray := method_17_code
def yL_has : MethodName := ⟨RL, "has", "(LRelationrows;III[J)I"⟩
abbrev cL_count : ByteArray := method_18_code
def yL_count : MethodName := ⟨RL, "count", "(LRelationrows;I[J)I"⟩
abbrev cL_countOf : ByteArray := method_19_code
def yL_countOf : MethodName := ⟨RL, "countOf", "(LRelationrows;II[J)I"⟩
abbrev cL_beside : ByteArray := method_20_code
def yL_beside : MethodName := ⟨RL, "beside", "(LRelationrows;IIII[J)I"⟩
abbrev cL_wordOf : ByteArray := method_21_code
def yL_wordOf : MethodName := ⟨RL, "wordOf", "(LRelationrows;III[J)I"⟩
abbrev cL_meet : ByteArray := method_22_code
def yL_meet : MethodName := ⟨RL, "meet", "(LRelationrows;IIII[J)I"⟩
abbrev cL_compare : ByteArray := method_23_code
def yL_compare : MethodName := ⟨RL, "compare", "(LRelationrows;II[J)I"⟩
abbrev cL_is : ByteArray := method_24_code
def yL_is : MethodName := ⟨RL, "is", "(LRelationrows;II[J)I"⟩
abbrev cL_steps : ByteArray := method_25_code
def yL_steps : MethodName := ⟨RL, "steps", "(LRelationrows;III[J)I"⟩
abbrev cL_classOf : ByteArray := method_26_code
def yL_classOf : MethodName := ⟨RL, "classOf", "(LRelationrows;II[J)I"⟩
abbrev cL_classes : ByteArray := method_27_code
def yL_classes : MethodName := ⟨RL, "classes", "(LRelationrows;I[J)I"⟩
abbrev cL_hasRing : ByteArray := method_28_code
def yL_hasRing : MethodName := ⟨RL, "hasRing", "(LRelationrows;I[J)I"⟩
abbrev cL_orderAt : ByteArray := method_29_code
def yL_orderAt : MethodName := ⟨RL, "orderAt", "(LRelationrows;II[J)I"⟩
abbrev cL_longestWalk : ByteArray := method_30_code
def yL_longestWalk : MethodName := ⟨RL, "longestWalk", "(LRelationrows;I[J)I"⟩
abbrev cL_mark : ByteArray := method_31_code
def yL_mark : MethodName := ⟨RL, "mark", "(LRelationrows;IIZ[J)I"⟩
abbrev cL_spread : ByteArray := method_32_code
def yL_spread : MethodName := ⟨RL, "spread", "(LRelationrows;IZ[J)I"⟩
abbrev cL_markedAt : ByteArray := method_33_code
def yL_markedAt : MethodName := ⟨RL, "markedAt", "(LRelationrows;I[J)I"⟩
abbrev cL_meanRow : ByteArray := method_34_code
def yL_meanRow : MethodName := ⟨RL, "meanRow", "(LRelationrows;I[D)I"⟩
abbrev cL_share : ByteArray := method_35_code
def yL_share : MethodName := ⟨RL, "share", "(LRelationrows;I[D)I"⟩
abbrev cL_law : ByteArray := code
def yL_law : MethodName := ⟨RL, "law", "([I)Z"⟩
abbrev vwCl : List vw_C := [(RX0, TX0, 2), (RX1, TX1, 4), (RX2, TX2, 7), (RX3, TX3, 6), (RX4, TX4, 7), (RX5, TX5, 13)]
end
section
section ZZW
/-- the good words of the tables -/
def zz_g : List Cond := lw_tbl.filter goodWord
theorem zz_g_good : ∀ w ∈ zz_g, goodWord w = true := fun _ h => (List.mem_filter.mp h).2
theorem zz_g_tbl : ∀ w ∈ zz_g, w ∈ lw_tbl := fun _ h => (List.mem_filter.mp h).1
theorem zz_g_in {w : Cond} {i : Nat} (h : lw_tbl[i]? = some w) (g : goodWord w = true) : w ∈ zz_g := List.mem_filter.mpr ⟨List.mem_of_getElem? h, g⟩
theorem zw_l_L_8 : Cond.classLink RL 8 RX4 ∈ zz_g := zz_g_in (i := 57) (by decide +kernel) (by decide +kernel)
theorem zw_b_X4 : Cond.instantiable RX4 7 ∈ zz_g := zz_g_in (i := 58) (by decide +kernel) (by decide +kernel)
theorem zw_n_X4 : Cond.initialized RX4 ∈ zz_g := zz_g_in (i := 42) (by decide +kernel) (by decide +kernel)
theorem zw_l_L_133 : Cond.classLink RL 133 RX5 ∈ zz_g := zz_g_in (i := 886) (by decide +kernel) (by decide +kernel)
theorem zw_b_X5 : Cond.instantiable RX5 13 ∈ zz_g := zz_g_in (i := 887) (by decide +kernel) (by decide +kernel)
theorem zw_n_X5 : Cond.initialized RX5 ∈ zz_g := zz_g_in (i := 47) (by decide +kernel) (by decide +kernel)
theorem zw_a_long : Cond.arrayClass .long ∈ zz_g := zz_g_in (i := 89) (by decide +kernel) (by decide +kernel)
theorem zw_a_double : Cond.arrayClass .double ∈ zz_g := zz_g_in (i := 1184) (by decide +kernel) (by decide +kernel)
theorem zw_k_L_158 : Cond.constantLong RL 158 (4294967295) ∈ zz_g := zz_g_in (i := 1183) (by decide +kernel) (by decide +kernel)
theorem zw_m_L_132 : Cond.methodLink RL 132 yX4_init ∈ zz_g := zz_g_in (i := 59) (by decide +kernel) (by decide +kernel)
theorem zw_i_X4_init : Cond.instanceMethod yX4_init ∈ zz_g := zz_g_in (i := 60) (by decide +kernel) (by decide +kernel)
theorem zw_c_X4_init : Cond.code yX4_init cX4_init 2 none ∈ zz_g := zz_g_in (i := 61) (by decide +kernel) (by decide +kernel)
theorem zw_m_X4_1 : Cond.methodLink RX4 1 objectInit ∈ zz_g := zz_g_in (i := 62) (by decide +kernel) (by decide +kernel)
theorem zw_i_objectInit : Cond.instanceMethod objectInit ∈ zz_g := zz_g_in (i := 63) (by decide +kernel) (by decide +kernel)
theorem zw_c_objectInit : Cond.code objectInit ⟨#[0xb1]⟩ 1 none ∈ zz_g := zz_g_in (i := 64) (by decide +kernel) (by decide +kernel)
theorem zw_f_X4_9 : Cond.fieldLink RX4 9 "Relationrows" "elements" "I" ∈ zz_g := zz_g_in (i := 167) (by decide +kernel) (by decide +kernel)
theorem zw_l_X4_13 : Cond.classLink RX4 13 RX1 ∈ zz_g := zz_g_in (i := 65) (by decide +kernel) (by decide +kernel)
theorem zw_f_X4_15 : Cond.fieldLink RX4 15 "Relationrows" "relations" "[LRelationrows$Relation;" ∈ zz_g := zz_g_in (i := 168) (by decide +kernel) (by decide +kernel)
theorem zw_b_X1 : Cond.instantiable RX1 4 ∈ zz_g := zz_g_in (i := 67) (by decide +kernel) (by decide +kernel)
theorem zw_n_X1 : Cond.initialized RX1 ∈ zz_g := zz_g_in (i := 43) (by decide +kernel) (by decide +kernel)
theorem zw_l_X4_20 : Cond.classLink RX4 20 RX0 ∈ zz_g := zz_g_in (i := 103) (by decide +kernel) (by decide +kernel)
theorem zw_b_X0 : Cond.instantiable RX0 2 ∈ zz_g := zz_g_in (i := 73) (by decide +kernel) (by decide +kernel)
theorem zw_n_X0 : Cond.initialized RX0 ∈ zz_g := zz_g_in (i := 44) (by decide +kernel) (by decide +kernel)
theorem zw_f_X4_23 : Cond.fieldLink RX4 23 "Relationrows" "marks" "LRelationrows$Bits;" ∈ zz_g := zz_g_in (i := 169) (by decide +kernel) (by decide +kernel)
theorem zw_f_X4_27 : Cond.fieldLink RX4 27 "Relationrows" "row" "LRelationrows$Bits;" ∈ zz_g := zz_g_in (i := 170) (by decide +kernel) (by decide +kernel)
theorem zw_f_X4_30 : Cond.fieldLink RX4 30 "Relationrows" "work" "LRelationrows$Relation;" ∈ zz_g := zz_g_in (i := 171) (by decide +kernel) (by decide +kernel)
theorem zw_l_X4_34 : Cond.classLink RX4 34 RX3 ∈ zz_g := zz_g_in (i := 105) (by decide +kernel) (by decide +kernel)
theorem zw_b_X3 : Cond.instantiable RX3 6 ∈ zz_g := zz_g_in (i := 106) (by decide +kernel) (by decide +kernel)
theorem zw_n_X3 : Cond.initialized RX3 ∈ zz_g := zz_g_in (i := 45) (by decide +kernel) (by decide +kernel)
theorem zw_f_X4_37 : Cond.fieldLink RX4 37 "Relationrows" "walks" "LRelationrows$Walks;" ∈ zz_g := zz_g_in (i := 172) (by decide +kernel) (by decide +kernel)
theorem zw_l_X4_41 : Cond.classLink RX4 41 RX2 ∈ zz_g := zz_g_in (i := 133) (by decide +kernel) (by decide +kernel)
theorem zw_b_X2 : Cond.instantiable RX2 7 ∈ zz_g := zz_g_in (i := 134) (by decide +kernel) (by decide +kernel)
theorem zw_n_X2 : Cond.initialized RX2 ∈ zz_g := zz_g_in (i := 46) (by decide +kernel) (by decide +kernel)
theorem zw_f_X4_44 : Cond.fieldLink RX4 44 "Relationrows" "theorem" "LRelationrows$Theorem;" ∈ zz_g := zz_g_in (i := 173) (by decide +kernel) (by decide +kernel)
theorem zw_i_X1_init : Cond.instanceMethod yX1_init ∈ zz_g := zz_g_in (i := 69) (by decide +kernel) (by decide +kernel)
theorem zw_c_X1_init : Cond.code yX1_init cX1_init 1 none ∈ zz_g := zz_g_in (i := 70) (by decide +kernel) (by decide +kernel)
theorem zw_m_X1_3 : Cond.methodLink RX1 3 objectInit ∈ zz_g := zz_g_in (i := 71) (by decide +kernel) (by decide +kernel)
theorem zw_f_X1_9 : Cond.fieldLink RX1 9 "Relationrows$Relation" "elements" "I" ∈ zz_g := zz_g_in (i := 90) (by decide +kernel) (by decide +kernel)
theorem zw_f_X1_15 : Cond.fieldLink RX1 15 "Relationrows$Relation" "low" "[J" ∈ zz_g := zz_g_in (i := 91) (by decide +kernel) (by decide +kernel)
theorem zw_f_X1_19 : Cond.fieldLink RX1 19 "Relationrows$Relation" "high" "[J" ∈ zz_g := zz_g_in (i := 92) (by decide +kernel) (by decide +kernel)
theorem zw_l_X1_22 : Cond.classLink RX1 22 RX0 ∈ zz_g := zz_g_in (i := 72) (by decide +kernel) (by decide +kernel)
theorem zw_f_X1_25 : Cond.fieldLink RX1 25 "Relationrows$Relation" "row" "LRelationrows$Bits;" ∈ zz_g := zz_g_in (i := 93) (by decide +kernel) (by decide +kernel)
theorem zw_i_X0_init : Cond.instanceMethod yX0_init ∈ zz_g := zz_g_in (i := 75) (by decide +kernel) (by decide +kernel)
theorem zw_c_X0_init : Cond.code yX0_init cX0_init 1 none ∈ zz_g := zz_g_in (i := 76) (by decide +kernel) (by decide +kernel)
theorem zw_m_X0_3 : Cond.methodLink RX0 3 objectInit ∈ zz_g := zz_g_in (i := 77) (by decide +kernel) (by decide +kernel)
theorem zw_i_X3_init : Cond.instanceMethod yX3_init ∈ zz_g := zz_g_in (i := 108) (by decide +kernel) (by decide +kernel)
theorem zw_c_X3_init : Cond.code yX3_init cX3_init 1 none ∈ zz_g := zz_g_in (i := 109) (by decide +kernel) (by decide +kernel)
theorem zw_m_X3_3 : Cond.methodLink RX3 3 objectInit ∈ zz_g := zz_g_in (i := 110) (by decide +kernel) (by decide +kernel)
theorem zw_l_X3_9 : Cond.classLink RX3 9 RX0 ∈ zz_g := zz_g_in (i := 111) (by decide +kernel) (by decide +kernel)
theorem zw_f_X3_12 : Cond.fieldLink RX3 12 "Relationrows$Walks" "reached" "LRelationrows$Bits;" ∈ zz_g := zz_g_in (i := 113) (by decide +kernel) (by decide +kernel)
theorem zw_f_X3_18 : Cond.fieldLink RX3 18 "Relationrows$Walks" "fresh" "LRelationrows$Bits;" ∈ zz_g := zz_g_in (i := 114) (by decide +kernel) (by decide +kernel)
theorem zw_f_X3_21 : Cond.fieldLink RX3 21 "Relationrows$Walks" "left" "LRelationrows$Bits;" ∈ zz_g := zz_g_in (i := 115) (by decide +kernel) (by decide +kernel)
theorem zw_f_X3_24 : Cond.fieldLink RX3 24 "Relationrows$Walks" "blocked" "LRelationrows$Bits;" ∈ zz_g := zz_g_in (i := 116) (by decide +kernel) (by decide +kernel)
theorem zw_f_X3_27 : Cond.fieldLink RX3 27 "Relationrows$Walks" "free" "LRelationrows$Bits;" ∈ zz_g := zz_g_in (i := 117) (by decide +kernel) (by decide +kernel)
theorem zw_a_int : Cond.arrayClass .int ∈ zz_g := zz_g_in (i := 132) (by decide +kernel) (by decide +kernel)
theorem zw_f_X3_30 : Cond.fieldLink RX3 30 "Relationrows$Walks" "order" "[I" ∈ zz_g := zz_g_in (i := 118) (by decide +kernel) (by decide +kernel)
theorem zw_i_X2_init : Cond.instanceMethod yX2_init ∈ zz_g := zz_g_in (i := 136) (by decide +kernel) (by decide +kernel)
theorem zw_c_X2_init : Cond.code yX2_init cX2_init 1 none ∈ zz_g := zz_g_in (i := 137) (by decide +kernel) (by decide +kernel)
theorem zw_m_X2_3 : Cond.methodLink RX2 3 objectInit ∈ zz_g := zz_g_in (i := 138) (by decide +kernel) (by decide +kernel)
theorem zw_l_X2_9 : Cond.classLink RX2 9 RX3 ∈ zz_g := zz_g_in (i := 139) (by decide +kernel) (by decide +kernel)
theorem zw_f_X2_12 : Cond.fieldLink RX2 12 "Relationrows$Theorem" "walks" "LRelationrows$Walks;" ∈ zz_g := zz_g_in (i := 145) (by decide +kernel) (by decide +kernel)
theorem zw_l_X2_18 : Cond.classLink RX2 18 RX1 ∈ zz_g := zz_g_in (i := 141) (by decide +kernel) (by decide +kernel)
theorem zw_f_X2_21 : Cond.fieldLink RX2 21 "Relationrows$Theorem" "left" "LRelationrows$Relation;" ∈ zz_g := zz_g_in (i := 146) (by decide +kernel) (by decide +kernel)
theorem zw_f_X2_25 : Cond.fieldLink RX2 25 "Relationrows$Theorem" "right" "LRelationrows$Relation;" ∈ zz_g := zz_g_in (i := 147) (by decide +kernel) (by decide +kernel)
theorem zw_f_X2_28 : Cond.fieldLink RX2 28 "Relationrows$Theorem" "middle" "LRelationrows$Relation;" ∈ zz_g := zz_g_in (i := 148) (by decide +kernel) (by decide +kernel)
theorem zw_l_X2_31 : Cond.classLink RX2 31 RX0 ∈ zz_g := zz_g_in (i := 143) (by decide +kernel) (by decide +kernel)
theorem zw_f_X2_34 : Cond.fieldLink RX2 34 "Relationrows$Theorem" "row" "LRelationrows$Bits;" ∈ zz_g := zz_g_in (i := 149) (by decide +kernel) (by decide +kernel)
theorem zw_f_X2_38 : Cond.fieldLink RX2 38 "Relationrows$Theorem" "other" "LRelationrows$Bits;" ∈ zz_g := zz_g_in (i := 150) (by decide +kernel) (by decide +kernel)
theorem zw_f_X2_41 : Cond.fieldLink RX2 41 "Relationrows$Theorem" "leasts" "[I" ∈ zz_g := zz_g_in (i := 151) (by decide +kernel) (by decide +kernel)
theorem zw_m_L_135 : Cond.methodLink RL 135 yX5_init ∈ zz_g := zz_g_in (i := 888) (by decide +kernel) (by decide +kernel)
theorem zw_i_X5_init : Cond.instanceMethod yX5_init ∈ zz_g := zz_g_in (i := 889) (by decide +kernel) (by decide +kernel)
theorem zw_c_X5_init : Cond.code yX5_init cX5_init 1 none ∈ zz_g := zz_g_in (i := 890) (by decide +kernel) (by decide +kernel)
theorem zw_m_X5_1 : Cond.methodLink RX5 1 objectInit ∈ zz_g := zz_g_in (i := 891) (by decide +kernel) (by decide +kernel)
theorem zw_a_boolean : Cond.arrayClass .boolean ∈ zz_g := zz_g_in (i := 932) (by decide +kernel) (by decide +kernel)
theorem zw_f_X5_7 : Cond.fieldLink RX5 7 "RelationrowsModel" "has" "[Z" ∈ zz_g := zz_g_in (i := 892) (by decide +kernel) (by decide +kernel)
theorem zw_f_X5_13 : Cond.fieldLink RX5 13 "RelationrowsModel" "isMarked" "[Z" ∈ zz_g := zz_g_in (i := 893) (by decide +kernel) (by decide +kernel)
theorem zw_f_X5_16 : Cond.fieldLink RX5 16 "RelationrowsModel" "elements" "I" ∈ zz_g := zz_g_in (i := 894) (by decide +kernel) (by decide +kernel)
theorem zw_f_X5_20 : Cond.fieldLink RX5 20 "RelationrowsModel" "square" "[Z" ∈ zz_g := zz_g_in (i := 896) (by decide +kernel) (by decide +kernel)
theorem zw_f_X5_23 : Cond.fieldLink RX5 23 "RelationrowsModel" "other" "[Z" ∈ zz_g := zz_g_in (i := 897) (by decide +kernel) (by decide +kernel)
theorem zw_f_X5_26 : Cond.fieldLink RX5 26 "RelationrowsModel" "third" "[Z" ∈ zz_g := zz_g_in (i := 898) (by decide +kernel) (by decide +kernel)
theorem zw_f_X5_29 : Cond.fieldLink RX5 29 "RelationrowsModel" "isMet" "[Z" ∈ zz_g := zz_g_in (i := 899) (by decide +kernel) (by decide +kernel)
theorem zw_f_X5_32 : Cond.fieldLink RX5 32 "RelationrowsModel" "was" "[Z" ∈ zz_g := zz_g_in (i := 900) (by decide +kernel) (by decide +kernel)
theorem zw_f_X5_35 : Cond.fieldLink RX5 35 "RelationrowsModel" "queue" "[I" ∈ zz_g := zz_g_in (i := 901) (by decide +kernel) (by decide +kernel)
theorem zw_f_X5_39 : Cond.fieldLink RX5 39 "RelationrowsModel" "far" "[I" ∈ zz_g := zz_g_in (i := 902) (by decide +kernel) (by decide +kernel)
theorem zw_f_X5_42 : Cond.fieldLink RX5 42 "RelationrowsModel" "order" "[I" ∈ zz_g := zz_g_in (i := 903) (by decide +kernel) (by decide +kernel)
theorem zw_f_X5_45 : Cond.fieldLink RX5 45 "RelationrowsModel" "longest" "[I" ∈ zz_g := zz_g_in (i := 904) (by decide +kernel) (by decide +kernel)
theorem zw_m_L_136 : Cond.methodLink RL 136 yL_begin ∈ zz_g := zz_g_in (i := 488) (by decide +kernel) (by decide +kernel)
theorem zw_t_L_begin : Cond.static yL_begin ∈ zz_g := zz_g_in (i := 489) (by decide +kernel) (by decide +kernel)
theorem zw_n_L : Cond.initialized RL ∈ zz_g := zz_g_in (i := 41) (by decide +kernel) (by decide +kernel)
theorem zw_c_L_begin : Cond.codeWith yL_begin cL_begin 4 (some .int) [(0, 9, 12, 13)] ∈ zz_g := zz_g_in (i := 490) (by decide +kernel) (by decide +kernel)
theorem zw_l_L_13 : Cond.classLink RL 13 "java/lang/IllegalArgumentException" ∈ zz_g := zz_g_in (i := 491) (by decide +kernel) (by decide +kernel)
theorem zw_m_L_7 : Cond.methodLink RL 7 yX4_begin ∈ zz_g := zz_g_in (i := 492) (by decide +kernel) (by decide +kernel)
theorem zw_i_X4_begin : Cond.instanceMethod yX4_begin ∈ zz_g := zz_g_in (i := 493) (by decide +kernel) (by decide +kernel)
theorem zw_s_X4_begin : Cond.selects RX4 yX4_begin yX4_begin ∈ zz_g := zz_g_in (i := 494) (by decide +kernel) (by decide +kernel)
theorem zw_c_X4_begin : Cond.code yX4_begin cX4_begin 4 (some .int) ∈ zz_g := zz_g_in (i := 495) (by decide +kernel) (by decide +kernel)
theorem zw_l_X4_48 : Cond.classLink RX4 48 "java/lang/IllegalArgumentException" ∈ zz_g := zz_g_in (i := 496) (by decide +kernel) (by decide +kernel)
theorem zw_n_java_lang_IllegalArgumentException : Cond.initialized "java/lang/IllegalArgumentException" ∈ zz_g := zz_g_in (i := 51) (by decide +kernel) (by decide +kernel)
theorem zw_m_X4_55 : Cond.methodLink RX4 55 yX4_relationAt ∈ zz_g := zz_g_in (i := 205) (by decide +kernel) (by decide +kernel)
theorem zw_i_X4_relationAt : Cond.instanceMethod yX4_relationAt ∈ zz_g := zz_g_in (i := 207) (by decide +kernel) (by decide +kernel)
theorem zw_s_X4_relationAt : Cond.selects RX4 yX4_relationAt yX4_relationAt ∈ zz_g := zz_g_in (i := 0) (by decide +kernel) (by decide +kernel)
theorem zw_c_X4_relationAt : Cond.code yX4_relationAt cX4_relationAt 2 (some (.object "Relationrows$Relation")) ∈ zz_g := zz_g_in (i := 208) (by decide +kernel) (by decide +kernel)
theorem zw_l_X4_239 : Cond.classLink RX4 239 "java/lang/IndexOutOfBoundsException" ∈ zz_g := zz_g_in (i := 209) (by decide +kernel) (by decide +kernel)
theorem zw_n_java_lang_IndexOutOfBoundsException : Cond.initialized "java/lang/IndexOutOfBoundsException" ∈ zz_g := zz_g_in (i := 52) (by decide +kernel) (by decide +kernel)
theorem zw_m_X4_59 : Cond.methodLink RX4 59 yX1_restart ∈ zz_g := zz_g_in (i := 512) (by decide +kernel) (by decide +kernel)
theorem zw_i_X1_restart : Cond.instanceMethod yX1_restart ∈ zz_g := zz_g_in (i := 513) (by decide +kernel) (by decide +kernel)
theorem zw_s_X1_restart : Cond.selects RX1 yX1_restart yX1_restart ∈ zz_g := zz_g_in (i := 514) (by decide +kernel) (by decide +kernel)
theorem zw_c_X1_restart : Cond.code yX1_restart cX1_restart 3 none ∈ zz_g := zz_g_in (i := 515) (by decide +kernel) (by decide +kernel)
theorem zw_m_X1_29 : Cond.methodLink RX1 29 yX0_clear ∈ zz_g := zz_g_in (i := 516) (by decide +kernel) (by decide +kernel)
theorem zw_i_X0_clear : Cond.instanceMethod yX0_clear ∈ zz_g := zz_g_in (i := 410) (by decide +kernel) (by decide +kernel)
theorem zw_s_X0_clear : Cond.selects RX0 yX0_clear yX0_clear ∈ zz_g := zz_g_in (i := 411) (by decide +kernel) (by decide +kernel)
theorem zw_c_X0_clear : Cond.code yX0_clear cX0_clear 1 none ∈ zz_g := zz_g_in (i := 412) (by decide +kernel) (by decide +kernel)
theorem zw_f_X0_17 : Cond.fieldLink RX0 17 "Relationrows$Bits" "low" "J" ∈ zz_g := zz_g_in (i := 78) (by decide +kernel) (by decide +kernel)
theorem zw_f_X0_21 : Cond.fieldLink RX0 21 "Relationrows$Bits" "high" "J" ∈ zz_g := zz_g_in (i := 81) (by decide +kernel) (by decide +kernel)
theorem zw_m_X1_32 : Cond.methodLink RX1 32 yX1_putRow ∈ zz_g := zz_g_in (i := 469) (by decide +kernel) (by decide +kernel)
theorem zw_i_X1_putRow : Cond.instanceMethod yX1_putRow ∈ zz_g := zz_g_in (i := 470) (by decide +kernel) (by decide +kernel)
theorem zw_s_X1_putRow : Cond.selects RX1 yX1_putRow yX1_putRow ∈ zz_g := zz_g_in (i := 471) (by decide +kernel) (by decide +kernel)
theorem zw_c_X1_putRow : Cond.code yX1_putRow cX1_putRow 3 none ∈ zz_g := zz_g_in (i := 472) (by decide +kernel) (by decide +kernel)
theorem zw_f_X1_40 : Cond.fieldLink RX1 40 "Relationrows$Bits" "low" "J" ∈ zz_g := zz_g_in (i := 79) (by decide +kernel) (by decide +kernel)
theorem zw_f_X1_46 : Cond.fieldLink RX1 46 "Relationrows$Bits" "high" "J" ∈ zz_g := zz_g_in (i := 82) (by decide +kernel) (by decide +kernel)
theorem zw_m_X1_48 : Cond.methodLink RX1 48 yX1_putWords ∈ zz_g := zz_g_in (i := 294) (by decide +kernel) (by decide +kernel)
theorem zw_i_X1_putWords : Cond.instanceMethod yX1_putWords ∈ zz_g := zz_g_in (i := 296) (by decide +kernel) (by decide +kernel)
theorem zw_s_X1_putWords : Cond.selects RX1 yX1_putWords yX1_putWords ∈ zz_g := zz_g_in (i := 2) (by decide +kernel) (by decide +kernel)
theorem zw_c_X1_putWords : Cond.code yX1_putWords cX1_putWords 6 none ∈ zz_g := zz_g_in (i := 297) (by decide +kernel) (by decide +kernel)
theorem zw_m_X4_63 : Cond.methodLink RX4 63 yX0_clear ∈ zz_g := zz_g_in (i := 517) (by decide +kernel) (by decide +kernel)
theorem zw_m_L_141 : Cond.methodLink RL 141 yX5_begin ∈ zz_g := zz_g_in (i := 937) (by decide +kernel) (by decide +kernel)
theorem zw_i_X5_begin : Cond.instanceMethod yX5_begin ∈ zz_g := zz_g_in (i := 938) (by decide +kernel) (by decide +kernel)
theorem zw_s_X5_begin : Cond.selects RX5 yX5_begin yX5_begin ∈ zz_g := zz_g_in (i := 939) (by decide +kernel) (by decide +kernel)
theorem zw_c_X5_begin : Cond.code yX5_begin cX5_begin 4 (some .int) ∈ zz_g := zz_g_in (i := 940) (by decide +kernel) (by decide +kernel)
theorem zw_m_X5_51 : Cond.methodLink RX5 51 yX5_in ∈ zz_g := zz_g_in (i := 941) (by decide +kernel) (by decide +kernel)
theorem zw_t_X5_in : Cond.static yX5_in ∈ zz_g := zz_g_in (i := 942) (by decide +kernel) (by decide +kernel)
theorem zw_c_X5_in : Cond.code yX5_in cX5_in 3 (some .boolean) ∈ zz_g := zz_g_in (i := 943) (by decide +kernel) (by decide +kernel)
theorem zw_m_X5_77 : Cond.methodLink RX5 77 yX5_refuse ∈ zz_g := zz_g_in (i := 944) (by decide +kernel) (by decide +kernel)
theorem zw_i_X5_refuse : Cond.instanceMethod yX5_refuse ∈ zz_g := zz_g_in (i := 946) (by decide +kernel) (by decide +kernel)
theorem zw_s_X5_refuse : Cond.selects RX5 yX5_refuse yX5_refuse ∈ zz_g := zz_g_in (i := 17) (by decide +kernel) (by decide +kernel)
theorem zw_c_X5_refuse : Cond.code yX5_refuse cX5_refuse 2 (some .int) ∈ zz_g := zz_g_in (i := 947) (by decide +kernel) (by decide +kernel)
theorem zw_f_X5_48 : Cond.fieldLink RX5 48 "RelationrowsModel" "thrown" "I" ∈ zz_g := zz_g_in (i := 895) (by decide +kernel) (by decide +kernel)
theorem zw_m_X5_80 : Cond.methodLink RX5 80 yX5_told ∈ zz_g := zz_g_in (i := 948) (by decide +kernel) (by decide +kernel)
theorem zw_i_X5_told : Cond.instanceMethod yX5_told ∈ zz_g := zz_g_in (i := 950) (by decide +kernel) (by decide +kernel)
theorem zw_s_X5_told : Cond.selects RX5 yX5_told yX5_told ∈ zz_g := zz_g_in (i := 18) (by decide +kernel) (by decide +kernel)
theorem zw_c_X5_told : Cond.code yX5_told cX5_told 2 (some .int) ∈ zz_g := zz_g_in (i := 951) (by decide +kernel) (by decide +kernel)
theorem zw_m_L_142 : Cond.methodLink RL 142 yX5_thrown ∈ zz_g := zz_g_in (i := 933) (by decide +kernel) (by decide +kernel)
theorem zw_i_X5_thrown : Cond.instanceMethod yX5_thrown ∈ zz_g := zz_g_in (i := 934) (by decide +kernel) (by decide +kernel)
theorem zw_s_X5_thrown : Cond.selects RX5 yX5_thrown yX5_thrown ∈ zz_g := zz_g_in (i := 935) (by decide +kernel) (by decide +kernel)
theorem zw_c_X5_thrown : Cond.code yX5_thrown cX5_thrown 1 (some .int) ∈ zz_g := zz_g_in (i := 936) (by decide +kernel) (by decide +kernel)
theorem zw_m_L_146 : Cond.methodLink RL 146 yL_set ∈ zz_g := zz_g_in (i := 518) (by decide +kernel) (by decide +kernel)
theorem zw_t_L_set : Cond.static yL_set ∈ zz_g := zz_g_in (i := 519) (by decide +kernel) (by decide +kernel)
theorem zw_c_L_set : Cond.codeWith yL_set cL_set 7 (some .int) [(0, 21, 24, 19)] ∈ zz_g := zz_g_in (i := 520) (by decide +kernel) (by decide +kernel)
theorem zw_l_L_19 : Cond.classLink RL 19 "java/lang/IndexOutOfBoundsException" ∈ zz_g := zz_g_in (i := 521) (by decide +kernel) (by decide +kernel)
theorem zw_m_L_15 : Cond.methodLink RL 15 yX4_set ∈ zz_g := zz_g_in (i := 522) (by decide +kernel) (by decide +kernel)
theorem zw_i_X4_set : Cond.instanceMethod yX4_set ∈ zz_g := zz_g_in (i := 523) (by decide +kernel) (by decide +kernel)
theorem zw_s_X4_set : Cond.selects RX4 yX4_set yX4_set ∈ zz_g := zz_g_in (i := 524) (by decide +kernel) (by decide +kernel)
theorem zw_c_X4_set : Cond.code yX4_set cX4_set 7 (some .boolean) ∈ zz_g := zz_g_in (i := 525) (by decide +kernel) (by decide +kernel)
theorem zw_m_X4_66 : Cond.methodLink RX4 66 yX4_checkElement ∈ zz_g := zz_g_in (i := 526) (by decide +kernel) (by decide +kernel)
theorem zw_i_X4_checkElement : Cond.instanceMethod yX4_checkElement ∈ zz_g := zz_g_in (i := 528) (by decide +kernel) (by decide +kernel)
theorem zw_s_X4_checkElement : Cond.selects RX4 yX4_checkElement yX4_checkElement ∈ zz_g := zz_g_in (i := 12) (by decide +kernel) (by decide +kernel)
theorem zw_c_X4_checkElement : Cond.code yX4_checkElement cX4_checkElement 2 none ∈ zz_g := zz_g_in (i := 529) (by decide +kernel) (by decide +kernel)
theorem zw_m_X4_69 : Cond.methodLink RX4 69 yX1_holds ∈ zz_g := zz_g_in (i := 531) (by decide +kernel) (by decide +kernel)
theorem zw_i_X1_holds : Cond.instanceMethod yX1_holds ∈ zz_g := zz_g_in (i := 303) (by decide +kernel) (by decide +kernel)
theorem zw_s_X1_holds : Cond.selects RX1 yX1_holds yX1_holds ∈ zz_g := zz_g_in (i := 304) (by decide +kernel) (by decide +kernel)
theorem zw_c_X1_holds : Cond.code yX1_holds cX1_holds 5 (some .boolean) ∈ zz_g := zz_g_in (i := 305) (by decide +kernel) (by decide +kernel)
theorem zw_m_X1_36 : Cond.methodLink RX1 36 yX1_lowAt ∈ zz_g := zz_g_in (i := 286) (by decide +kernel) (by decide +kernel)
theorem zw_i_X1_lowAt : Cond.instanceMethod yX1_lowAt ∈ zz_g := zz_g_in (i := 287) (by decide +kernel) (by decide +kernel)
theorem zw_s_X1_lowAt : Cond.selects RX1 yX1_lowAt yX1_lowAt ∈ zz_g := zz_g_in (i := 288) (by decide +kernel) (by decide +kernel)
theorem zw_c_X1_lowAt : Cond.code yX1_lowAt cX1_lowAt 2 (some .long) ∈ zz_g := zz_g_in (i := 289) (by decide +kernel) (by decide +kernel)
theorem zw_m_X1_43 : Cond.methodLink RX1 43 yX1_highAt ∈ zz_g := zz_g_in (i := 290) (by decide +kernel) (by decide +kernel)
theorem zw_i_X1_highAt : Cond.instanceMethod yX1_highAt ∈ zz_g := zz_g_in (i := 291) (by decide +kernel) (by decide +kernel)
theorem zw_s_X1_highAt : Cond.selects RX1 yX1_highAt yX1_highAt ∈ zz_g := zz_g_in (i := 292) (by decide +kernel) (by decide +kernel)
theorem zw_c_X1_highAt : Cond.code yX1_highAt cX1_highAt 2 (some .long) ∈ zz_g := zz_g_in (i := 293) (by decide +kernel) (by decide +kernel)
theorem zw_m_X4_73 : Cond.methodLink RX4 73 yX1_rowInto ∈ zz_g := zz_g_in (i := 532) (by decide +kernel) (by decide +kernel)
theorem zw_i_X1_rowInto : Cond.instanceMethod yX1_rowInto ∈ zz_g := zz_g_in (i := 315) (by decide +kernel) (by decide +kernel)
theorem zw_s_X1_rowInto : Cond.selects RX1 yX1_rowInto yX1_rowInto ∈ zz_g := zz_g_in (i := 316) (by decide +kernel) (by decide +kernel)
theorem zw_c_X1_rowInto : Cond.code yX1_rowInto cX1_rowInto 3 none ∈ zz_g := zz_g_in (i := 317) (by decide +kernel) (by decide +kernel)
theorem zw_m_X4_77 : Cond.methodLink RX4 77 yX0_putRange ∈ zz_g := zz_g_in (i := 533) (by decide +kernel) (by decide +kernel)
theorem zw_i_X0_putRange : Cond.instanceMethod yX0_putRange ∈ zz_g := zz_g_in (i := 414) (by decide +kernel) (by decide +kernel)
theorem zw_s_X0_putRange : Cond.selects RX0 yX0_putRange yX0_putRange ∈ zz_g := zz_g_in (i := 415) (by decide +kernel) (by decide +kernel)
theorem zw_c_X0_putRange : Cond.code yX0_putRange cX0_putRange 8 none ∈ zz_g := zz_g_in (i := 416) (by decide +kernel) (by decide +kernel)
theorem zw_k_X0_9 : Cond.constantLong RX0 9 (-1) ∈ zz_g := zz_g_in (i := 351) (by decide +kernel) (by decide +kernel)
theorem zw_m_X0_24 : Cond.methodLink RX0 24 yX0_lowRange ∈ zz_g := zz_g_in (i := 417) (by decide +kernel) (by decide +kernel)
theorem zw_t_X0_lowRange : Cond.static yX0_lowRange ∈ zz_g := zz_g_in (i := 418) (by decide +kernel) (by decide +kernel)
theorem zw_c_X0_lowRange : Cond.code yX0_lowRange cX0_lowRange 2 (some .long) ∈ zz_g := zz_g_in (i := 419) (by decide +kernel) (by decide +kernel)
theorem zw_m_X0_11 : Cond.methodLink RX0 11 yX0_below ∈ zz_g := zz_g_in (i := 348) (by decide +kernel) (by decide +kernel)
theorem zw_t_X0_below : Cond.static yX0_below ∈ zz_g := zz_g_in (i := 349) (by decide +kernel) (by decide +kernel)
theorem zw_c_X0_below : Cond.code yX0_below cX0_below 1 (some .long) ∈ zz_g := zz_g_in (i := 350) (by decide +kernel) (by decide +kernel)
theorem zw_m_X0_28 : Cond.methodLink RX0 28 yX0_highRange ∈ zz_g := zz_g_in (i := 420) (by decide +kernel) (by decide +kernel)
theorem zw_t_X0_highRange : Cond.static yX0_highRange ∈ zz_g := zz_g_in (i := 421) (by decide +kernel) (by decide +kernel)
theorem zw_c_X0_highRange : Cond.code yX0_highRange cX0_highRange 2 (some .long) ∈ zz_g := zz_g_in (i := 422) (by decide +kernel) (by decide +kernel)
theorem zw_m_X4_81 : Cond.methodLink RX4 81 yX1_putRow ∈ zz_g := zz_g_in (i := 534) (by decide +kernel) (by decide +kernel)
theorem zw_m_L_149 : Cond.methodLink RL 149 yX5_set ∈ zz_g := zz_g_in (i := 952) (by decide +kernel) (by decide +kernel)
theorem zw_i_X5_set : Cond.instanceMethod yX5_set ∈ zz_g := zz_g_in (i := 953) (by decide +kernel) (by decide +kernel)
theorem zw_s_X5_set : Cond.selects RX5 yX5_set yX5_set ∈ zz_g := zz_g_in (i := 954) (by decide +kernel) (by decide +kernel)
theorem zw_c_X5_set : Cond.code yX5_set cX5_set 6 (some .boolean) ∈ zz_g := zz_g_in (i := 955) (by decide +kernel) (by decide +kernel)
theorem zw_m_X5_83 : Cond.methodLink RX5 83 yX5_isRow ∈ zz_g := zz_g_in (i := 956) (by decide +kernel) (by decide +kernel)
theorem zw_i_X5_isRow : Cond.instanceMethod yX5_isRow ∈ zz_g := zz_g_in (i := 958) (by decide +kernel) (by decide +kernel)
theorem zw_s_X5_isRow : Cond.selects RX5 yX5_isRow yX5_isRow ∈ zz_g := zz_g_in (i := 19) (by decide +kernel) (by decide +kernel)
theorem zw_c_X5_isRow : Cond.code yX5_isRow cX5_isRow 3 (some .boolean) ∈ zz_g := zz_g_in (i := 959) (by decide +kernel) (by decide +kernel)
theorem zw_m_X5_55 : Cond.methodLink RX5 55 yX5_isRelation ∈ zz_g := zz_g_in (i := 960) (by decide +kernel) (by decide +kernel)
theorem zw_t_X5_isRelation : Cond.static yX5_isRelation ∈ zz_g := zz_g_in (i := 961) (by decide +kernel) (by decide +kernel)
theorem zw_c_X5_isRelation : Cond.code yX5_isRelation cX5_isRelation 1 (some .boolean) ∈ zz_g := zz_g_in (i := 962) (by decide +kernel) (by decide +kernel)
theorem zw_m_X5_59 : Cond.methodLink RX5 59 yX5_isElement ∈ zz_g := zz_g_in (i := 963) (by decide +kernel) (by decide +kernel)
theorem zw_i_X5_isElement : Cond.instanceMethod yX5_isElement ∈ zz_g := zz_g_in (i := 965) (by decide +kernel) (by decide +kernel)
theorem zw_s_X5_isElement : Cond.selects RX5 yX5_isElement yX5_isElement ∈ zz_g := zz_g_in (i := 20) (by decide +kernel) (by decide +kernel)
theorem zw_c_X5_isElement : Cond.code yX5_isElement cX5_isElement 2 (some .boolean) ∈ zz_g := zz_g_in (i := 966) (by decide +kernel) (by decide +kernel)
theorem zw_m_X5_87 : Cond.methodLink RX5 87 yX5_denies ∈ zz_g := zz_g_in (i := 967) (by decide +kernel) (by decide +kernel)
theorem zw_i_X5_denies : Cond.instanceMethod yX5_denies ∈ zz_g := zz_g_in (i := 969) (by decide +kernel) (by decide +kernel)
theorem zw_s_X5_denies : Cond.selects RX5 yX5_denies yX5_denies ∈ zz_g := zz_g_in (i := 21) (by decide +kernel) (by decide +kernel)
theorem zw_c_X5_denies : Cond.code yX5_denies cX5_denies 2 (some .boolean) ∈ zz_g := zz_g_in (i := 970) (by decide +kernel) (by decide +kernel)
theorem zw_m_X5_66 : Cond.methodLink RX5 66 yX5_leads ∈ zz_g := zz_g_in (i := 971) (by decide +kernel) (by decide +kernel)
theorem zw_i_X5_leads : Cond.instanceMethod yX5_leads ∈ zz_g := zz_g_in (i := 973) (by decide +kernel) (by decide +kernel)
theorem zw_s_X5_leads : Cond.selects RX5 yX5_leads yX5_leads ∈ zz_g := zz_g_in (i := 22) (by decide +kernel) (by decide +kernel)
theorem zw_c_X5_leads : Cond.code yX5_leads cX5_leads 4 (some .boolean) ∈ zz_g := zz_g_in (i := 974) (by decide +kernel) (by decide +kernel)
theorem zw_m_X5_62 : Cond.methodLink RX5 62 yX5_place ∈ zz_g := zz_g_in (i := 975) (by decide +kernel) (by decide +kernel)
theorem zw_t_X5_place : Cond.static yX5_place ∈ zz_g := zz_g_in (i := 976) (by decide +kernel) (by decide +kernel)
theorem zw_c_X5_place : Cond.code yX5_place cX5_place 3 (some .int) ∈ zz_g := zz_g_in (i := 977) (by decide +kernel) (by decide +kernel)
theorem zw_m_X5_90 : Cond.methodLink RX5 90 yX5_says ∈ zz_g := zz_g_in (i := 978) (by decide +kernel) (by decide +kernel)
theorem zw_i_X5_says : Cond.instanceMethod yX5_says ∈ zz_g := zz_g_in (i := 980) (by decide +kernel) (by decide +kernel)
theorem zw_s_X5_says : Cond.selects RX5 yX5_says yX5_says ∈ zz_g := zz_g_in (i := 23) (by decide +kernel) (by decide +kernel)
theorem zw_c_X5_says : Cond.code yX5_says cX5_says 2 (some .boolean) ∈ zz_g := zz_g_in (i := 981) (by decide +kernel) (by decide +kernel)
theorem zw_m_L_150 : Cond.methodLink RL 150 yL_setRange ∈ zz_g := zz_g_in (i := 535) (by decide +kernel) (by decide +kernel)
theorem zw_t_L_setRange : Cond.static yL_setRange ∈ zz_g := zz_g_in (i := 536) (by decide +kernel) (by decide +kernel)
theorem zw_c_L_setRange : Cond.codeWith yL_setRange cL_setRange 8 (some .int) [(0, 16, 19, 19)] ∈ zz_g := zz_g_in (i := 537) (by decide +kernel) (by decide +kernel)
theorem zw_m_L_21 : Cond.methodLink RL 21 yX4_setRange ∈ zz_g := zz_g_in (i := 538) (by decide +kernel) (by decide +kernel)
theorem zw_i_X4_setRange : Cond.instanceMethod yX4_setRange ∈ zz_g := zz_g_in (i := 539) (by decide +kernel) (by decide +kernel)
theorem zw_s_X4_setRange : Cond.selects RX4 yX4_setRange yX4_setRange ∈ zz_g := zz_g_in (i := 540) (by decide +kernel) (by decide +kernel)
theorem zw_c_X4_setRange : Cond.code yX4_setRange cX4_setRange 7 (some .int) ∈ zz_g := zz_g_in (i := 541) (by decide +kernel) (by decide +kernel)
theorem zw_m_X4_84 : Cond.methodLink RX4 84 yX4_checkRange ∈ zz_g := zz_g_in (i := 542) (by decide +kernel) (by decide +kernel)
theorem zw_i_X4_checkRange : Cond.instanceMethod yX4_checkRange ∈ zz_g := zz_g_in (i := 544) (by decide +kernel) (by decide +kernel)
theorem zw_s_X4_checkRange : Cond.selects RX4 yX4_checkRange yX4_checkRange ∈ zz_g := zz_g_in (i := 13) (by decide +kernel) (by decide +kernel)
theorem zw_c_X4_checkRange : Cond.code yX4_checkRange cX4_checkRange 3 none ∈ zz_g := zz_g_in (i := 545) (by decide +kernel) (by decide +kernel)
theorem zw_m_X4_88 : Cond.methodLink RX4 88 yX1_sizeOf ∈ zz_g := zz_g_in (i := 547) (by decide +kernel) (by decide +kernel)
theorem zw_i_X1_sizeOf : Cond.instanceMethod yX1_sizeOf ∈ zz_g := zz_g_in (i := 548) (by decide +kernel) (by decide +kernel)
theorem zw_s_X1_sizeOf : Cond.selects RX1 yX1_sizeOf yX1_sizeOf ∈ zz_g := zz_g_in (i := 549) (by decide +kernel) (by decide +kernel)
theorem zw_c_X1_sizeOf : Cond.code yX1_sizeOf cX1_sizeOf 2 (some .int) ∈ zz_g := zz_g_in (i := 550) (by decide +kernel) (by decide +kernel)
theorem zw_m_X1_63 : Cond.methodLink RX1 63 yJ13_bitCount_95d88 ∈ zz_g := zz_g_in (i := 551) (by decide +kernel) (by decide +kernel)
theorem zw_t_J13_bitCount_95d88 : Cond.static yJ13_bitCount_95d88 ∈ zz_g := zz_g_in (i := 356) (by decide +kernel) (by decide +kernel)
theorem zw_n_J13 : Cond.initialized RJ13 ∈ zz_g := zz_g_in (i := 53) (by decide +kernel) (by decide +kernel)
theorem zw_c_J13_bitCount_95d88 : Cond.code yJ13_bitCount_95d88 cJ13_bitCount_95d88 2 (some .int) ∈ zz_g := zz_g_in (i := 357) (by decide +kernel) (by decide +kernel)
theorem zw_k_J13_314 : Cond.constantLong RJ13 314 (6148914691236517205) ∈ zz_g := zz_g_in (i := 358) (by decide +kernel) (by decide +kernel)
theorem zw_k_J13_316 : Cond.constantLong RJ13 316 (3689348814741910323) ∈ zz_g := zz_g_in (i := 359) (by decide +kernel) (by decide +kernel)
theorem zw_k_J13_318 : Cond.constantLong RJ13 318 (1085102592571150095) ∈ zz_g := zz_g_in (i := 360) (by decide +kernel) (by decide +kernel)
theorem zw_m_L_153 : Cond.methodLink RL 153 yX5_setRange ∈ zz_g := zz_g_in (i := 982) (by decide +kernel) (by decide +kernel)
theorem zw_i_X5_setRange : Cond.instanceMethod yX5_setRange ∈ zz_g := zz_g_in (i := 983) (by decide +kernel) (by decide +kernel)
theorem zw_s_X5_setRange : Cond.selects RX5 yX5_setRange yX5_setRange ∈ zz_g := zz_g_in (i := 984) (by decide +kernel) (by decide +kernel)
theorem zw_c_X5_setRange : Cond.code yX5_setRange cX5_setRange 7 (some .int) ∈ zz_g := zz_g_in (i := 985) (by decide +kernel) (by decide +kernel)
theorem zw_m_X5_94 : Cond.methodLink RX5 94 yX5_isRange ∈ zz_g := zz_g_in (i := 986) (by decide +kernel) (by decide +kernel)
theorem zw_i_X5_isRange : Cond.instanceMethod yX5_isRange ∈ zz_g := zz_g_in (i := 988) (by decide +kernel) (by decide +kernel)
theorem zw_s_X5_isRange : Cond.selects RX5 yX5_isRange yX5_isRange ∈ zz_g := zz_g_in (i := 24) (by decide +kernel) (by decide +kernel)
theorem zw_c_X5_isRange : Cond.code yX5_isRange cX5_isRange 3 (some .boolean) ∈ zz_g := zz_g_in (i := 989) (by decide +kernel) (by decide +kernel)
theorem zw_m_X5_69 : Cond.methodLink RX5 69 yX5_inRow ∈ zz_g := zz_g_in (i := 990) (by decide +kernel) (by decide +kernel)
theorem zw_i_X5_inRow : Cond.instanceMethod yX5_inRow ∈ zz_g := zz_g_in (i := 992) (by decide +kernel) (by decide +kernel)
theorem zw_s_X5_inRow : Cond.selects RX5 yX5_inRow yX5_inRow ∈ zz_g := zz_g_in (i := 25) (by decide +kernel) (by decide +kernel)
theorem zw_c_X5_inRow : Cond.code yX5_inRow cX5_inRow 5 (some .int) ∈ zz_g := zz_g_in (i := 993) (by decide +kernel) (by decide +kernel)
theorem zw_m_L_154 : Cond.methodLink RL 154 yL_flipRange ∈ zz_g := zz_g_in (i := 552) (by decide +kernel) (by decide +kernel)
theorem zw_t_L_flipRange : Cond.static yL_flipRange ∈ zz_g := zz_g_in (i := 553) (by decide +kernel) (by decide +kernel)
theorem zw_c_L_flipRange : Cond.codeWith yL_flipRange cL_flipRange 7 (some .int) [(0, 14, 17, 19)] ∈ zz_g := zz_g_in (i := 554) (by decide +kernel) (by decide +kernel)
theorem zw_m_L_25 : Cond.methodLink RL 25 yX4_flipRange ∈ zz_g := zz_g_in (i := 555) (by decide +kernel) (by decide +kernel)
theorem zw_i_X4_flipRange : Cond.instanceMethod yX4_flipRange ∈ zz_g := zz_g_in (i := 556) (by decide +kernel) (by decide +kernel)
theorem zw_s_X4_flipRange : Cond.selects RX4 yX4_flipRange yX4_flipRange ∈ zz_g := zz_g_in (i := 557) (by decide +kernel) (by decide +kernel)
theorem zw_c_X4_flipRange : Cond.code yX4_flipRange cX4_flipRange 6 (some .int) ∈ zz_g := zz_g_in (i := 558) (by decide +kernel) (by decide +kernel)
theorem zw_m_X4_92 : Cond.methodLink RX4 92 yX0_invert ∈ zz_g := zz_g_in (i := 559) (by decide +kernel) (by decide +kernel)
theorem zw_i_X0_invert : Cond.instanceMethod yX0_invert ∈ zz_g := zz_g_in (i := 560) (by decide +kernel) (by decide +kernel)
theorem zw_s_X0_invert : Cond.selects RX0 yX0_invert yX0_invert ∈ zz_g := zz_g_in (i := 561) (by decide +kernel) (by decide +kernel)
theorem zw_c_X0_invert : Cond.code yX0_invert cX0_invert 3 none ∈ zz_g := zz_g_in (i := 562) (by decide +kernel) (by decide +kernel)
theorem zw_m_L_157 : Cond.methodLink RL 157 yX5_flipRange ∈ zz_g := zz_g_in (i := 994) (by decide +kernel) (by decide +kernel)
theorem zw_i_X5_flipRange : Cond.instanceMethod yX5_flipRange ∈ zz_g := zz_g_in (i := 995) (by decide +kernel) (by decide +kernel)
theorem zw_s_X5_flipRange : Cond.selects RX5 yX5_flipRange yX5_flipRange ∈ zz_g := zz_g_in (i := 996) (by decide +kernel) (by decide +kernel)
theorem zw_c_X5_flipRange : Cond.code yX5_flipRange cX5_flipRange 6 (some .int) ∈ zz_g := zz_g_in (i := 997) (by decide +kernel) (by decide +kernel)
theorem zw_m_L_160 : Cond.methodLink RL 160 yL_setRow ∈ zz_g := zz_g_in (i := 563) (by decide +kernel) (by decide +kernel)
theorem zw_t_L_setRow : Cond.static yL_setRow ∈ zz_g := zz_g_in (i := 564) (by decide +kernel) (by decide +kernel)
theorem zw_c_L_setRow : Cond.codeWith yL_setRow cL_setRow 7 (some .int) [(0, 12, 15, 19)] ∈ zz_g := zz_g_in (i := 565) (by decide +kernel) (by decide +kernel)
theorem zw_m_L_29 : Cond.methodLink RL 29 yX4_setRow ∈ zz_g := zz_g_in (i := 566) (by decide +kernel) (by decide +kernel)
theorem zw_i_X4_setRow : Cond.instanceMethod yX4_setRow ∈ zz_g := zz_g_in (i := 567) (by decide +kernel) (by decide +kernel)
theorem zw_s_X4_setRow : Cond.selects RX4 yX4_setRow yX4_setRow ∈ zz_g := zz_g_in (i := 568) (by decide +kernel) (by decide +kernel)
theorem zw_c_X4_setRow : Cond.code yX4_setRow cX4_setRow 6 (some .int) ∈ zz_g := zz_g_in (i := 569) (by decide +kernel) (by decide +kernel)
theorem zw_f_X4_99 : Cond.fieldLink RX4 99 "Relationrows$Bits" "low" "J" ∈ zz_g := zz_g_in (i := 80) (by decide +kernel) (by decide +kernel)
theorem zw_m_X4_95 : Cond.methodLink RX4 95 yX0_lowRange ∈ zz_g := zz_g_in (i := 570) (by decide +kernel) (by decide +kernel)
theorem zw_m_L_163 : Cond.methodLink RL 163 yX5_setRow ∈ zz_g := zz_g_in (i := 998) (by decide +kernel) (by decide +kernel)
theorem zw_i_X5_setRow : Cond.instanceMethod yX5_setRow ∈ zz_g := zz_g_in (i := 999) (by decide +kernel) (by decide +kernel)
theorem zw_s_X5_setRow : Cond.selects RX5 yX5_setRow yX5_setRow ∈ zz_g := zz_g_in (i := 1000) (by decide +kernel) (by decide +kernel)
theorem zw_c_X5_setRow : Cond.code yX5_setRow cX5_setRow 6 (some .int) ∈ zz_g := zz_g_in (i := 1001) (by decide +kernel) (by decide +kernel)
theorem zw_m_L_164 : Cond.methodLink RL 164 yL_chain ∈ zz_g := zz_g_in (i := 571) (by decide +kernel) (by decide +kernel)
theorem zw_t_L_chain : Cond.static yL_chain ∈ zz_g := zz_g_in (i := 572) (by decide +kernel) (by decide +kernel)
theorem zw_c_L_chain : Cond.codeWith yL_chain cL_chain 4 (some .int) [(0, 9, 12, 19)] ∈ zz_g := zz_g_in (i := 573) (by decide +kernel) (by decide +kernel)
theorem zw_m_L_33 : Cond.methodLink RL 33 yX4_chain ∈ zz_g := zz_g_in (i := 574) (by decide +kernel) (by decide +kernel)
theorem zw_i_X4_chain : Cond.instanceMethod yX4_chain ∈ zz_g := zz_g_in (i := 575) (by decide +kernel) (by decide +kernel)
theorem zw_s_X4_chain : Cond.selects RX4 yX4_chain yX4_chain ∈ zz_g := zz_g_in (i := 576) (by decide +kernel) (by decide +kernel)
theorem zw_c_X4_chain : Cond.code yX4_chain cX4_chain 4 (some .int) ∈ zz_g := zz_g_in (i := 577) (by decide +kernel) (by decide +kernel)
theorem zw_m_X4_103 : Cond.methodLink RX4 103 yX1_join ∈ zz_g := zz_g_in (i := 578) (by decide +kernel) (by decide +kernel)
theorem zw_i_X1_join : Cond.instanceMethod yX1_join ∈ zz_g := zz_g_in (i := 579) (by decide +kernel) (by decide +kernel)
theorem zw_s_X1_join : Cond.selects RX1 yX1_join yX1_join ∈ zz_g := zz_g_in (i := 580) (by decide +kernel) (by decide +kernel)
theorem zw_c_X1_join : Cond.code yX1_join cX1_join 3 none ∈ zz_g := zz_g_in (i := 581) (by decide +kernel) (by decide +kernel)
theorem zw_m_X1_52 : Cond.methodLink RX1 52 yX0_lowRange ∈ zz_g := zz_g_in (i := 582) (by decide +kernel) (by decide +kernel)
theorem zw_m_X1_56 : Cond.methodLink RX1 56 yX0_highRange ∈ zz_g := zz_g_in (i := 583) (by decide +kernel) (by decide +kernel)
theorem zw_m_X4_106 : Cond.methodLink RX4 106 yX1_pairs ∈ zz_g := zz_g_in (i := 584) (by decide +kernel) (by decide +kernel)
theorem zw_i_X1_pairs : Cond.instanceMethod yX1_pairs ∈ zz_g := zz_g_in (i := 585) (by decide +kernel) (by decide +kernel)
theorem zw_s_X1_pairs : Cond.selects RX1 yX1_pairs yX1_pairs ∈ zz_g := zz_g_in (i := 586) (by decide +kernel) (by decide +kernel)
theorem zw_c_X1_pairs : Cond.code yX1_pairs cX1_pairs 3 (some .int) ∈ zz_g := zz_g_in (i := 587) (by decide +kernel) (by decide +kernel)
theorem zw_m_X1_69 : Cond.methodLink RX1 69 yX1_sizeOf ∈ zz_g := zz_g_in (i := 588) (by decide +kernel) (by decide +kernel)
theorem zw_m_L_166 : Cond.methodLink RL 166 yX5_chain ∈ zz_g := zz_g_in (i := 1002) (by decide +kernel) (by decide +kernel)
theorem zw_i_X5_chain : Cond.instanceMethod yX5_chain ∈ zz_g := zz_g_in (i := 1003) (by decide +kernel) (by decide +kernel)
theorem zw_s_X5_chain : Cond.selects RX5 yX5_chain yX5_chain ∈ zz_g := zz_g_in (i := 1004) (by decide +kernel) (by decide +kernel)
theorem zw_c_X5_chain : Cond.code yX5_chain cX5_chain 3 (some .int) ∈ zz_g := zz_g_in (i := 1005) (by decide +kernel) (by decide +kernel)
theorem zw_m_X5_73 : Cond.methodLink RX5 73 yX5_pairs ∈ zz_g := zz_g_in (i := 1006) (by decide +kernel) (by decide +kernel)
theorem zw_i_X5_pairs : Cond.instanceMethod yX5_pairs ∈ zz_g := zz_g_in (i := 1008) (by decide +kernel) (by decide +kernel)
theorem zw_s_X5_pairs : Cond.selects RX5 yX5_pairs yX5_pairs ∈ zz_g := zz_g_in (i := 26) (by decide +kernel) (by decide +kernel)
theorem zw_c_X5_pairs : Cond.code yX5_pairs cX5_pairs 4 (some .int) ∈ zz_g := zz_g_in (i := 1009) (by decide +kernel) (by decide +kernel)
theorem zw_m_L_167 : Cond.methodLink RL 167 yL_draw ∈ zz_g := zz_g_in (i := 589) (by decide +kernel) (by decide +kernel)
theorem zw_t_L_draw : Cond.static yL_draw ∈ zz_g := zz_g_in (i := 590) (by decide +kernel) (by decide +kernel)
theorem zw_c_L_draw : Cond.codeWith yL_draw cL_draw 6 (some .int) [(0, 12, 15, 19), (0, 12, 19, 13)] ∈ zz_g := zz_g_in (i := 591) (by decide +kernel) (by decide +kernel)
theorem zw_m_L_36 : Cond.methodLink RL 36 yX4_draw ∈ zz_g := zz_g_in (i := 592) (by decide +kernel) (by decide +kernel)
theorem zw_i_X4_draw : Cond.instanceMethod yX4_draw ∈ zz_g := zz_g_in (i := 593) (by decide +kernel) (by decide +kernel)
theorem zw_s_X4_draw : Cond.selects RX4 yX4_draw yX4_draw ∈ zz_g := zz_g_in (i := 594) (by decide +kernel) (by decide +kernel)
theorem zw_c_X4_draw : Cond.code yX4_draw cX4_draw 8 (some .int) ∈ zz_g := zz_g_in (i := 595) (by decide +kernel) (by decide +kernel)
theorem zw_m_X4_112 : Cond.methodLink RX4 112 yX4_seedAfter ∈ zz_g := zz_g_in (i := 597) (by decide +kernel) (by decide +kernel)
theorem zw_t_X4_seedAfter : Cond.static yX4_seedAfter ∈ zz_g := zz_g_in (i := 598) (by decide +kernel) (by decide +kernel)
theorem zw_c_X4_seedAfter : Cond.code yX4_seedAfter cX4_seedAfter 1 (some .int) ∈ zz_g := zz_g_in (i := 599) (by decide +kernel) (by decide +kernel)
theorem zw_k_X4_248 : Cond.constant RX4 248 (1103515245) ∈ zz_g := zz_g_in (i := 600) (by decide +kernel) (by decide +kernel)
theorem zw_m_X4_115 : Cond.methodLink RX4 115 yX4_elementOf ∈ zz_g := zz_g_in (i := 601) (by decide +kernel) (by decide +kernel)
theorem zw_i_X4_elementOf : Cond.instanceMethod yX4_elementOf ∈ zz_g := zz_g_in (i := 603) (by decide +kernel) (by decide +kernel)
theorem zw_s_X4_elementOf : Cond.selects RX4 yX4_elementOf yX4_elementOf ∈ zz_g := zz_g_in (i := 14) (by decide +kernel) (by decide +kernel)
theorem zw_c_X4_elementOf : Cond.code yX4_elementOf cX4_elementOf 2 (some .int) ∈ zz_g := zz_g_in (i := 604) (by decide +kernel) (by decide +kernel)
theorem zw_m_L_170 : Cond.methodLink RL 170 yX5_draw ∈ zz_g := zz_g_in (i := 1010) (by decide +kernel) (by decide +kernel)
theorem zw_i_X5_draw : Cond.instanceMethod yX5_draw ∈ zz_g := zz_g_in (i := 1011) (by decide +kernel) (by decide +kernel)
theorem zw_s_X5_draw : Cond.selects RX5 yX5_draw yX5_draw ∈ zz_g := zz_g_in (i := 1012) (by decide +kernel) (by decide +kernel)
theorem zw_c_X5_draw : Cond.code yX5_draw cX5_draw 7 (some .int) ∈ zz_g := zz_g_in (i := 1013) (by decide +kernel) (by decide +kernel)
theorem zw_k_X5_97 : Cond.constant RX5 97 (1103515245) ∈ zz_g := zz_g_in (i := 1014) (by decide +kernel) (by decide +kernel)
theorem zw_m_L_171 : Cond.methodLink RL 171 yL_copy ∈ zz_g := zz_g_in (i := 605) (by decide +kernel) (by decide +kernel)
theorem zw_t_L_copy : Cond.static yL_copy ∈ zz_g := zz_g_in (i := 606) (by decide +kernel) (by decide +kernel)
theorem zw_c_L_copy : Cond.codeWith yL_copy cL_copy 5 (some .int) [(0, 10, 13, 19)] ∈ zz_g := zz_g_in (i := 607) (by decide +kernel) (by decide +kernel)
theorem zw_m_L_40 : Cond.methodLink RL 40 yX4_copy ∈ zz_g := zz_g_in (i := 608) (by decide +kernel) (by decide +kernel)
theorem zw_i_X4_copy : Cond.instanceMethod yX4_copy ∈ zz_g := zz_g_in (i := 609) (by decide +kernel) (by decide +kernel)
theorem zw_s_X4_copy : Cond.selects RX4 yX4_copy yX4_copy ∈ zz_g := zz_g_in (i := 610) (by decide +kernel) (by decide +kernel)
theorem zw_c_X4_copy : Cond.code yX4_copy cX4_copy 5 (some .int) ∈ zz_g := zz_g_in (i := 611) (by decide +kernel) (by decide +kernel)
theorem zw_m_X4_118 : Cond.methodLink RX4 118 yX1_take ∈ zz_g := zz_g_in (i := 612) (by decide +kernel) (by decide +kernel)
theorem zw_i_X1_take : Cond.instanceMethod yX1_take ∈ zz_g := zz_g_in (i := 283) (by decide +kernel) (by decide +kernel)
theorem zw_s_X1_take : Cond.selects RX1 yX1_take yX1_take ∈ zz_g := zz_g_in (i := 284) (by decide +kernel) (by decide +kernel)
theorem zw_c_X1_take : Cond.code yX1_take cX1_take 3 none ∈ zz_g := zz_g_in (i := 285) (by decide +kernel) (by decide +kernel)
theorem zw_m_L_174 : Cond.methodLink RL 174 yX5_copy ∈ zz_g := zz_g_in (i := 1015) (by decide +kernel) (by decide +kernel)
theorem zw_i_X5_copy : Cond.instanceMethod yX5_copy ∈ zz_g := zz_g_in (i := 1016) (by decide +kernel) (by decide +kernel)
theorem zw_s_X5_copy : Cond.selects RX5 yX5_copy yX5_copy ∈ zz_g := zz_g_in (i := 1017) (by decide +kernel) (by decide +kernel)
theorem zw_c_X5_copy : Cond.code yX5_copy cX5_copy 4 (some .int) ∈ zz_g := zz_g_in (i := 1018) (by decide +kernel) (by decide +kernel)
theorem zw_m_L_175 : Cond.methodLink RL 175 yL_combine ∈ zz_g := zz_g_in (i := 613) (by decide +kernel) (by decide +kernel)
theorem zw_t_L_combine : Cond.static yL_combine ∈ zz_g := zz_g_in (i := 614) (by decide +kernel) (by decide +kernel)
theorem zw_c_L_combine : Cond.codeWith yL_combine cL_combine 6 (some .int) [(0, 12, 15, 19), (0, 12, 19, 13)] ∈ zz_g := zz_g_in (i := 615) (by decide +kernel) (by decide +kernel)
theorem zw_m_L_44 : Cond.methodLink RL 44 yX4_combine ∈ zz_g := zz_g_in (i := 616) (by decide +kernel) (by decide +kernel)
theorem zw_i_X4_combine : Cond.instanceMethod yX4_combine ∈ zz_g := zz_g_in (i := 617) (by decide +kernel) (by decide +kernel)
theorem zw_s_X4_combine : Cond.selects RX4 yX4_combine yX4_combine ∈ zz_g := zz_g_in (i := 618) (by decide +kernel) (by decide +kernel)
theorem zw_c_X4_combine : Cond.code yX4_combine cX4_combine 6 (some .int) ∈ zz_g := zz_g_in (i := 619) (by decide +kernel) (by decide +kernel)
theorem zw_m_X4_124 : Cond.methodLink RX4 124 yX1_mix ∈ zz_g := zz_g_in (i := 621) (by decide +kernel) (by decide +kernel)
theorem zw_i_X1_mix : Cond.instanceMethod yX1_mix ∈ zz_g := zz_g_in (i := 478) (by decide +kernel) (by decide +kernel)
theorem zw_s_X1_mix : Cond.selects RX1 yX1_mix yX1_mix ∈ zz_g := zz_g_in (i := 479) (by decide +kernel) (by decide +kernel)
theorem zw_c_X1_mix : Cond.code yX1_mix cX1_mix 4 none ∈ zz_g := zz_g_in (i := 480) (by decide +kernel) (by decide +kernel)
theorem zw_m_X1_77 : Cond.methodLink RX1 77 yX1_mixed ∈ zz_g := zz_g_in (i := 481) (by decide +kernel) (by decide +kernel)
theorem zw_t_X1_mixed : Cond.static yX1_mixed ∈ zz_g := zz_g_in (i := 482) (by decide +kernel) (by decide +kernel)
theorem zw_c_X1_mixed : Cond.code yX1_mixed cX1_mixed 5 (some .long) ∈ zz_g := zz_g_in (i := 483) (by decide +kernel) (by decide +kernel)
theorem zw_k_X1_81 : Cond.constantLong RX1 81 (-1) ∈ zz_g := zz_g_in (i := 448) (by decide +kernel) (by decide +kernel)
theorem zw_m_L_177 : Cond.methodLink RL 177 yX5_combine ∈ zz_g := zz_g_in (i := 1019) (by decide +kernel) (by decide +kernel)
theorem zw_i_X5_combine : Cond.instanceMethod yX5_combine ∈ zz_g := zz_g_in (i := 1020) (by decide +kernel) (by decide +kernel)
theorem zw_s_X5_combine : Cond.selects RX5 yX5_combine yX5_combine ∈ zz_g := zz_g_in (i := 1021) (by decide +kernel) (by decide +kernel)
theorem zw_c_X5_combine : Cond.code yX5_combine cX5_combine 7 (some .int) ∈ zz_g := zz_g_in (i := 1022) (by decide +kernel) (by decide +kernel)
theorem zw_m_L_178 : Cond.methodLink RL 178 yL_compose ∈ zz_g := zz_g_in (i := 622) (by decide +kernel) (by decide +kernel)
theorem zw_t_L_compose : Cond.static yL_compose ∈ zz_g := zz_g_in (i := 623) (by decide +kernel) (by decide +kernel)
theorem zw_c_L_compose : Cond.codeWith yL_compose cL_compose 6 (some .int) [(0, 12, 15, 19)] ∈ zz_g := zz_g_in (i := 624) (by decide +kernel) (by decide +kernel)
theorem zw_m_L_47 : Cond.methodLink RL 47 yX4_compose ∈ zz_g := zz_g_in (i := 625) (by decide +kernel) (by decide +kernel)
theorem zw_i_X4_compose : Cond.instanceMethod yX4_compose ∈ zz_g := zz_g_in (i := 626) (by decide +kernel) (by decide +kernel)
theorem zw_s_X4_compose : Cond.selects RX4 yX4_compose yX4_compose ∈ zz_g := zz_g_in (i := 627) (by decide +kernel) (by decide +kernel)
theorem zw_c_X4_compose : Cond.code yX4_compose cX4_compose 7 (some .int) ∈ zz_g := zz_g_in (i := 628) (by decide +kernel) (by decide +kernel)
theorem zw_m_X4_128 : Cond.methodLink RX4 128 yX1_product ∈ zz_g := zz_g_in (i := 629) (by decide +kernel) (by decide +kernel)
theorem zw_i_X1_product : Cond.instanceMethod yX1_product ∈ zz_g := zz_g_in (i := 466) (by decide +kernel) (by decide +kernel)
theorem zw_s_X1_product : Cond.selects RX1 yX1_product yX1_product ∈ zz_g := zz_g_in (i := 467) (by decide +kernel) (by decide +kernel)
theorem zw_c_X1_product : Cond.code yX1_product cX1_product 4 none ∈ zz_g := zz_g_in (i := 468) (by decide +kernel) (by decide +kernel)
theorem zw_m_X1_83 : Cond.methodLink RX1 83 yX1_rowInto ∈ zz_g := zz_g_in (i := 446) (by decide +kernel) (by decide +kernel)
theorem zw_m_X1_86 : Cond.methodLink RX1 86 yX1_imageOf ∈ zz_g := zz_g_in (i := 447) (by decide +kernel) (by decide +kernel)
theorem zw_i_X1_imageOf : Cond.instanceMethod yX1_imageOf ∈ zz_g := zz_g_in (i := 341) (by decide +kernel) (by decide +kernel)
theorem zw_s_X1_imageOf : Cond.selects RX1 yX1_imageOf yX1_imageOf ∈ zz_g := zz_g_in (i := 342) (by decide +kernel) (by decide +kernel)
theorem zw_c_X1_imageOf : Cond.code yX1_imageOf cX1_imageOf 9 none ∈ zz_g := zz_g_in (i := 343) (by decide +kernel) (by decide +kernel)
theorem zw_m_X1_96 : Cond.methodLink RX1 96 yX0_leastFrom ∈ zz_g := zz_g_in (i := 344) (by decide +kernel) (by decide +kernel)
theorem zw_i_X0_leastFrom : Cond.instanceMethod yX0_leastFrom ∈ zz_g := zz_g_in (i := 345) (by decide +kernel) (by decide +kernel)
theorem zw_s_X0_leastFrom : Cond.selects RX0 yX0_leastFrom yX0_leastFrom ∈ zz_g := zz_g_in (i := 346) (by decide +kernel) (by decide +kernel)
theorem zw_c_X0_leastFrom : Cond.code yX0_leastFrom cX0_leastFrom 6 (some .int) ∈ zz_g := zz_g_in (i := 347) (by decide +kernel) (by decide +kernel)
theorem zw_m_X0_37 : Cond.methodLink RX0 37 yX0_placeOfLeast ∈ zz_g := zz_g_in (i := 352) (by decide +kernel) (by decide +kernel)
theorem zw_t_X0_placeOfLeast : Cond.static yX0_placeOfLeast ∈ zz_g := zz_g_in (i := 353) (by decide +kernel) (by decide +kernel)
theorem zw_c_X0_placeOfLeast : Cond.code yX0_placeOfLeast cX0_placeOfLeast 2 (some .int) ∈ zz_g := zz_g_in (i := 354) (by decide +kernel) (by decide +kernel)
theorem zw_m_X0_31 : Cond.methodLink RX0 31 yJ13_bitCount_95d88 ∈ zz_g := zz_g_in (i := 355) (by decide +kernel) (by decide +kernel)
theorem zw_m_L_180 : Cond.methodLink RL 180 yX5_compose ∈ zz_g := zz_g_in (i := 1023) (by decide +kernel) (by decide +kernel)
theorem zw_i_X5_compose : Cond.instanceMethod yX5_compose ∈ zz_g := zz_g_in (i := 1024) (by decide +kernel) (by decide +kernel)
theorem zw_s_X5_compose : Cond.selects RX5 yX5_compose yX5_compose ∈ zz_g := zz_g_in (i := 1025) (by decide +kernel) (by decide +kernel)
theorem zw_c_X5_compose : Cond.code yX5_compose cX5_compose 4 (some .int) ∈ zz_g := zz_g_in (i := 1026) (by decide +kernel) (by decide +kernel)
theorem zw_m_X5_98 : Cond.methodLink RX5 98 yX5_composes ∈ zz_g := zz_g_in (i := 1027) (by decide +kernel) (by decide +kernel)
theorem zw_i_X5_composes : Cond.instanceMethod yX5_composes ∈ zz_g := zz_g_in (i := 1029) (by decide +kernel) (by decide +kernel)
theorem zw_s_X5_composes : Cond.selects RX5 yX5_composes yX5_composes ∈ zz_g := zz_g_in (i := 27) (by decide +kernel) (by decide +kernel)
theorem zw_c_X5_composes : Cond.code yX5_composes cX5_composes 7 none ∈ zz_g := zz_g_in (i := 1030) (by decide +kernel) (by decide +kernel)
theorem zw_m_X5_102 : Cond.methodLink RX5 102 yX5_lays ∈ zz_g := zz_g_in (i := 1031) (by decide +kernel) (by decide +kernel)
theorem zw_i_X5_lays : Cond.instanceMethod yX5_lays ∈ zz_g := zz_g_in (i := 1033) (by decide +kernel) (by decide +kernel)
theorem zw_s_X5_lays : Cond.selects RX5 yX5_lays yX5_lays ∈ zz_g := zz_g_in (i := 28) (by decide +kernel) (by decide +kernel)
theorem zw_c_X5_lays : Cond.code yX5_lays cX5_lays 4 (some .int) ∈ zz_g := zz_g_in (i := 1034) (by decide +kernel) (by decide +kernel)
theorem zw_m_L_181 : Cond.methodLink RL 181 yL_turn ∈ zz_g := zz_g_in (i := 630) (by decide +kernel) (by decide +kernel)
theorem zw_t_L_turn : Cond.static yL_turn ∈ zz_g := zz_g_in (i := 631) (by decide +kernel) (by decide +kernel)
theorem zw_c_L_turn : Cond.codeWith yL_turn cL_turn 4 (some .int) [(0, 9, 12, 19)] ∈ zz_g := zz_g_in (i := 632) (by decide +kernel) (by decide +kernel)
theorem zw_m_L_50 : Cond.methodLink RL 50 yX4_turn ∈ zz_g := zz_g_in (i := 633) (by decide +kernel) (by decide +kernel)
theorem zw_i_X4_turn : Cond.instanceMethod yX4_turn ∈ zz_g := zz_g_in (i := 634) (by decide +kernel) (by decide +kernel)
theorem zw_s_X4_turn : Cond.selects RX4 yX4_turn yX4_turn ∈ zz_g := zz_g_in (i := 635) (by decide +kernel) (by decide +kernel)
theorem zw_c_X4_turn : Cond.code yX4_turn cX4_turn 3 (some .int) ∈ zz_g := zz_g_in (i := 636) (by decide +kernel) (by decide +kernel)
theorem zw_m_X4_132 : Cond.methodLink RX4 132 yX1_reverse ∈ zz_g := zz_g_in (i := 637) (by decide +kernel) (by decide +kernel)
theorem zw_i_X1_reverse : Cond.instanceMethod yX1_reverse ∈ zz_g := zz_g_in (i := 638) (by decide +kernel) (by decide +kernel)
theorem zw_s_X1_reverse : Cond.selects RX1 yX1_reverse yX1_reverse ∈ zz_g := zz_g_in (i := 639) (by decide +kernel) (by decide +kernel)
theorem zw_c_X1_reverse : Cond.code yX1_reverse cX1_reverse 3 none ∈ zz_g := zz_g_in (i := 640) (by decide +kernel) (by decide +kernel)
theorem zw_m_X1_73 : Cond.methodLink RX1 73 yX1_holds ∈ zz_g := zz_g_in (i := 302) (by decide +kernel) (by decide +kernel)
theorem zw_m_X1_90 : Cond.methodLink RX1 90 yX1_swapPair ∈ zz_g := zz_g_in (i := 641) (by decide +kernel) (by decide +kernel)
theorem zw_i_X1_swapPair : Cond.instanceMethod yX1_swapPair ∈ zz_g := zz_g_in (i := 643) (by decide +kernel) (by decide +kernel)
theorem zw_s_X1_swapPair : Cond.selects RX1 yX1_swapPair yX1_swapPair ∈ zz_g := zz_g_in (i := 15) (by decide +kernel) (by decide +kernel)
theorem zw_c_X1_swapPair : Cond.code yX1_swapPair cX1_swapPair 3 none ∈ zz_g := zz_g_in (i := 644) (by decide +kernel) (by decide +kernel)
theorem zw_m_L_183 : Cond.methodLink RL 183 yX5_turn ∈ zz_g := zz_g_in (i := 1035) (by decide +kernel) (by decide +kernel)
theorem zw_i_X5_turn : Cond.instanceMethod yX5_turn ∈ zz_g := zz_g_in (i := 1036) (by decide +kernel) (by decide +kernel)
theorem zw_s_X5_turn : Cond.selects RX5 yX5_turn yX5_turn ∈ zz_g := zz_g_in (i := 1037) (by decide +kernel) (by decide +kernel)
theorem zw_c_X5_turn : Cond.code yX5_turn cX5_turn 4 (some .int) ∈ zz_g := zz_g_in (i := 1038) (by decide +kernel) (by decide +kernel)
theorem zw_m_L_184 : Cond.methodLink RL 184 yL_oppose ∈ zz_g := zz_g_in (i := 645) (by decide +kernel) (by decide +kernel)
theorem zw_t_L_oppose : Cond.static yL_oppose ∈ zz_g := zz_g_in (i := 646) (by decide +kernel) (by decide +kernel)
theorem zw_c_L_oppose : Cond.codeWith yL_oppose cL_oppose 4 (some .int) [(0, 9, 12, 19)] ∈ zz_g := zz_g_in (i := 647) (by decide +kernel) (by decide +kernel)
theorem zw_m_L_53 : Cond.methodLink RL 53 yX4_oppose ∈ zz_g := zz_g_in (i := 648) (by decide +kernel) (by decide +kernel)
theorem zw_i_X4_oppose : Cond.instanceMethod yX4_oppose ∈ zz_g := zz_g_in (i := 649) (by decide +kernel) (by decide +kernel)
theorem zw_s_X4_oppose : Cond.selects RX4 yX4_oppose yX4_oppose ∈ zz_g := zz_g_in (i := 650) (by decide +kernel) (by decide +kernel)
theorem zw_c_X4_oppose : Cond.code yX4_oppose cX4_oppose 3 (some .int) ∈ zz_g := zz_g_in (i := 651) (by decide +kernel) (by decide +kernel)
theorem zw_m_X4_135 : Cond.methodLink RX4 135 yX1_invert ∈ zz_g := zz_g_in (i := 652) (by decide +kernel) (by decide +kernel)
theorem zw_i_X1_invert : Cond.instanceMethod yX1_invert ∈ zz_g := zz_g_in (i := 653) (by decide +kernel) (by decide +kernel)
theorem zw_s_X1_invert : Cond.selects RX1 yX1_invert yX1_invert ∈ zz_g := zz_g_in (i := 654) (by decide +kernel) (by decide +kernel)
theorem zw_c_X1_invert : Cond.code yX1_invert cX1_invert 2 none ∈ zz_g := zz_g_in (i := 655) (by decide +kernel) (by decide +kernel)
theorem zw_m_X1_93 : Cond.methodLink RX1 93 yX0_invert ∈ zz_g := zz_g_in (i := 656) (by decide +kernel) (by decide +kernel)
theorem zw_m_L_186 : Cond.methodLink RL 186 yX5_oppose ∈ zz_g := zz_g_in (i := 1039) (by decide +kernel) (by decide +kernel)
theorem zw_i_X5_oppose : Cond.instanceMethod yX5_oppose ∈ zz_g := zz_g_in (i := 1040) (by decide +kernel) (by decide +kernel)
theorem zw_s_X5_oppose : Cond.selects RX5 yX5_oppose yX5_oppose ∈ zz_g := zz_g_in (i := 1041) (by decide +kernel) (by decide +kernel)
theorem zw_c_X5_oppose : Cond.code yX5_oppose cX5_oppose 4 (some .int) ∈ zz_g := zz_g_in (i := 1042) (by decide +kernel) (by decide +kernel)
theorem zw_m_L_187 : Cond.methodLink RL 187 yL_close ∈ zz_g := zz_g_in (i := 657) (by decide +kernel) (by decide +kernel)
theorem zw_t_L_close : Cond.static yL_close ∈ zz_g := zz_g_in (i := 658) (by decide +kernel) (by decide +kernel)
theorem zw_c_L_close : Cond.codeWith yL_close cL_close 5 (some .int) [(0, 10, 13, 19)] ∈ zz_g := zz_g_in (i := 659) (by decide +kernel) (by decide +kernel)
theorem zw_m_L_56 : Cond.methodLink RL 56 yX4_close ∈ zz_g := zz_g_in (i := 660) (by decide +kernel) (by decide +kernel)
theorem zw_i_X4_close : Cond.instanceMethod yX4_close ∈ zz_g := zz_g_in (i := 661) (by decide +kernel) (by decide +kernel)
theorem zw_s_X4_close : Cond.selects RX4 yX4_close yX4_close ∈ zz_g := zz_g_in (i := 662) (by decide +kernel) (by decide +kernel)
theorem zw_c_X4_close : Cond.code yX4_close cX4_close 4 (some .int) ∈ zz_g := zz_g_in (i := 663) (by decide +kernel) (by decide +kernel)
theorem zw_m_X4_137 : Cond.methodLink RX4 137 yX1_closeUp ∈ zz_g := zz_g_in (i := 664) (by decide +kernel) (by decide +kernel)
theorem zw_i_X1_closeUp : Cond.instanceMethod yX1_closeUp ∈ zz_g := zz_g_in (i := 299) (by decide +kernel) (by decide +kernel)
theorem zw_s_X1_closeUp : Cond.selects RX1 yX1_closeUp yX1_closeUp ∈ zz_g := zz_g_in (i := 300) (by decide +kernel) (by decide +kernel)
theorem zw_c_X1_closeUp : Cond.code yX1_closeUp cX1_closeUp 7 none ∈ zz_g := zz_g_in (i := 301) (by decide +kernel) (by decide +kernel)
theorem zw_m_X4_140 : Cond.methodLink RX4 140 yX1_joinOwn ∈ zz_g := zz_g_in (i := 665) (by decide +kernel) (by decide +kernel)
theorem zw_i_X1_joinOwn : Cond.instanceMethod yX1_joinOwn ∈ zz_g := zz_g_in (i := 666) (by decide +kernel) (by decide +kernel)
theorem zw_s_X1_joinOwn : Cond.selects RX1 yX1_joinOwn yX1_joinOwn ∈ zz_g := zz_g_in (i := 667) (by decide +kernel) (by decide +kernel)
theorem zw_c_X1_joinOwn : Cond.code yX1_joinOwn cX1_joinOwn 2 none ∈ zz_g := zz_g_in (i := 668) (by decide +kernel) (by decide +kernel)
theorem zw_m_X1_59 : Cond.methodLink RX1 59 yX1_join ∈ zz_g := zz_g_in (i := 669) (by decide +kernel) (by decide +kernel)
theorem zw_m_L_190 : Cond.methodLink RL 190 yX5_close ∈ zz_g := zz_g_in (i := 1043) (by decide +kernel) (by decide +kernel)
theorem zw_i_X5_close : Cond.instanceMethod yX5_close ∈ zz_g := zz_g_in (i := 1044) (by decide +kernel) (by decide +kernel)
theorem zw_s_X5_close : Cond.selects RX5 yX5_close yX5_close ∈ zz_g := zz_g_in (i := 1045) (by decide +kernel) (by decide +kernel)
theorem zw_c_X5_close : Cond.code yX5_close cX5_close 4 (some .int) ∈ zz_g := zz_g_in (i := 1046) (by decide +kernel) (by decide +kernel)
theorem zw_m_X5_108 : Cond.methodLink RX5 108 yX5_closes ∈ zz_g := zz_g_in (i := 1047) (by decide +kernel) (by decide +kernel)
theorem zw_i_X5_closes : Cond.instanceMethod yX5_closes ∈ zz_g := zz_g_in (i := 1049) (by decide +kernel) (by decide +kernel)
theorem zw_s_X5_closes : Cond.selects RX5 yX5_closes yX5_closes ∈ zz_g := zz_g_in (i := 29) (by decide +kernel) (by decide +kernel)
theorem zw_c_X5_closes : Cond.code yX5_closes cX5_closes 4 none ∈ zz_g := zz_g_in (i := 1050) (by decide +kernel) (by decide +kernel)
theorem zw_m_X5_105 : Cond.methodLink RX5 105 yX5_walks ∈ zz_g := zz_g_in (i := 1051) (by decide +kernel) (by decide +kernel)
theorem zw_i_X5_walks : Cond.instanceMethod yX5_walks ∈ zz_g := zz_g_in (i := 1053) (by decide +kernel) (by decide +kernel)
theorem zw_s_X5_walks : Cond.selects RX5 yX5_walks yX5_walks ∈ zz_g := zz_g_in (i := 30) (by decide +kernel) (by decide +kernel)
theorem zw_c_X5_walks : Cond.code yX5_walks cX5_walks 7 none ∈ zz_g := zz_g_in (i := 1054) (by decide +kernel) (by decide +kernel)
theorem zw_m_L_191 : Cond.methodLink RL 191 yL_cover ∈ zz_g := zz_g_in (i := 670) (by decide +kernel) (by decide +kernel)
theorem zw_t_L_cover : Cond.static yL_cover ∈ zz_g := zz_g_in (i := 671) (by decide +kernel) (by decide +kernel)
theorem zw_c_L_cover : Cond.codeWith yL_cover cL_cover 5 (some .int) [(0, 10, 13, 19), (0, 10, 17, 63)] ∈ zz_g := zz_g_in (i := 672) (by decide +kernel) (by decide +kernel)
theorem zw_l_L_63 : Cond.classLink RL 63 "java/lang/IllegalStateException" ∈ zz_g := zz_g_in (i := 673) (by decide +kernel) (by decide +kernel)
theorem zw_m_L_60 : Cond.methodLink RL 60 yX4_cover ∈ zz_g := zz_g_in (i := 674) (by decide +kernel) (by decide +kernel)
theorem zw_i_X4_cover : Cond.instanceMethod yX4_cover ∈ zz_g := zz_g_in (i := 675) (by decide +kernel) (by decide +kernel)
theorem zw_s_X4_cover : Cond.selects RX4 yX4_cover yX4_cover ∈ zz_g := zz_g_in (i := 676) (by decide +kernel) (by decide +kernel)
theorem zw_c_X4_cover : Cond.code yX4_cover cX4_cover 5 (some .int) ∈ zz_g := zz_g_in (i := 677) (by decide +kernel) (by decide +kernel)
theorem zw_l_X4_147 : Cond.classLink RX4 147 "java/lang/IllegalStateException" ∈ zz_g := zz_g_in (i := 682) (by decide +kernel) (by decide +kernel)
theorem zw_n_java_lang_IllegalStateException : Cond.initialized "java/lang/IllegalStateException" ∈ zz_g := zz_g_in (i := 54) (by decide +kernel) (by decide +kernel)
theorem zw_m_X4_143 : Cond.methodLink RX4 143 yX3_longest ∈ zz_g := zz_g_in (i := 678) (by decide +kernel) (by decide +kernel)
theorem zw_i_X3_longest : Cond.instanceMethod yX3_longest ∈ zz_g := zz_g_in (i := 679) (by decide +kernel) (by decide +kernel)
theorem zw_s_X3_longest : Cond.selects RX3 yX3_longest yX3_longest ∈ zz_g := zz_g_in (i := 680) (by decide +kernel) (by decide +kernel)
theorem zw_c_X3_longest : Cond.code yX3_longest cX3_longest 4 (some .int) ∈ zz_g := zz_g_in (i := 681) (by decide +kernel) (by decide +kernel)
theorem zw_m_X3_34 : Cond.methodLink RX3 34 yX1_elementsInside ∈ zz_g := zz_g_in (i := 322) (by decide +kernel) (by decide +kernel)
theorem zw_i_X1_elementsInside : Cond.instanceMethod yX1_elementsInside ∈ zz_g := zz_g_in (i := 311) (by decide +kernel) (by decide +kernel)
theorem zw_s_X1_elementsInside : Cond.selects RX1 yX1_elementsInside yX1_elementsInside ∈ zz_g := zz_g_in (i := 312) (by decide +kernel) (by decide +kernel)
theorem zw_c_X1_elementsInside : Cond.code yX1_elementsInside cX1_elementsInside 1 (some .int) ∈ zz_g := zz_g_in (i := 313) (by decide +kernel) (by decide +kernel)
theorem zw_m_X3_74 : Cond.methodLink RX3 74 yX0_clear ∈ zz_g := zz_g_in (i := 409) (by decide +kernel) (by decide +kernel)
theorem zw_m_X3_77 : Cond.methodLink RX3 77 yX0_putRange ∈ zz_g := zz_g_in (i := 413) (by decide +kernel) (by decide +kernel)
theorem zw_m_X3_64 : Cond.methodLink RX3 64 yX1_imageOf ∈ zz_g := zz_g_in (i := 340) (by decide +kernel) (by decide +kernel)
theorem zw_m_X3_52 : Cond.methodLink RX3 52 yX0_isEmpty ∈ zz_g := zz_g_in (i := 332) (by decide +kernel) (by decide +kernel)
theorem zw_i_X0_isEmpty : Cond.instanceMethod yX0_isEmpty ∈ zz_g := zz_g_in (i := 333) (by decide +kernel) (by decide +kernel)
theorem zw_s_X0_isEmpty : Cond.selects RX0 yX0_isEmpty yX0_isEmpty ∈ zz_g := zz_g_in (i := 334) (by decide +kernel) (by decide +kernel)
theorem zw_c_X0_isEmpty : Cond.code yX0_isEmpty cX0_isEmpty 1 (some .boolean) ∈ zz_g := zz_g_in (i := 335) (by decide +kernel) (by decide +kernel)
theorem zw_m_X4_152 : Cond.methodLink RX4 152 yX4_closeAside ∈ zz_g := zz_g_in (i := 698) (by decide +kernel) (by decide +kernel)
theorem zw_i_X4_closeAside : Cond.instanceMethod yX4_closeAside ∈ zz_g := zz_g_in (i := 700) (by decide +kernel) (by decide +kernel)
theorem zw_s_X4_closeAside : Cond.selects RX4 yX4_closeAside yX4_closeAside ∈ zz_g := zz_g_in (i := 16) (by decide +kernel) (by decide +kernel)
theorem zw_c_X4_closeAside : Cond.code yX4_closeAside cX4_closeAside 2 none ∈ zz_g := zz_g_in (i := 701) (by decide +kernel) (by decide +kernel)
theorem zw_m_X4_155 : Cond.methodLink RX4 155 yX1_takeCovers ∈ zz_g := zz_g_in (i := 702) (by decide +kernel) (by decide +kernel)
theorem zw_i_X1_takeCovers : Cond.instanceMethod yX1_takeCovers ∈ zz_g := zz_g_in (i := 443) (by decide +kernel) (by decide +kernel)
theorem zw_s_X1_takeCovers : Cond.selects RX1 yX1_takeCovers yX1_takeCovers ∈ zz_g := zz_g_in (i := 444) (by decide +kernel) (by decide +kernel)
theorem zw_c_X1_takeCovers : Cond.code yX1_takeCovers cX1_takeCovers 3 none ∈ zz_g := zz_g_in (i := 445) (by decide +kernel) (by decide +kernel)
theorem zw_m_L_193 : Cond.methodLink RL 193 yX5_cover ∈ zz_g := zz_g_in (i := 1055) (by decide +kernel) (by decide +kernel)
theorem zw_i_X5_cover : Cond.instanceMethod yX5_cover ∈ zz_g := zz_g_in (i := 1056) (by decide +kernel) (by decide +kernel)
theorem zw_s_X5_cover : Cond.selects RX5 yX5_cover yX5_cover ∈ zz_g := zz_g_in (i := 1057) (by decide +kernel) (by decide +kernel)
theorem zw_c_X5_cover : Cond.code yX5_cover cX5_cover 4 (some .int) ∈ zz_g := zz_g_in (i := 1058) (by decide +kernel) (by decide +kernel)
theorem zw_m_X5_112 : Cond.methodLink RX5 112 yX5_isRinged ∈ zz_g := zz_g_in (i := 1059) (by decide +kernel) (by decide +kernel)
theorem zw_i_X5_isRinged : Cond.instanceMethod yX5_isRinged ∈ zz_g := zz_g_in (i := 1061) (by decide +kernel) (by decide +kernel)
theorem zw_s_X5_isRinged : Cond.selects RX5 yX5_isRinged yX5_isRinged ∈ zz_g := zz_g_in (i := 31) (by decide +kernel) (by decide +kernel)
theorem zw_c_X5_isRinged : Cond.code yX5_isRinged cX5_isRinged 4 (some .boolean) ∈ zz_g := zz_g_in (i := 1062) (by decide +kernel) (by decide +kernel)
theorem zw_m_X5_115 : Cond.methodLink RX5 115 yX5_covers ∈ zz_g := zz_g_in (i := 1063) (by decide +kernel) (by decide +kernel)
theorem zw_i_X5_covers : Cond.instanceMethod yX5_covers ∈ zz_g := zz_g_in (i := 1065) (by decide +kernel) (by decide +kernel)
theorem zw_s_X5_covers : Cond.selects RX5 yX5_covers yX5_covers ∈ zz_g := zz_g_in (i := 32) (by decide +kernel) (by decide +kernel)
theorem zw_c_X5_covers : Cond.code yX5_covers cX5_covers 5 none ∈ zz_g := zz_g_in (i := 1066) (by decide +kernel) (by decide +kernel)
theorem zw_m_L_194 : Cond.methodLink RL 194 yL_has ∈ zz_g := zz_g_in (i := 703) (by decide +kernel) (by decide +kernel)
theorem zw_t_L_has : Cond.static yL_has ∈ zz_g := zz_g_in (i := 704) (by decide +kernel) (by decide +kernel)
theorem zw_c_L_has : Cond.codeWith yL_has cL_has 6 (some .int) [(0, 19, 22, 19)] ∈ zz_g := zz_g_in (i := 705) (by decide +kernel) (by decide +kernel)
theorem zw_m_L_65 : Cond.methodLink RL 65 yX4_has ∈ zz_g := zz_g_in (i := 706) (by decide +kernel) (by decide +kernel)
theorem zw_i_X4_has : Cond.instanceMethod yX4_has ∈ zz_g := zz_g_in (i := 707) (by decide +kernel) (by decide +kernel)
theorem zw_s_X4_has : Cond.selects RX4 yX4_has yX4_has ∈ zz_g := zz_g_in (i := 708) (by decide +kernel) (by decide +kernel)
theorem zw_c_X4_has : Cond.code yX4_has cX4_has 5 (some .boolean) ∈ zz_g := zz_g_in (i := 709) (by decide +kernel) (by decide +kernel)
theorem zw_m_L_196 : Cond.methodLink RL 196 yX5_has ∈ zz_g := zz_g_in (i := 1067) (by decide +kernel) (by decide +kernel)
theorem zw_i_X5_has : Cond.instanceMethod yX5_has ∈ zz_g := zz_g_in (i := 1068) (by decide +kernel) (by decide +kernel)
theorem zw_s_X5_has : Cond.selects RX5 yX5_has yX5_has ∈ zz_g := zz_g_in (i := 1069) (by decide +kernel) (by decide +kernel)
theorem zw_c_X5_has : Cond.code yX5_has cX5_has 4 (some .boolean) ∈ zz_g := zz_g_in (i := 1070) (by decide +kernel) (by decide +kernel)
theorem zw_m_L_197 : Cond.methodLink RL 197 yL_count ∈ zz_g := zz_g_in (i := 710) (by decide +kernel) (by decide +kernel)
theorem zw_t_L_count : Cond.static yL_count ∈ zz_g := zz_g_in (i := 711) (by decide +kernel) (by decide +kernel)
theorem zw_c_L_count : Cond.codeWith yL_count cL_count 4 (some .int) [(0, 9, 12, 19)] ∈ zz_g := zz_g_in (i := 712) (by decide +kernel) (by decide +kernel)
theorem zw_m_L_69 : Cond.methodLink RL 69 yX4_count ∈ zz_g := zz_g_in (i := 713) (by decide +kernel) (by decide +kernel)
theorem zw_i_X4_count : Cond.instanceMethod yX4_count ∈ zz_g := zz_g_in (i := 714) (by decide +kernel) (by decide +kernel)
theorem zw_s_X4_count : Cond.selects RX4 yX4_count yX4_count ∈ zz_g := zz_g_in (i := 715) (by decide +kernel) (by decide +kernel)
theorem zw_c_X4_count : Cond.code yX4_count cX4_count 2 (some .int) ∈ zz_g := zz_g_in (i := 716) (by decide +kernel) (by decide +kernel)
theorem zw_m_L_199 : Cond.methodLink RL 199 yX5_count ∈ zz_g := zz_g_in (i := 1071) (by decide +kernel) (by decide +kernel)
theorem zw_i_X5_count : Cond.instanceMethod yX5_count ∈ zz_g := zz_g_in (i := 1072) (by decide +kernel) (by decide +kernel)
theorem zw_s_X5_count : Cond.selects RX5 yX5_count yX5_count ∈ zz_g := zz_g_in (i := 1073) (by decide +kernel) (by decide +kernel)
theorem zw_c_X5_count : Cond.code yX5_count cX5_count 2 (some .int) ∈ zz_g := zz_g_in (i := 1074) (by decide +kernel) (by decide +kernel)
theorem zw_m_L_200 : Cond.methodLink RL 200 yL_countOf ∈ zz_g := zz_g_in (i := 717) (by decide +kernel) (by decide +kernel)
theorem zw_t_L_countOf : Cond.static yL_countOf ∈ zz_g := zz_g_in (i := 718) (by decide +kernel) (by decide +kernel)
theorem zw_c_L_countOf : Cond.codeWith yL_countOf cL_countOf 5 (some .int) [(0, 10, 13, 19)] ∈ zz_g := zz_g_in (i := 719) (by decide +kernel) (by decide +kernel)
theorem zw_m_L_72 : Cond.methodLink RL 72 yX4_countOf ∈ zz_g := zz_g_in (i := 720) (by decide +kernel) (by decide +kernel)
theorem zw_i_X4_countOf : Cond.instanceMethod yX4_countOf ∈ zz_g := zz_g_in (i := 721) (by decide +kernel) (by decide +kernel)
theorem zw_s_X4_countOf : Cond.selects RX4 yX4_countOf yX4_countOf ∈ zz_g := zz_g_in (i := 722) (by decide +kernel) (by decide +kernel)
theorem zw_c_X4_countOf : Cond.code yX4_countOf cX4_countOf 4 (some .int) ∈ zz_g := zz_g_in (i := 723) (by decide +kernel) (by decide +kernel)
theorem zw_m_L_202 : Cond.methodLink RL 202 yX5_countOf ∈ zz_g := zz_g_in (i := 1075) (by decide +kernel) (by decide +kernel)
theorem zw_i_X5_countOf : Cond.instanceMethod yX5_countOf ∈ zz_g := zz_g_in (i := 1076) (by decide +kernel) (by decide +kernel)
theorem zw_s_X5_countOf : Cond.selects RX5 yX5_countOf yX5_countOf ∈ zz_g := zz_g_in (i := 1077) (by decide +kernel) (by decide +kernel)
theorem zw_c_X5_countOf : Cond.code yX5_countOf cX5_countOf 3 (some .int) ∈ zz_g := zz_g_in (i := 1078) (by decide +kernel) (by decide +kernel)
theorem zw_m_L_203 : Cond.methodLink RL 203 yL_beside ∈ zz_g := zz_g_in (i := 724) (by decide +kernel) (by decide +kernel)
theorem zw_t_L_beside : Cond.static yL_beside ∈ zz_g := zz_g_in (i := 725) (by decide +kernel) (by decide +kernel)
theorem zw_c_L_beside : Cond.codeWith yL_beside cL_beside 7 (some .int) [(0, 14, 17, 19), (0, 14, 21, 13)] ∈ zz_g := zz_g_in (i := 726) (by decide +kernel) (by decide +kernel)
theorem zw_m_L_75 : Cond.methodLink RL 75 yX4_beside ∈ zz_g := zz_g_in (i := 727) (by decide +kernel) (by decide +kernel)
theorem zw_i_X4_beside : Cond.instanceMethod yX4_beside ∈ zz_g := zz_g_in (i := 728) (by decide +kernel) (by decide +kernel)
theorem zw_s_X4_beside : Cond.selects RX4 yX4_beside yX4_beside ∈ zz_g := zz_g_in (i := 729) (by decide +kernel) (by decide +kernel)
theorem zw_c_X4_beside : Cond.code yX4_beside cX4_beside 6 (some .int) ∈ zz_g := zz_g_in (i := 730) (by decide +kernel) (by decide +kernel)
theorem zw_m_X4_158 : Cond.methodLink RX4 158 yX0_leastFrom ∈ zz_g := zz_g_in (i := 731) (by decide +kernel) (by decide +kernel)
theorem zw_m_X4_161 : Cond.methodLink RX4 161 yX0_greatestTo ∈ zz_g := zz_g_in (i := 193) (by decide +kernel) (by decide +kernel)
theorem zw_i_X0_greatestTo : Cond.instanceMethod yX0_greatestTo ∈ zz_g := zz_g_in (i := 194) (by decide +kernel) (by decide +kernel)
theorem zw_s_X0_greatestTo : Cond.selects RX0 yX0_greatestTo yX0_greatestTo ∈ zz_g := zz_g_in (i := 195) (by decide +kernel) (by decide +kernel)
theorem zw_c_X0_greatestTo : Cond.code yX0_greatestTo cX0_greatestTo 3 (some .int) ∈ zz_g := zz_g_in (i := 196) (by decide +kernel) (by decide +kernel)
theorem zw_m_X0_40 : Cond.methodLink RX0 40 yX0_holds ∈ zz_g := zz_g_in (i := 197) (by decide +kernel) (by decide +kernel)
theorem zw_i_X0_holds : Cond.instanceMethod yX0_holds ∈ zz_g := zz_g_in (i := 198) (by decide +kernel) (by decide +kernel)
theorem zw_s_X0_holds : Cond.selects RX0 yX0_holds yX0_holds ∈ zz_g := zz_g_in (i := 199) (by decide +kernel) (by decide +kernel)
theorem zw_c_X0_holds : Cond.code yX0_holds cX0_holds 4 (some .boolean) ∈ zz_g := zz_g_in (i := 200) (by decide +kernel) (by decide +kernel)
theorem zw_m_L_205 : Cond.methodLink RL 205 yX5_beside ∈ zz_g := zz_g_in (i := 1079) (by decide +kernel) (by decide +kernel)
theorem zw_i_X5_beside : Cond.instanceMethod yX5_beside ∈ zz_g := zz_g_in (i := 1080) (by decide +kernel) (by decide +kernel)
theorem zw_s_X5_beside : Cond.selects RX5 yX5_beside yX5_beside ∈ zz_g := zz_g_in (i := 1081) (by decide +kernel) (by decide +kernel)
theorem zw_c_X5_beside : Cond.code yX5_beside cX5_beside 7 (some .int) ∈ zz_g := zz_g_in (i := 1082) (by decide +kernel) (by decide +kernel)
theorem zw_m_L_206 : Cond.methodLink RL 206 yL_wordOf ∈ zz_g := zz_g_in (i := 732) (by decide +kernel) (by decide +kernel)
theorem zw_t_L_wordOf : Cond.static yL_wordOf ∈ zz_g := zz_g_in (i := 733) (by decide +kernel) (by decide +kernel)
theorem zw_c_L_wordOf : Cond.codeWith yL_wordOf cL_wordOf 6 (some .int) [(0, 11, 14, 19), (0, 11, 18, 13)] ∈ zz_g := zz_g_in (i := 734) (by decide +kernel) (by decide +kernel)
theorem zw_m_L_78 : Cond.methodLink RL 78 yX4_wordOf ∈ zz_g := zz_g_in (i := 735) (by decide +kernel) (by decide +kernel)
theorem zw_i_X4_wordOf : Cond.instanceMethod yX4_wordOf ∈ zz_g := zz_g_in (i := 736) (by decide +kernel) (by decide +kernel)
theorem zw_s_X4_wordOf : Cond.selects RX4 yX4_wordOf yX4_wordOf ∈ zz_g := zz_g_in (i := 737) (by decide +kernel) (by decide +kernel)
theorem zw_c_X4_wordOf : Cond.code yX4_wordOf cX4_wordOf 5 (some .long) ∈ zz_g := zz_g_in (i := 738) (by decide +kernel) (by decide +kernel)
theorem zw_m_X4_166 : Cond.methodLink RX4 166 yX1_lowAt ∈ zz_g := zz_g_in (i := 740) (by decide +kernel) (by decide +kernel)
theorem zw_m_X4_170 : Cond.methodLink RX4 170 yX1_highAt ∈ zz_g := zz_g_in (i := 741) (by decide +kernel) (by decide +kernel)
theorem zw_m_L_208 : Cond.methodLink RL 208 yX5_wordOf ∈ zz_g := zz_g_in (i := 1083) (by decide +kernel) (by decide +kernel)
theorem zw_i_X5_wordOf : Cond.instanceMethod yX5_wordOf ∈ zz_g := zz_g_in (i := 1084) (by decide +kernel) (by decide +kernel)
theorem zw_s_X5_wordOf : Cond.selects RX5 yX5_wordOf yX5_wordOf ∈ zz_g := zz_g_in (i := 1085) (by decide +kernel) (by decide +kernel)
theorem zw_c_X5_wordOf : Cond.code yX5_wordOf cX5_wordOf 8 (some .long) ∈ zz_g := zz_g_in (i := 1086) (by decide +kernel) (by decide +kernel)
theorem zw_m_L_209 : Cond.methodLink RL 209 yL_meet ∈ zz_g := zz_g_in (i := 742) (by decide +kernel) (by decide +kernel)
theorem zw_t_L_meet : Cond.static yL_meet ∈ zz_g := zz_g_in (i := 743) (by decide +kernel) (by decide +kernel)
theorem zw_c_L_meet : Cond.codeWith yL_meet cL_meet 7 (some .int) [(0, 21, 24, 19)] ∈ zz_g := zz_g_in (i := 744) (by decide +kernel) (by decide +kernel)
theorem zw_m_L_82 : Cond.methodLink RL 82 yX4_meet ∈ zz_g := zz_g_in (i := 745) (by decide +kernel) (by decide +kernel)
theorem zw_i_X4_meet : Cond.instanceMethod yX4_meet ∈ zz_g := zz_g_in (i := 746) (by decide +kernel) (by decide +kernel)
theorem zw_s_X4_meet : Cond.selects RX4 yX4_meet yX4_meet ∈ zz_g := zz_g_in (i := 747) (by decide +kernel) (by decide +kernel)
theorem zw_c_X4_meet : Cond.code yX4_meet cX4_meet 7 (some .boolean) ∈ zz_g := zz_g_in (i := 748) (by decide +kernel) (by decide +kernel)
theorem zw_f_X4_173 : Cond.fieldLink RX4 173 "Relationrows$Bits" "high" "J" ∈ zz_g := zz_g_in (i := 83) (by decide +kernel) (by decide +kernel)
theorem zw_m_L_211 : Cond.methodLink RL 211 yX5_meet ∈ zz_g := zz_g_in (i := 1087) (by decide +kernel) (by decide +kernel)
theorem zw_i_X5_meet : Cond.instanceMethod yX5_meet ∈ zz_g := zz_g_in (i := 1088) (by decide +kernel) (by decide +kernel)
theorem zw_s_X5_meet : Cond.selects RX5 yX5_meet yX5_meet ∈ zz_g := zz_g_in (i := 1089) (by decide +kernel) (by decide +kernel)
theorem zw_c_X5_meet : Cond.code yX5_meet cX5_meet 7 (some .boolean) ∈ zz_g := zz_g_in (i := 1090) (by decide +kernel) (by decide +kernel)
theorem zw_m_L_212 : Cond.methodLink RL 212 yL_compare ∈ zz_g := zz_g_in (i := 749) (by decide +kernel) (by decide +kernel)
theorem zw_t_L_compare : Cond.static yL_compare ∈ zz_g := zz_g_in (i := 750) (by decide +kernel) (by decide +kernel)
theorem zw_c_L_compare : Cond.codeWith yL_compare cL_compare 5 (some .int) [(0, 10, 13, 19)] ∈ zz_g := zz_g_in (i := 751) (by decide +kernel) (by decide +kernel)
theorem zw_m_L_86 : Cond.methodLink RL 86 yX4_compare ∈ zz_g := zz_g_in (i := 752) (by decide +kernel) (by decide +kernel)
theorem zw_i_X4_compare : Cond.instanceMethod yX4_compare ∈ zz_g := zz_g_in (i := 753) (by decide +kernel) (by decide +kernel)
theorem zw_s_X4_compare : Cond.selects RX4 yX4_compare yX4_compare ∈ zz_g := zz_g_in (i := 754) (by decide +kernel) (by decide +kernel)
theorem zw_c_X4_compare : Cond.code yX4_compare cX4_compare 7 (some .int) ∈ zz_g := zz_g_in (i := 755) (by decide +kernel) (by decide +kernel)
theorem zw_m_X4_176 : Cond.methodLink RX4 176 yX1_hasAllOf ∈ zz_g := zz_g_in (i := 756) (by decide +kernel) (by decide +kernel)
theorem zw_i_X1_hasAllOf : Cond.instanceMethod yX1_hasAllOf ∈ zz_g := zz_g_in (i := 454) (by decide +kernel) (by decide +kernel)
theorem zw_s_X1_hasAllOf : Cond.selects RX1 yX1_hasAllOf yX1_hasAllOf ∈ zz_g := zz_g_in (i := 455) (by decide +kernel) (by decide +kernel)
theorem zw_c_X1_hasAllOf : Cond.code yX1_hasAllOf cX1_hasAllOf 3 (some .boolean) ∈ zz_g := zz_g_in (i := 456) (by decide +kernel) (by decide +kernel)
theorem zw_m_L_214 : Cond.methodLink RL 214 yX5_compare ∈ zz_g := zz_g_in (i := 1091) (by decide +kernel) (by decide +kernel)
theorem zw_i_X5_compare : Cond.instanceMethod yX5_compare ∈ zz_g := zz_g_in (i := 1092) (by decide +kernel) (by decide +kernel)
theorem zw_s_X5_compare : Cond.selects RX5 yX5_compare yX5_compare ∈ zz_g := zz_g_in (i := 1093) (by decide +kernel) (by decide +kernel)
theorem zw_c_X5_compare : Cond.code yX5_compare cX5_compare 6 (some .int) ∈ zz_g := zz_g_in (i := 1094) (by decide +kernel) (by decide +kernel)
theorem zw_m_L_215 : Cond.methodLink RL 215 yL_is ∈ zz_g := zz_g_in (i := 757) (by decide +kernel) (by decide +kernel)
theorem zw_t_L_is : Cond.static yL_is ∈ zz_g := zz_g_in (i := 758) (by decide +kernel) (by decide +kernel)
theorem zw_c_L_is : Cond.codeWith yL_is cL_is 5 (some .int) [(0, 17, 20, 19), (0, 17, 24, 13)] ∈ zz_g := zz_g_in (i := 759) (by decide +kernel) (by decide +kernel)
theorem zw_m_L_89 : Cond.methodLink RL 89 yX4_is ∈ zz_g := zz_g_in (i := 760) (by decide +kernel) (by decide +kernel)
theorem zw_i_X4_is : Cond.instanceMethod yX4_is ∈ zz_g := zz_g_in (i := 761) (by decide +kernel) (by decide +kernel)
theorem zw_s_X4_is : Cond.selects RX4 yX4_is yX4_is ∈ zz_g := zz_g_in (i := 762) (by decide +kernel) (by decide +kernel)
theorem zw_c_X4_is : Cond.code yX4_is cX4_is 4 (some .boolean) ∈ zz_g := zz_g_in (i := 763) (by decide +kernel) (by decide +kernel)
theorem zw_m_X4_182 : Cond.methodLink RX4 182 yX1_ownPairs ∈ zz_g := zz_g_in (i := 765) (by decide +kernel) (by decide +kernel)
theorem zw_i_X1_ownPairs : Cond.instanceMethod yX1_ownPairs ∈ zz_g := zz_g_in (i := 402) (by decide +kernel) (by decide +kernel)
theorem zw_s_X1_ownPairs : Cond.selects RX1 yX1_ownPairs yX1_ownPairs ∈ zz_g := zz_g_in (i := 403) (by decide +kernel) (by decide +kernel)
theorem zw_c_X1_ownPairs : Cond.code yX1_ownPairs cX1_ownPairs 3 (some .int) ∈ zz_g := zz_g_in (i := 404) (by decide +kernel) (by decide +kernel)
theorem zw_m_X4_185 : Cond.methodLink RX4 185 yX1_isTransitive ∈ zz_g := zz_g_in (i := 766) (by decide +kernel) (by decide +kernel)
theorem zw_i_X1_isTransitive : Cond.instanceMethod yX1_isTransitive ∈ zz_g := zz_g_in (i := 767) (by decide +kernel) (by decide +kernel)
theorem zw_s_X1_isTransitive : Cond.selects RX1 yX1_isTransitive yX1_isTransitive ∈ zz_g := zz_g_in (i := 768) (by decide +kernel) (by decide +kernel)
theorem zw_c_X1_isTransitive : Cond.code yX1_isTransitive cX1_isTransitive 2 (some .boolean) ∈ zz_g := zz_g_in (i := 769) (by decide +kernel) (by decide +kernel)
theorem zw_m_X4_189 : Cond.methodLink RX4 189 yX1_everyTwoAre ∈ zz_g := zz_g_in (i := 770) (by decide +kernel) (by decide +kernel)
theorem zw_i_X1_everyTwoAre : Cond.instanceMethod yX1_everyTwoAre ∈ zz_g := zz_g_in (i := 771) (by decide +kernel) (by decide +kernel)
theorem zw_s_X1_everyTwoAre : Cond.selects RX1 yX1_everyTwoAre yX1_everyTwoAre ∈ zz_g := zz_g_in (i := 772) (by decide +kernel) (by decide +kernel)
theorem zw_c_X1_everyTwoAre : Cond.code yX1_everyTwoAre cX1_everyTwoAre 4 (some .boolean) ∈ zz_g := zz_g_in (i := 773) (by decide +kernel) (by decide +kernel)
theorem zw_m_X1_103 : Cond.methodLink RX1 103 yX1_fits ∈ zz_g := zz_g_in (i := 774) (by decide +kernel) (by decide +kernel)
theorem zw_t_X1_fits : Cond.static yX1_fits ∈ zz_g := zz_g_in (i := 775) (by decide +kernel) (by decide +kernel)
theorem zw_c_X1_fits : Cond.code yX1_fits cX1_fits 3 (some .boolean) ∈ zz_g := zz_g_in (i := 776) (by decide +kernel) (by decide +kernel)
theorem zw_m_L_217 : Cond.methodLink RL 217 yX5_is ∈ zz_g := zz_g_in (i := 1095) (by decide +kernel) (by decide +kernel)
theorem zw_i_X5_is : Cond.instanceMethod yX5_is ∈ zz_g := zz_g_in (i := 1096) (by decide +kernel) (by decide +kernel)
theorem zw_s_X5_is : Cond.selects RX5 yX5_is yX5_is ∈ zz_g := zz_g_in (i := 1097) (by decide +kernel) (by decide +kernel)
theorem zw_c_X5_is : Cond.code yX5_is cX5_is 6 (some .boolean) ∈ zz_g := zz_g_in (i := 1098) (by decide +kernel) (by decide +kernel)
theorem zw_m_X5_118 : Cond.methodLink RX5 118 yX5_keeps ∈ zz_g := zz_g_in (i := 1099) (by decide +kernel) (by decide +kernel)
theorem zw_i_X5_keeps : Cond.instanceMethod yX5_keeps ∈ zz_g := zz_g_in (i := 1101) (by decide +kernel) (by decide +kernel)
theorem zw_s_X5_keeps : Cond.selects RX5 yX5_keeps yX5_keeps ∈ zz_g := zz_g_in (i := 33) (by decide +kernel) (by decide +kernel)
theorem zw_c_X5_keeps : Cond.code yX5_keeps cX5_keeps 7 (some .boolean) ∈ zz_g := zz_g_in (i := 1102) (by decide +kernel) (by decide +kernel)
theorem zw_m_L_218 : Cond.methodLink RL 218 yL_steps ∈ zz_g := zz_g_in (i := 777) (by decide +kernel) (by decide +kernel)
theorem zw_t_L_steps : Cond.static yL_steps ∈ zz_g := zz_g_in (i := 778) (by decide +kernel) (by decide +kernel)
theorem zw_c_L_steps : Cond.codeWith yL_steps cL_steps 6 (some .int) [(0, 12, 15, 19)] ∈ zz_g := zz_g_in (i := 779) (by decide +kernel) (by decide +kernel)
theorem zw_m_L_93 : Cond.methodLink RL 93 yX4_steps ∈ zz_g := zz_g_in (i := 780) (by decide +kernel) (by decide +kernel)
theorem zw_i_X4_steps : Cond.instanceMethod yX4_steps ∈ zz_g := zz_g_in (i := 781) (by decide +kernel) (by decide +kernel)
theorem zw_s_X4_steps : Cond.selects RX4 yX4_steps yX4_steps ∈ zz_g := zz_g_in (i := 782) (by decide +kernel) (by decide +kernel)
theorem zw_c_X4_steps : Cond.code yX4_steps cX4_steps 5 (some .int) ∈ zz_g := zz_g_in (i := 783) (by decide +kernel) (by decide +kernel)
theorem zw_m_X4_193 : Cond.methodLink RX4 193 yX3_stepsBetween ∈ zz_g := zz_g_in (i := 784) (by decide +kernel) (by decide +kernel)
theorem zw_i_X3_stepsBetween : Cond.instanceMethod yX3_stepsBetween ∈ zz_g := zz_g_in (i := 785) (by decide +kernel) (by decide +kernel)
theorem zw_s_X3_stepsBetween : Cond.selects RX3 yX3_stepsBetween yX3_stepsBetween ∈ zz_g := zz_g_in (i := 786) (by decide +kernel) (by decide +kernel)
theorem zw_c_X3_stepsBetween : Cond.code yX3_stepsBetween cX3_stepsBetween 6 (some .int) ∈ zz_g := zz_g_in (i := 787) (by decide +kernel) (by decide +kernel)
theorem zw_m_X3_40 : Cond.methodLink RX3 40 yX3_leave ∈ zz_g := zz_g_in (i := 323) (by decide +kernel) (by decide +kernel)
theorem zw_i_X3_leave : Cond.instanceMethod yX3_leave ∈ zz_g := zz_g_in (i := 325) (by decide +kernel) (by decide +kernel)
theorem zw_s_X3_leave : Cond.selects RX3 yX3_leave yX3_leave ∈ zz_g := zz_g_in (i := 4) (by decide +kernel) (by decide +kernel)
theorem zw_c_X3_leave : Cond.code yX3_leave cX3_leave 3 none ∈ zz_g := zz_g_in (i := 326) (by decide +kernel) (by decide +kernel)
theorem zw_m_X3_60 : Cond.methodLink RX3 60 yX1_rowInto ∈ zz_g := zz_g_in (i := 327) (by decide +kernel) (by decide +kernel)
theorem zw_m_X3_56 : Cond.methodLink RX3 56 yX0_become ∈ zz_g := zz_g_in (i := 328) (by decide +kernel) (by decide +kernel)
theorem zw_i_X0_become : Cond.instanceMethod yX0_become ∈ zz_g := zz_g_in (i := 329) (by decide +kernel) (by decide +kernel)
theorem zw_s_X0_become : Cond.selects RX0 yX0_become yX0_become ∈ zz_g := zz_g_in (i := 330) (by decide +kernel) (by decide +kernel)
theorem zw_c_X0_become : Cond.code yX0_become cX0_become 2 none ∈ zz_g := zz_g_in (i := 331) (by decide +kernel) (by decide +kernel)
theorem zw_m_X3_44 : Cond.methodLink RX3 44 yX0_holds ∈ zz_g := zz_g_in (i := 788) (by decide +kernel) (by decide +kernel)
theorem zw_m_X3_48 : Cond.methodLink RX3 48 yX3_goOn ∈ zz_g := zz_g_in (i := 336) (by decide +kernel) (by decide +kernel)
theorem zw_i_X3_goOn : Cond.instanceMethod yX3_goOn ∈ zz_g := zz_g_in (i := 338) (by decide +kernel) (by decide +kernel)
theorem zw_s_X3_goOn : Cond.selects RX3 yX3_goOn yX3_goOn ∈ zz_g := zz_g_in (i := 5) (by decide +kernel) (by decide +kernel)
theorem zw_c_X3_goOn : Cond.code yX3_goOn cX3_goOn 2 none ∈ zz_g := zz_g_in (i := 339) (by decide +kernel) (by decide +kernel)
theorem zw_m_X3_68 : Cond.methodLink RX3 68 yX0_remove ∈ zz_g := zz_g_in (i := 361) (by decide +kernel) (by decide +kernel)
theorem zw_i_X0_remove : Cond.instanceMethod yX0_remove ∈ zz_g := zz_g_in (i := 362) (by decide +kernel) (by decide +kernel)
theorem zw_s_X0_remove : Cond.selects RX0 yX0_remove yX0_remove ∈ zz_g := zz_g_in (i := 363) (by decide +kernel) (by decide +kernel)
theorem zw_c_X0_remove : Cond.code yX0_remove cX0_remove 2 none ∈ zz_g := zz_g_in (i := 364) (by decide +kernel) (by decide +kernel)
theorem zw_m_X3_71 : Cond.methodLink RX3 71 yX0_unite ∈ zz_g := zz_g_in (i := 365) (by decide +kernel) (by decide +kernel)
theorem zw_i_X0_unite : Cond.instanceMethod yX0_unite ∈ zz_g := zz_g_in (i := 366) (by decide +kernel) (by decide +kernel)
theorem zw_s_X0_unite : Cond.selects RX0 yX0_unite yX0_unite ∈ zz_g := zz_g_in (i := 367) (by decide +kernel) (by decide +kernel)
theorem zw_c_X0_unite : Cond.code yX0_unite cX0_unite 2 none ∈ zz_g := zz_g_in (i := 368) (by decide +kernel) (by decide +kernel)
theorem zw_m_L_220 : Cond.methodLink RL 220 yX5_steps ∈ zz_g := zz_g_in (i := 1103) (by decide +kernel) (by decide +kernel)
theorem zw_i_X5_steps : Cond.instanceMethod yX5_steps ∈ zz_g := zz_g_in (i := 1104) (by decide +kernel) (by decide +kernel)
theorem zw_s_X5_steps : Cond.selects RX5 yX5_steps yX5_steps ∈ zz_g := zz_g_in (i := 1105) (by decide +kernel) (by decide +kernel)
theorem zw_c_X5_steps : Cond.code yX5_steps cX5_steps 4 (some .int) ∈ zz_g := zz_g_in (i := 1106) (by decide +kernel) (by decide +kernel)
theorem zw_m_L_221 : Cond.methodLink RL 221 yL_classOf ∈ zz_g := zz_g_in (i := 789) (by decide +kernel) (by decide +kernel)
theorem zw_t_L_classOf : Cond.static yL_classOf ∈ zz_g := zz_g_in (i := 790) (by decide +kernel) (by decide +kernel)
theorem zw_c_L_classOf : Cond.codeWith yL_classOf cL_classOf 5 (some .int) [(0, 10, 13, 19)] ∈ zz_g := zz_g_in (i := 791) (by decide +kernel) (by decide +kernel)
theorem zw_m_L_96 : Cond.methodLink RL 96 yX4_classOf ∈ zz_g := zz_g_in (i := 792) (by decide +kernel) (by decide +kernel)
theorem zw_i_X4_classOf : Cond.instanceMethod yX4_classOf ∈ zz_g := zz_g_in (i := 793) (by decide +kernel) (by decide +kernel)
theorem zw_s_X4_classOf : Cond.selects RX4 yX4_classOf yX4_classOf ∈ zz_g := zz_g_in (i := 794) (by decide +kernel) (by decide +kernel)
theorem zw_c_X4_classOf : Cond.code yX4_classOf cX4_classOf 4 (some .int) ∈ zz_g := zz_g_in (i := 795) (by decide +kernel) (by decide +kernel)
theorem zw_m_X4_197 : Cond.methodLink RX4 197 yX1_leastOfClass ∈ zz_g := zz_g_in (i := 796) (by decide +kernel) (by decide +kernel)
theorem zw_i_X1_leastOfClass : Cond.instanceMethod yX1_leastOfClass ∈ zz_g := zz_g_in (i := 384) (by decide +kernel) (by decide +kernel)
theorem zw_s_X1_leastOfClass : Cond.selects RX1 yX1_leastOfClass yX1_leastOfClass ∈ zz_g := zz_g_in (i := 385) (by decide +kernel) (by decide +kernel)
theorem zw_c_X1_leastOfClass : Cond.code yX1_leastOfClass cX1_leastOfClass 3 (some .int) ∈ zz_g := zz_g_in (i := 386) (by decide +kernel) (by decide +kernel)
theorem zw_m_X1_107 : Cond.methodLink RX1 107 yX1_inOneClass ∈ zz_g := zz_g_in (i := 387) (by decide +kernel) (by decide +kernel)
theorem zw_i_X1_inOneClass : Cond.instanceMethod yX1_inOneClass ∈ zz_g := zz_g_in (i := 388) (by decide +kernel) (by decide +kernel)
theorem zw_s_X1_inOneClass : Cond.selects RX1 yX1_inOneClass yX1_inOneClass ∈ zz_g := zz_g_in (i := 389) (by decide +kernel) (by decide +kernel)
theorem zw_c_X1_inOneClass : Cond.code yX1_inOneClass cX1_inOneClass 3 (some .boolean) ∈ zz_g := zz_g_in (i := 390) (by decide +kernel) (by decide +kernel)
theorem zw_m_L_223 : Cond.methodLink RL 223 yX5_classOf ∈ zz_g := zz_g_in (i := 1107) (by decide +kernel) (by decide +kernel)
theorem zw_i_X5_classOf : Cond.instanceMethod yX5_classOf ∈ zz_g := zz_g_in (i := 1108) (by decide +kernel) (by decide +kernel)
theorem zw_s_X5_classOf : Cond.selects RX5 yX5_classOf yX5_classOf ∈ zz_g := zz_g_in (i := 1109) (by decide +kernel) (by decide +kernel)
theorem zw_c_X5_classOf : Cond.code yX5_classOf cX5_classOf 3 (some .int) ∈ zz_g := zz_g_in (i := 1110) (by decide +kernel) (by decide +kernel)
theorem zw_m_X5_122 : Cond.methodLink RX5 122 yX5_leastOf ∈ zz_g := zz_g_in (i := 1111) (by decide +kernel) (by decide +kernel)
theorem zw_i_X5_leastOf : Cond.instanceMethod yX5_leastOf ∈ zz_g := zz_g_in (i := 1113) (by decide +kernel) (by decide +kernel)
theorem zw_s_X5_leastOf : Cond.selects RX5 yX5_leastOf yX5_leastOf ∈ zz_g := zz_g_in (i := 34) (by decide +kernel) (by decide +kernel)
theorem zw_c_X5_leastOf : Cond.code yX5_leastOf cX5_leastOf 3 (some .int) ∈ zz_g := zz_g_in (i := 1114) (by decide +kernel) (by decide +kernel)
theorem zw_m_L_224 : Cond.methodLink RL 224 yL_classes ∈ zz_g := zz_g_in (i := 797) (by decide +kernel) (by decide +kernel)
theorem zw_t_L_classes : Cond.static yL_classes ∈ zz_g := zz_g_in (i := 798) (by decide +kernel) (by decide +kernel)
theorem zw_c_L_classes : Cond.codeWith yL_classes cL_classes 4 (some .int) [(0, 9, 12, 19)] ∈ zz_g := zz_g_in (i := 799) (by decide +kernel) (by decide +kernel)
theorem zw_m_L_99 : Cond.methodLink RL 99 yX4_classes ∈ zz_g := zz_g_in (i := 800) (by decide +kernel) (by decide +kernel)
theorem zw_i_X4_classes : Cond.instanceMethod yX4_classes ∈ zz_g := zz_g_in (i := 801) (by decide +kernel) (by decide +kernel)
theorem zw_s_X4_classes : Cond.selects RX4 yX4_classes yX4_classes ∈ zz_g := zz_g_in (i := 802) (by decide +kernel) (by decide +kernel)
theorem zw_c_X4_classes : Cond.code yX4_classes cX4_classes 3 (some .int) ∈ zz_g := zz_g_in (i := 803) (by decide +kernel) (by decide +kernel)
theorem zw_m_X4_200 : Cond.methodLink RX4 200 yX1_classesInside ∈ zz_g := zz_g_in (i := 804) (by decide +kernel) (by decide +kernel)
theorem zw_i_X1_classesInside : Cond.instanceMethod yX1_classesInside ∈ zz_g := zz_g_in (i := 393) (by decide +kernel) (by decide +kernel)
theorem zw_s_X1_classesInside : Cond.selects RX1 yX1_classesInside yX1_classesInside ∈ zz_g := zz_g_in (i := 394) (by decide +kernel) (by decide +kernel)
theorem zw_c_X1_classesInside : Cond.code yX1_classesInside cX1_classesInside 3 (some .int) ∈ zz_g := zz_g_in (i := 395) (by decide +kernel) (by decide +kernel)
theorem zw_m_X1_110 : Cond.methodLink RX1 110 yX1_leastOfClass ∈ zz_g := zz_g_in (i := 396) (by decide +kernel) (by decide +kernel)
theorem zw_m_L_226 : Cond.methodLink RL 226 yX5_classes ∈ zz_g := zz_g_in (i := 1115) (by decide +kernel) (by decide +kernel)
theorem zw_i_X5_classes : Cond.instanceMethod yX5_classes ∈ zz_g := zz_g_in (i := 1116) (by decide +kernel) (by decide +kernel)
theorem zw_s_X5_classes : Cond.selects RX5 yX5_classes yX5_classes ∈ zz_g := zz_g_in (i := 1117) (by decide +kernel) (by decide +kernel)
theorem zw_c_X5_classes : Cond.code yX5_classes cX5_classes 4 (some .int) ∈ zz_g := zz_g_in (i := 1118) (by decide +kernel) (by decide +kernel)
theorem zw_m_L_227 : Cond.methodLink RL 227 yL_hasRing ∈ zz_g := zz_g_in (i := 805) (by decide +kernel) (by decide +kernel)
theorem zw_t_L_hasRing : Cond.static yL_hasRing ∈ zz_g := zz_g_in (i := 806) (by decide +kernel) (by decide +kernel)
theorem zw_c_L_hasRing : Cond.codeWith yL_hasRing cL_hasRing 4 (some .int) [(0, 16, 19, 19)] ∈ zz_g := zz_g_in (i := 807) (by decide +kernel) (by decide +kernel)
theorem zw_m_L_102 : Cond.methodLink RL 102 yX4_hasRing ∈ zz_g := zz_g_in (i := 808) (by decide +kernel) (by decide +kernel)
theorem zw_i_X4_hasRing : Cond.instanceMethod yX4_hasRing ∈ zz_g := zz_g_in (i := 809) (by decide +kernel) (by decide +kernel)
theorem zw_s_X4_hasRing : Cond.selects RX4 yX4_hasRing yX4_hasRing ∈ zz_g := zz_g_in (i := 810) (by decide +kernel) (by decide +kernel)
theorem zw_c_X4_hasRing : Cond.code yX4_hasRing cX4_hasRing 2 (some .boolean) ∈ zz_g := zz_g_in (i := 811) (by decide +kernel) (by decide +kernel)
theorem zw_m_L_229 : Cond.methodLink RL 229 yX5_hasRing ∈ zz_g := zz_g_in (i := 1119) (by decide +kernel) (by decide +kernel)
theorem zw_i_X5_hasRing : Cond.instanceMethod yX5_hasRing ∈ zz_g := zz_g_in (i := 1120) (by decide +kernel) (by decide +kernel)
theorem zw_s_X5_hasRing : Cond.selects RX5 yX5_hasRing yX5_hasRing ∈ zz_g := zz_g_in (i := 1121) (by decide +kernel) (by decide +kernel)
theorem zw_c_X5_hasRing : Cond.code yX5_hasRing cX5_hasRing 2 (some .boolean) ∈ zz_g := zz_g_in (i := 1122) (by decide +kernel) (by decide +kernel)
theorem zw_m_L_230 : Cond.methodLink RL 230 yL_orderAt ∈ zz_g := zz_g_in (i := 812) (by decide +kernel) (by decide +kernel)
theorem zw_t_L_orderAt : Cond.static yL_orderAt ∈ zz_g := zz_g_in (i := 813) (by decide +kernel) (by decide +kernel)
theorem zw_c_L_orderAt : Cond.codeWith yL_orderAt cL_orderAt 5 (some .int) [(0, 10, 13, 19), (0, 10, 17, 63)] ∈ zz_g := zz_g_in (i := 814) (by decide +kernel) (by decide +kernel)
theorem zw_m_L_106 : Cond.methodLink RL 106 yX4_orderAt ∈ zz_g := zz_g_in (i := 815) (by decide +kernel) (by decide +kernel)
theorem zw_i_X4_orderAt : Cond.instanceMethod yX4_orderAt ∈ zz_g := zz_g_in (i := 816) (by decide +kernel) (by decide +kernel)
theorem zw_s_X4_orderAt : Cond.selects RX4 yX4_orderAt yX4_orderAt ∈ zz_g := zz_g_in (i := 817) (by decide +kernel) (by decide +kernel)
theorem zw_c_X4_orderAt : Cond.code yX4_orderAt cX4_orderAt 4 (some .int) ∈ zz_g := zz_g_in (i := 818) (by decide +kernel) (by decide +kernel)
theorem zw_m_X4_203 : Cond.methodLink RX4 203 yX3_findOrder ∈ zz_g := zz_g_in (i := 819) (by decide +kernel) (by decide +kernel)
theorem zw_i_X3_findOrder : Cond.instanceMethod yX3_findOrder ∈ zz_g := zz_g_in (i := 406) (by decide +kernel) (by decide +kernel)
theorem zw_s_X3_findOrder : Cond.selects RX3 yX3_findOrder yX3_findOrder ∈ zz_g := zz_g_in (i := 407) (by decide +kernel) (by decide +kernel)
theorem zw_c_X3_findOrder : Cond.code yX3_findOrder cX3_findOrder 5 (some .boolean) ∈ zz_g := zz_g_in (i := 408) (by decide +kernel) (by decide +kernel)
theorem zw_m_X3_81 : Cond.methodLink RX3 81 yX0_leastFrom ∈ zz_g := zz_g_in (i := 423) (by decide +kernel) (by decide +kernel)
theorem zw_m_X4_208 : Cond.methodLink RX4 208 yX3_orderedAt ∈ zz_g := zz_g_in (i := 821) (by decide +kernel) (by decide +kernel)
theorem zw_i_X3_orderedAt : Cond.instanceMethod yX3_orderedAt ∈ zz_g := zz_g_in (i := 426) (by decide +kernel) (by decide +kernel)
theorem zw_s_X3_orderedAt : Cond.selects RX3 yX3_orderedAt yX3_orderedAt ∈ zz_g := zz_g_in (i := 427) (by decide +kernel) (by decide +kernel)
theorem zw_c_X3_orderedAt : Cond.code yX3_orderedAt cX3_orderedAt 2 (some .int) ∈ zz_g := zz_g_in (i := 428) (by decide +kernel) (by decide +kernel)
theorem zw_m_L_232 : Cond.methodLink RL 232 yX5_orderAt ∈ zz_g := zz_g_in (i := 1123) (by decide +kernel) (by decide +kernel)
theorem zw_i_X5_orderAt : Cond.instanceMethod yX5_orderAt ∈ zz_g := zz_g_in (i := 1124) (by decide +kernel) (by decide +kernel)
theorem zw_s_X5_orderAt : Cond.selects RX5 yX5_orderAt yX5_orderAt ∈ zz_g := zz_g_in (i := 1125) (by decide +kernel) (by decide +kernel)
theorem zw_c_X5_orderAt : Cond.code yX5_orderAt cX5_orderAt 3 (some .int) ∈ zz_g := zz_g_in (i := 1126) (by decide +kernel) (by decide +kernel)
theorem zw_m_X5_128 : Cond.methodLink RX5 128 yX5_orders ∈ zz_g := zz_g_in (i := 1127) (by decide +kernel) (by decide +kernel)
theorem zw_i_X5_orders : Cond.instanceMethod yX5_orders ∈ zz_g := zz_g_in (i := 1129) (by decide +kernel) (by decide +kernel)
theorem zw_s_X5_orders : Cond.selects RX5 yX5_orders yX5_orders ∈ zz_g := zz_g_in (i := 35) (by decide +kernel) (by decide +kernel)
theorem zw_c_X5_orders : Cond.code yX5_orders cX5_orders 4 (some .int) ∈ zz_g := zz_g_in (i := 1130) (by decide +kernel) (by decide +kernel)
theorem zw_m_X5_125 : Cond.methodLink RX5 125 yX5_isFree ∈ zz_g := zz_g_in (i := 1131) (by decide +kernel) (by decide +kernel)
theorem zw_i_X5_isFree : Cond.instanceMethod yX5_isFree ∈ zz_g := zz_g_in (i := 1133) (by decide +kernel) (by decide +kernel)
theorem zw_s_X5_isFree : Cond.selects RX5 yX5_isFree yX5_isFree ∈ zz_g := zz_g_in (i := 36) (by decide +kernel) (by decide +kernel)
theorem zw_c_X5_isFree : Cond.code yX5_isFree cX5_isFree 5 (some .boolean) ∈ zz_g := zz_g_in (i := 1134) (by decide +kernel) (by decide +kernel)
theorem zw_m_L_233 : Cond.methodLink RL 233 yL_longestWalk ∈ zz_g := zz_g_in (i := 822) (by decide +kernel) (by decide +kernel)
theorem zw_t_L_longestWalk : Cond.static yL_longestWalk ∈ zz_g := zz_g_in (i := 823) (by decide +kernel) (by decide +kernel)
theorem zw_c_L_longestWalk : Cond.codeWith yL_longestWalk cL_longestWalk 4 (some .int) [(0, 9, 12, 19), (0, 9, 15, 63)] ∈ zz_g := zz_g_in (i := 824) (by decide +kernel) (by decide +kernel)
theorem zw_m_L_109 : Cond.methodLink RL 109 yX4_longestWalk ∈ zz_g := zz_g_in (i := 825) (by decide +kernel) (by decide +kernel)
theorem zw_i_X4_longestWalk : Cond.instanceMethod yX4_longestWalk ∈ zz_g := zz_g_in (i := 826) (by decide +kernel) (by decide +kernel)
theorem zw_s_X4_longestWalk : Cond.selects RX4 yX4_longestWalk yX4_longestWalk ∈ zz_g := zz_g_in (i := 827) (by decide +kernel) (by decide +kernel)
theorem zw_c_X4_longestWalk : Cond.code yX4_longestWalk cX4_longestWalk 3 (some .int) ∈ zz_g := zz_g_in (i := 828) (by decide +kernel) (by decide +kernel)
theorem zw_m_L_235 : Cond.methodLink RL 235 yX5_longestWalk ∈ zz_g := zz_g_in (i := 1135) (by decide +kernel) (by decide +kernel)
theorem zw_i_X5_longestWalk : Cond.instanceMethod yX5_longestWalk ∈ zz_g := zz_g_in (i := 1136) (by decide +kernel) (by decide +kernel)
theorem zw_s_X5_longestWalk : Cond.selects RX5 yX5_longestWalk yX5_longestWalk ∈ zz_g := zz_g_in (i := 1137) (by decide +kernel) (by decide +kernel)
theorem zw_c_X5_longestWalk : Cond.code yX5_longestWalk cX5_longestWalk 7 (some .int) ∈ zz_g := zz_g_in (i := 1138) (by decide +kernel) (by decide +kernel)
theorem zw_m_L_236 : Cond.methodLink RL 236 yL_mark ∈ zz_g := zz_g_in (i := 829) (by decide +kernel) (by decide +kernel)
theorem zw_t_L_mark : Cond.static yL_mark ∈ zz_g := zz_g_in (i := 830) (by decide +kernel) (by decide +kernel)
theorem zw_c_L_mark : Cond.codeWith yL_mark cL_mark 6 (some .int) [(0, 12, 15, 19)] ∈ zz_g := zz_g_in (i := 831) (by decide +kernel) (by decide +kernel)
theorem zw_m_L_112 : Cond.methodLink RL 112 yX4_mark ∈ zz_g := zz_g_in (i := 832) (by decide +kernel) (by decide +kernel)
theorem zw_i_X4_mark : Cond.instanceMethod yX4_mark ∈ zz_g := zz_g_in (i := 833) (by decide +kernel) (by decide +kernel)
theorem zw_s_X4_mark : Cond.selects RX4 yX4_mark yX4_mark ∈ zz_g := zz_g_in (i := 834) (by decide +kernel) (by decide +kernel)
theorem zw_c_X4_mark : Cond.code yX4_mark cX4_mark 4 (some .int) ∈ zz_g := zz_g_in (i := 835) (by decide +kernel) (by decide +kernel)
theorem zw_m_X4_211 : Cond.methodLink RX4 211 yX0_size ∈ zz_g := zz_g_in (i := 836) (by decide +kernel) (by decide +kernel)
theorem zw_i_X0_size : Cond.instanceMethod yX0_size ∈ zz_g := zz_g_in (i := 435) (by decide +kernel) (by decide +kernel)
theorem zw_s_X0_size : Cond.selects RX0 yX0_size yX0_size ∈ zz_g := zz_g_in (i := 436) (by decide +kernel) (by decide +kernel)
theorem zw_c_X0_size : Cond.code yX0_size cX0_size 1 (some .int) ∈ zz_g := zz_g_in (i := 437) (by decide +kernel) (by decide +kernel)
theorem zw_m_L_239 : Cond.methodLink RL 239 yX5_mark ∈ zz_g := zz_g_in (i := 1139) (by decide +kernel) (by decide +kernel)
theorem zw_i_X5_mark : Cond.instanceMethod yX5_mark ∈ zz_g := zz_g_in (i := 1140) (by decide +kernel) (by decide +kernel)
theorem zw_s_X5_mark : Cond.selects RX5 yX5_mark yX5_mark ∈ zz_g := zz_g_in (i := 1141) (by decide +kernel) (by decide +kernel)
theorem zw_c_X5_mark : Cond.code yX5_mark cX5_mark 5 (some .int) ∈ zz_g := zz_g_in (i := 1142) (by decide +kernel) (by decide +kernel)
theorem zw_m_X5_131 : Cond.methodLink RX5 131 yX5_marks ∈ zz_g := zz_g_in (i := 1143) (by decide +kernel) (by decide +kernel)
theorem zw_i_X5_marks : Cond.instanceMethod yX5_marks ∈ zz_g := zz_g_in (i := 1145) (by decide +kernel) (by decide +kernel)
theorem zw_s_X5_marks : Cond.selects RX5 yX5_marks yX5_marks ∈ zz_g := zz_g_in (i := 37) (by decide +kernel) (by decide +kernel)
theorem zw_c_X5_marks : Cond.code yX5_marks cX5_marks 3 (some .int) ∈ zz_g := zz_g_in (i := 1146) (by decide +kernel) (by decide +kernel)
theorem zw_m_L_240 : Cond.methodLink RL 240 yL_spread ∈ zz_g := zz_g_in (i := 837) (by decide +kernel) (by decide +kernel)
theorem zw_t_L_spread : Cond.static yL_spread ∈ zz_g := zz_g_in (i := 838) (by decide +kernel) (by decide +kernel)
theorem zw_c_L_spread : Cond.codeWith yL_spread cL_spread 5 (some .int) [(0, 10, 13, 19)] ∈ zz_g := zz_g_in (i := 839) (by decide +kernel) (by decide +kernel)
theorem zw_m_L_116 : Cond.methodLink RL 116 yX4_spread ∈ zz_g := zz_g_in (i := 840) (by decide +kernel) (by decide +kernel)
theorem zw_i_X4_spread : Cond.instanceMethod yX4_spread ∈ zz_g := zz_g_in (i := 841) (by decide +kernel) (by decide +kernel)
theorem zw_s_X4_spread : Cond.selects RX4 yX4_spread yX4_spread ∈ zz_g := zz_g_in (i := 842) (by decide +kernel) (by decide +kernel)
theorem zw_c_X4_spread : Cond.code yX4_spread cX4_spread 4 (some .int) ∈ zz_g := zz_g_in (i := 843) (by decide +kernel) (by decide +kernel)
theorem zw_m_X4_214 : Cond.methodLink RX4 214 yX0_become ∈ zz_g := zz_g_in (i := 844) (by decide +kernel) (by decide +kernel)
theorem zw_m_X4_218 : Cond.methodLink RX4 218 yX1_imageOf ∈ zz_g := zz_g_in (i := 845) (by decide +kernel) (by decide +kernel)
theorem zw_m_X4_222 : Cond.methodLink RX4 222 yX0_unite ∈ zz_g := zz_g_in (i := 846) (by decide +kernel) (by decide +kernel)
theorem zw_m_L_242 : Cond.methodLink RL 242 yX5_spread ∈ zz_g := zz_g_in (i := 1147) (by decide +kernel) (by decide +kernel)
theorem zw_i_X5_spread : Cond.instanceMethod yX5_spread ∈ zz_g := zz_g_in (i := 1148) (by decide +kernel) (by decide +kernel)
theorem zw_s_X5_spread : Cond.selects RX5 yX5_spread yX5_spread ∈ zz_g := zz_g_in (i := 1149) (by decide +kernel) (by decide +kernel)
theorem zw_c_X5_spread : Cond.code yX5_spread cX5_spread 6 (some .int) ∈ zz_g := zz_g_in (i := 1150) (by decide +kernel) (by decide +kernel)
theorem zw_m_L_243 : Cond.methodLink RL 243 yL_markedAt ∈ zz_g := zz_g_in (i := 847) (by decide +kernel) (by decide +kernel)
theorem zw_t_L_markedAt : Cond.static yL_markedAt ∈ zz_g := zz_g_in (i := 848) (by decide +kernel) (by decide +kernel)
theorem zw_c_L_markedAt : Cond.codeWith yL_markedAt cL_markedAt 4 (some .int) [(0, 9, 12, 122)] ∈ zz_g := zz_g_in (i := 849) (by decide +kernel) (by decide +kernel)
theorem zw_l_L_122 : Cond.classLink RL 122 "java/util/NoSuchElementException" ∈ zz_g := zz_g_in (i := 850) (by decide +kernel) (by decide +kernel)
theorem zw_m_L_119 : Cond.methodLink RL 119 yX4_markedAt ∈ zz_g := zz_g_in (i := 851) (by decide +kernel) (by decide +kernel)
theorem zw_i_X4_markedAt : Cond.instanceMethod yX4_markedAt ∈ zz_g := zz_g_in (i := 852) (by decide +kernel) (by decide +kernel)
theorem zw_s_X4_markedAt : Cond.selects RX4 yX4_markedAt yX4_markedAt ∈ zz_g := zz_g_in (i := 853) (by decide +kernel) (by decide +kernel)
theorem zw_c_X4_markedAt : Cond.code yX4_markedAt cX4_markedAt 4 (some .int) ∈ zz_g := zz_g_in (i := 854) (by decide +kernel) (by decide +kernel)
theorem zw_l_X4_227 : Cond.classLink RX4 227 "java/util/NoSuchElementException" ∈ zz_g := zz_g_in (i := 856) (by decide +kernel) (by decide +kernel)
theorem zw_n_java_util_NoSuchElementException : Cond.initialized "java/util/NoSuchElementException" ∈ zz_g := zz_g_in (i := 55) (by decide +kernel) (by decide +kernel)
theorem zw_m_X4_225 : Cond.methodLink RX4 225 yX0_holds ∈ zz_g := zz_g_in (i := 855) (by decide +kernel) (by decide +kernel)
theorem zw_m_L_245 : Cond.methodLink RL 245 yX5_markedAt ∈ zz_g := zz_g_in (i := 1151) (by decide +kernel) (by decide +kernel)
theorem zw_i_X5_markedAt : Cond.instanceMethod yX5_markedAt ∈ zz_g := zz_g_in (i := 1152) (by decide +kernel) (by decide +kernel)
theorem zw_s_X5_markedAt : Cond.selects RX5 yX5_markedAt yX5_markedAt ∈ zz_g := zz_g_in (i := 1153) (by decide +kernel) (by decide +kernel)
theorem zw_c_X5_markedAt : Cond.code yX5_markedAt cX5_markedAt 4 (some .int) ∈ zz_g := zz_g_in (i := 1154) (by decide +kernel) (by decide +kernel)
theorem zw_m_L_246 : Cond.methodLink RL 246 yX4_endOfMarks ∈ zz_g := zz_g_in (i := 189) (by decide +kernel) (by decide +kernel)
theorem zw_i_X4_endOfMarks : Cond.instanceMethod yX4_endOfMarks ∈ zz_g := zz_g_in (i := 190) (by decide +kernel) (by decide +kernel)
theorem zw_s_X4_endOfMarks : Cond.selects RX4 yX4_endOfMarks yX4_endOfMarks ∈ zz_g := zz_g_in (i := 191) (by decide +kernel) (by decide +kernel)
theorem zw_c_X4_endOfMarks : Cond.code yX4_endOfMarks cX4_endOfMarks 1 (some .int) ∈ zz_g := zz_g_in (i := 192) (by decide +kernel) (by decide +kernel)
theorem zw_m_L_249 : Cond.methodLink RL 249 yX5_endOfMarks ∈ zz_g := zz_g_in (i := 1155) (by decide +kernel) (by decide +kernel)
theorem zw_i_X5_endOfMarks : Cond.instanceMethod yX5_endOfMarks ∈ zz_g := zz_g_in (i := 1156) (by decide +kernel) (by decide +kernel)
theorem zw_s_X5_endOfMarks : Cond.selects RX5 yX5_endOfMarks yX5_endOfMarks ∈ zz_g := zz_g_in (i := 1157) (by decide +kernel) (by decide +kernel)
theorem zw_c_X5_endOfMarks : Cond.code yX5_endOfMarks cX5_endOfMarks 3 (some .int) ∈ zz_g := zz_g_in (i := 1158) (by decide +kernel) (by decide +kernel)
theorem zw_m_L_250 : Cond.methodLink RL 250 yL_meanRow ∈ zz_g := zz_g_in (i := 872) (by decide +kernel) (by decide +kernel)
theorem zw_t_L_meanRow : Cond.static yL_meanRow ∈ zz_g := zz_g_in (i := 873) (by decide +kernel) (by decide +kernel)
theorem zw_c_L_meanRow : Cond.codeWith yL_meanRow cL_meanRow 4 (some .int) [(0, 8, 11, 19)] ∈ zz_g := zz_g_in (i := 874) (by decide +kernel) (by decide +kernel)
theorem zw_m_L_124 : Cond.methodLink RL 124 yX4_meanRow ∈ zz_g := zz_g_in (i := 875) (by decide +kernel) (by decide +kernel)
theorem zw_i_X4_meanRow : Cond.instanceMethod yX4_meanRow ∈ zz_g := zz_g_in (i := 876) (by decide +kernel) (by decide +kernel)
theorem zw_s_X4_meanRow : Cond.selects RX4 yX4_meanRow yX4_meanRow ∈ zz_g := zz_g_in (i := 877) (by decide +kernel) (by decide +kernel)
theorem zw_c_X4_meanRow : Cond.code yX4_meanRow cX4_meanRow 4 (some .double) ∈ zz_g := zz_g_in (i := 878) (by decide +kernel) (by decide +kernel)
theorem zw_m_L_253 : Cond.methodLink RL 253 yX5_meanRow ∈ zz_g := zz_g_in (i := 1159) (by decide +kernel) (by decide +kernel)
theorem zw_i_X5_meanRow : Cond.instanceMethod yX5_meanRow ∈ zz_g := zz_g_in (i := 1160) (by decide +kernel) (by decide +kernel)
theorem zw_s_X5_meanRow : Cond.selects RX5 yX5_meanRow yX5_meanRow ∈ zz_g := zz_g_in (i := 1161) (by decide +kernel) (by decide +kernel)
theorem zw_c_X5_meanRow : Cond.code yX5_meanRow cX5_meanRow 2 (some .double) ∈ zz_g := zz_g_in (i := 1162) (by decide +kernel) (by decide +kernel)
theorem zw_m_L_254 : Cond.methodLink RL 254 yL_share ∈ zz_g := zz_g_in (i := 879) (by decide +kernel) (by decide +kernel)
theorem zw_t_L_share : Cond.static yL_share ∈ zz_g := zz_g_in (i := 880) (by decide +kernel) (by decide +kernel)
theorem zw_c_L_share : Cond.codeWith yL_share cL_share 4 (some .int) [(0, 9, 12, 19)] ∈ zz_g := zz_g_in (i := 881) (by decide +kernel) (by decide +kernel)
theorem zw_m_L_128 : Cond.methodLink RL 128 yX4_share ∈ zz_g := zz_g_in (i := 882) (by decide +kernel) (by decide +kernel)
theorem zw_i_X4_share : Cond.instanceMethod yX4_share ∈ zz_g := zz_g_in (i := 883) (by decide +kernel) (by decide +kernel)
theorem zw_s_X4_share : Cond.selects RX4 yX4_share yX4_share ∈ zz_g := zz_g_in (i := 884) (by decide +kernel) (by decide +kernel)
theorem zw_c_X4_share : Cond.code yX4_share cX4_share 3 (some .float) ∈ zz_g := zz_g_in (i := 885) (by decide +kernel) (by decide +kernel)
theorem zw_m_L_256 : Cond.methodLink RL 256 yX5_share ∈ zz_g := zz_g_in (i := 1163) (by decide +kernel) (by decide +kernel)
theorem zw_i_X5_share : Cond.instanceMethod yX5_share ∈ zz_g := zz_g_in (i := 1164) (by decide +kernel) (by decide +kernel)
theorem zw_s_X5_share : Cond.selects RX5 yX5_share yX5_share ∈ zz_g := zz_g_in (i := 1165) (by decide +kernel) (by decide +kernel)
theorem zw_c_X5_share : Cond.code yX5_share cX5_share 2 (some .float) ∈ zz_g := zz_g_in (i := 1166) (by decide +kernel) (by decide +kernel)
theorem zw_m_L_257 : Cond.methodLink RL 257 yX4_errors ∈ zz_g := zz_g_in (i := 201) (by decide +kernel) (by decide +kernel)
theorem zw_i_X4_errors : Cond.instanceMethod yX4_errors ∈ zz_g := zz_g_in (i := 202) (by decide +kernel) (by decide +kernel)
theorem zw_s_X4_errors : Cond.selects RX4 yX4_errors yX4_errors ∈ zz_g := zz_g_in (i := 203) (by decide +kernel) (by decide +kernel)
theorem zw_c_X4_errors : Cond.code yX4_errors cX4_errors 3 (some .int) ∈ zz_g := zz_g_in (i := 204) (by decide +kernel) (by decide +kernel)
theorem zw_m_X4_232 : Cond.methodLink RX4 232 yX2_wrongOfOne ∈ zz_g := zz_g_in (i := 278) (by decide +kernel) (by decide +kernel)
theorem zw_i_X2_wrongOfOne : Cond.instanceMethod yX2_wrongOfOne ∈ zz_g := zz_g_in (i := 279) (by decide +kernel) (by decide +kernel)
theorem zw_s_X2_wrongOfOne : Cond.selects RX2 yX2_wrongOfOne yX2_wrongOfOne ∈ zz_g := zz_g_in (i := 280) (by decide +kernel) (by decide +kernel)
theorem zw_c_X2_wrongOfOne : Cond.code yX2_wrongOfOne cX2_wrongOfOne 2 (some .int) ∈ zz_g := zz_g_in (i := 281) (by decide +kernel) (by decide +kernel)
theorem zw_m_X2_45 : Cond.methodLink RX2 45 yX1_take ∈ zz_g := zz_g_in (i := 282) (by decide +kernel) (by decide +kernel)
theorem zw_m_X2_49 : Cond.methodLink RX2 49 yX1_closeUp ∈ zz_g := zz_g_in (i := 298) (by decide +kernel) (by decide +kernel)
theorem zw_m_X2_52 : Cond.methodLink RX2 52 yX2_closureTellsWalks ∈ zz_g := zz_g_in (i := 306) (by decide +kernel) (by decide +kernel)
theorem zw_i_X2_closureTellsWalks : Cond.instanceMethod yX2_closureTellsWalks ∈ zz_g := zz_g_in (i := 308) (by decide +kernel) (by decide +kernel)
theorem zw_s_X2_closureTellsWalks : Cond.selects RX2 yX2_closureTellsWalks yX2_closureTellsWalks ∈ zz_g := zz_g_in (i := 3) (by decide +kernel) (by decide +kernel)
theorem zw_c_X2_closureTellsWalks : Cond.code yX2_closureTellsWalks cX2_closureTellsWalks 4 (some .boolean) ∈ zz_g := zz_g_in (i := 309) (by decide +kernel) (by decide +kernel)
theorem zw_m_X2_80 : Cond.methodLink RX2 80 yX1_elementsInside ∈ zz_g := zz_g_in (i := 310) (by decide +kernel) (by decide +kernel)
theorem zw_m_X2_84 : Cond.methodLink RX2 84 yX1_rowInto ∈ zz_g := zz_g_in (i := 314) (by decide +kernel) (by decide +kernel)
theorem zw_m_X2_88 : Cond.methodLink RX2 88 yX3_reachFrom ∈ zz_g := zz_g_in (i := 318) (by decide +kernel) (by decide +kernel)
theorem zw_i_X3_reachFrom : Cond.instanceMethod yX3_reachFrom ∈ zz_g := zz_g_in (i := 319) (by decide +kernel) (by decide +kernel)
theorem zw_s_X3_reachFrom : Cond.selects RX3 yX3_reachFrom yX3_reachFrom ∈ zz_g := zz_g_in (i := 320) (by decide +kernel) (by decide +kernel)
theorem zw_c_X3_reachFrom : Cond.code yX3_reachFrom cX3_reachFrom 6 none ∈ zz_g := zz_g_in (i := 321) (by decide +kernel) (by decide +kernel)
theorem zw_m_X2_92 : Cond.methodLink RX2 92 yX0_isLike ∈ zz_g := zz_g_in (i := 369) (by decide +kernel) (by decide +kernel)
theorem zw_i_X0_isLike : Cond.instanceMethod yX0_isLike ∈ zz_g := zz_g_in (i := 370) (by decide +kernel) (by decide +kernel)
theorem zw_s_X0_isLike : Cond.selects RX0 yX0_isLike yX0_isLike ∈ zz_g := zz_g_in (i := 371) (by decide +kernel) (by decide +kernel)
theorem zw_c_X0_isLike : Cond.code yX0_isLike cX0_isLike 2 (some .boolean) ∈ zz_g := zz_g_in (i := 372) (by decide +kernel) (by decide +kernel)
theorem zw_m_X2_56 : Cond.methodLink RX2 56 yX2_wrongUnless ∈ zz_g := zz_g_in (i := 373) (by decide +kernel) (by decide +kernel)
theorem zw_t_X2_wrongUnless : Cond.static yX2_wrongUnless ∈ zz_g := zz_g_in (i := 374) (by decide +kernel) (by decide +kernel)
theorem zw_c_X2_wrongUnless : Cond.code yX2_wrongUnless cX2_wrongUnless 1 (some .int) ∈ zz_g := zz_g_in (i := 375) (by decide +kernel) (by decide +kernel)
theorem zw_m_X2_60 : Cond.methodLink RX2 60 yX2_classesPartElements ∈ zz_g := zz_g_in (i := 376) (by decide +kernel) (by decide +kernel)
theorem zw_i_X2_classesPartElements : Cond.instanceMethod yX2_classesPartElements ∈ zz_g := zz_g_in (i := 378) (by decide +kernel) (by decide +kernel)
theorem zw_s_X2_classesPartElements : Cond.selects RX2 yX2_classesPartElements yX2_classesPartElements ∈ zz_g := zz_g_in (i := 6) (by decide +kernel) (by decide +kernel)
theorem zw_c_X2_classesPartElements : Cond.code yX2_classesPartElements cX2_classesPartElements 6 (some .boolean) ∈ zz_g := zz_g_in (i := 379) (by decide +kernel) (by decide +kernel)
theorem zw_m_X2_96 : Cond.methodLink RX2 96 Lib.Math.min.name ∈ zz_g := zz_g_in (i := 380) (by decide +kernel) (by decide +kernel)
theorem zw_t_Lib_Math_min_name : Cond.static Lib.Math.min.name ∈ zz_g := zz_g_in (i := 381) (by decide +kernel) (by decide +kernel)
theorem zw_n_java_lang_Math : Cond.initialized "java/lang/Math" ∈ zz_g := zz_g_in (i := 56) (by decide +kernel) (by decide +kernel)
theorem zw_c_Lib_Math_min_name : Cond.code Lib.Math.min.name Lib.Math.min.code 2 (some .int) ∈ zz_g := zz_g_in (i := 382) (by decide +kernel) (by decide +kernel)
theorem zw_m_X2_102 : Cond.methodLink RX2 102 yX1_leastOfClass ∈ zz_g := zz_g_in (i := 383) (by decide +kernel) (by decide +kernel)
theorem zw_m_X2_106 : Cond.methodLink RX2 106 yX1_inOneClass ∈ zz_g := zz_g_in (i := 391) (by decide +kernel) (by decide +kernel)
theorem zw_m_X2_110 : Cond.methodLink RX2 110 yX1_classesInside ∈ zz_g := zz_g_in (i := 392) (by decide +kernel) (by decide +kernel)
theorem zw_m_X2_64 : Cond.methodLink RX2 64 yX2_orderKeeps ∈ zz_g := zz_g_in (i := 397) (by decide +kernel) (by decide +kernel)
theorem zw_i_X2_orderKeeps : Cond.instanceMethod yX2_orderKeeps ∈ zz_g := zz_g_in (i := 399) (by decide +kernel) (by decide +kernel)
theorem zw_s_X2_orderKeeps : Cond.selects RX2 yX2_orderKeeps yX2_orderKeeps ∈ zz_g := zz_g_in (i := 7) (by decide +kernel) (by decide +kernel)
theorem zw_c_X2_orderKeeps : Cond.code yX2_orderKeeps cX2_orderKeeps 7 (some .boolean) ∈ zz_g := zz_g_in (i := 400) (by decide +kernel) (by decide +kernel)
theorem zw_m_X2_113 : Cond.methodLink RX2 113 yX1_ownPairs ∈ zz_g := zz_g_in (i := 401) (by decide +kernel) (by decide +kernel)
theorem zw_m_X2_116 : Cond.methodLink RX2 116 yX3_findOrder ∈ zz_g := zz_g_in (i := 405) (by decide +kernel) (by decide +kernel)
theorem zw_m_X2_119 : Cond.methodLink RX2 119 yX0_clear ∈ zz_g := zz_g_in (i := 424) (by decide +kernel) (by decide +kernel)
theorem zw_m_X2_122 : Cond.methodLink RX2 122 yX3_orderedAt ∈ zz_g := zz_g_in (i := 425) (by decide +kernel) (by decide +kernel)
theorem zw_m_X2_125 : Cond.methodLink RX2 125 yX0_putRange ∈ zz_g := zz_g_in (i := 429) (by decide +kernel) (by decide +kernel)
theorem zw_m_X2_129 : Cond.methodLink RX2 129 yX0_meets ∈ zz_g := zz_g_in (i := 430) (by decide +kernel) (by decide +kernel)
theorem zw_i_X0_meets : Cond.instanceMethod yX0_meets ∈ zz_g := zz_g_in (i := 431) (by decide +kernel) (by decide +kernel)
theorem zw_s_X0_meets : Cond.selects RX0 yX0_meets yX0_meets ∈ zz_g := zz_g_in (i := 432) (by decide +kernel) (by decide +kernel)
theorem zw_c_X0_meets : Cond.code yX0_meets cX0_meets 2 (some .boolean) ∈ zz_g := zz_g_in (i := 433) (by decide +kernel) (by decide +kernel)
theorem zw_m_X2_132 : Cond.methodLink RX2 132 yX0_size ∈ zz_g := zz_g_in (i := 434) (by decide +kernel) (by decide +kernel)
theorem zw_m_X2_67 : Cond.methodLink RX2 67 yX2_coversGiveClosure ∈ zz_g := zz_g_in (i := 438) (by decide +kernel) (by decide +kernel)
theorem zw_i_X2_coversGiveClosure : Cond.instanceMethod yX2_coversGiveClosure ∈ zz_g := zz_g_in (i := 440) (by decide +kernel) (by decide +kernel)
theorem zw_s_X2_coversGiveClosure : Cond.selects RX2 yX2_coversGiveClosure yX2_coversGiveClosure ∈ zz_g := zz_g_in (i := 8) (by decide +kernel) (by decide +kernel)
theorem zw_c_X2_coversGiveClosure : Cond.code yX2_coversGiveClosure cX2_coversGiveClosure 1 (some .boolean) ∈ zz_g := zz_g_in (i := 441) (by decide +kernel) (by decide +kernel)
theorem zw_m_X2_135 : Cond.methodLink RX2 135 yX1_takeCovers ∈ zz_g := zz_g_in (i := 442) (by decide +kernel) (by decide +kernel)
theorem zw_m_X2_138 : Cond.methodLink RX2 138 yX1_isLike ∈ zz_g := zz_g_in (i := 449) (by decide +kernel) (by decide +kernel)
theorem zw_i_X1_isLike : Cond.instanceMethod yX1_isLike ∈ zz_g := zz_g_in (i := 450) (by decide +kernel) (by decide +kernel)
theorem zw_s_X1_isLike : Cond.selects RX1 yX1_isLike yX1_isLike ∈ zz_g := zz_g_in (i := 451) (by decide +kernel) (by decide +kernel)
theorem zw_c_X1_isLike : Cond.code yX1_isLike cX1_isLike 2 (some .boolean) ∈ zz_g := zz_g_in (i := 452) (by decide +kernel) (by decide +kernel)
theorem zw_m_X1_99 : Cond.methodLink RX1 99 yX1_hasAllOf ∈ zz_g := zz_g_in (i := 453) (by decide +kernel) (by decide +kernel)
theorem zw_m_X4_235 : Cond.methodLink RX4 235 yX2_wrongOfThree ∈ zz_g := zz_g_in (i := 457) (by decide +kernel) (by decide +kernel)
theorem zw_i_X2_wrongOfThree : Cond.instanceMethod yX2_wrongOfThree ∈ zz_g := zz_g_in (i := 458) (by decide +kernel) (by decide +kernel)
theorem zw_s_X2_wrongOfThree : Cond.selects RX2 yX2_wrongOfThree yX2_wrongOfThree ∈ zz_g := zz_g_in (i := 459) (by decide +kernel) (by decide +kernel)
theorem zw_c_X2_wrongOfThree : Cond.code yX2_wrongOfThree cX2_wrongOfThree 4 (some .int) ∈ zz_g := zz_g_in (i := 460) (by decide +kernel) (by decide +kernel)
theorem zw_m_X2_70 : Cond.methodLink RX2 70 yX2_isAssociative ∈ zz_g := zz_g_in (i := 461) (by decide +kernel) (by decide +kernel)
theorem zw_i_X2_isAssociative : Cond.instanceMethod yX2_isAssociative ∈ zz_g := zz_g_in (i := 463) (by decide +kernel) (by decide +kernel)
theorem zw_s_X2_isAssociative : Cond.selects RX2 yX2_isAssociative yX2_isAssociative ∈ zz_g := zz_g_in (i := 9) (by decide +kernel) (by decide +kernel)
theorem zw_c_X2_isAssociative : Cond.code yX2_isAssociative cX2_isAssociative 4 (some .boolean) ∈ zz_g := zz_g_in (i := 464) (by decide +kernel) (by decide +kernel)
theorem zw_m_X2_140 : Cond.methodLink RX2 140 yX1_product ∈ zz_g := zz_g_in (i := 465) (by decide +kernel) (by decide +kernel)
theorem zw_m_X2_74 : Cond.methodLink RX2 74 yX2_distributesBefore ∈ zz_g := zz_g_in (i := 473) (by decide +kernel) (by decide +kernel)
theorem zw_i_X2_distributesBefore : Cond.instanceMethod yX2_distributesBefore ∈ zz_g := zz_g_in (i := 475) (by decide +kernel) (by decide +kernel)
theorem zw_s_X2_distributesBefore : Cond.selects RX2 yX2_distributesBefore yX2_distributesBefore ∈ zz_g := zz_g_in (i := 10) (by decide +kernel) (by decide +kernel)
theorem zw_c_X2_distributesBefore : Cond.code yX2_distributesBefore cX2_distributesBefore 4 (some .boolean) ∈ zz_g := zz_g_in (i := 476) (by decide +kernel) (by decide +kernel)
theorem zw_m_X2_144 : Cond.methodLink RX2 144 yX1_mix ∈ zz_g := zz_g_in (i := 477) (by decide +kernel) (by decide +kernel)
theorem zw_m_X2_77 : Cond.methodLink RX2 77 yX2_distributesBehind ∈ zz_g := zz_g_in (i := 484) (by decide +kernel) (by decide +kernel)
theorem zw_i_X2_distributesBehind : Cond.instanceMethod yX2_distributesBehind ∈ zz_g := zz_g_in (i := 486) (by decide +kernel) (by decide +kernel)
theorem zw_s_X2_distributesBehind : Cond.selects RX2 yX2_distributesBehind yX2_distributesBehind ∈ zz_g := zz_g_in (i := 11) (by decide +kernel) (by decide +kernel)
theorem zw_c_X2_distributesBehind : Cond.code yX2_distributesBehind cX2_distributesBehind 4 (some .boolean) ∈ zz_g := zz_g_in (i := 487) (by decide +kernel) (by decide +kernel)
theorem zw_m_L_260 : Cond.methodLink RL 260 yX5_errors ∈ zz_g := zz_g_in (i := 1167) (by decide +kernel) (by decide +kernel)
theorem zw_i_X5_errors : Cond.instanceMethod yX5_errors ∈ zz_g := zz_g_in (i := 1168) (by decide +kernel) (by decide +kernel)
theorem zw_s_X5_errors : Cond.selects RX5 yX5_errors yX5_errors ∈ zz_g := zz_g_in (i := 1169) (by decide +kernel) (by decide +kernel)
theorem zw_c_X5_errors : Cond.code yX5_errors cX5_errors 3 (some .int) ∈ zz_g := zz_g_in (i := 1170) (by decide +kernel) (by decide +kernel)
theorem zw_m_X5_135 : Cond.methodLink RX5 135 yX5_areComposed ∈ zz_g := zz_g_in (i := 1171) (by decide +kernel) (by decide +kernel)
theorem zw_i_X5_areComposed : Cond.instanceMethod yX5_areComposed ∈ zz_g := zz_g_in (i := 1173) (by decide +kernel) (by decide +kernel)
theorem zw_s_X5_areComposed : Cond.selects RX5 yX5_areComposed yX5_areComposed ∈ zz_g := zz_g_in (i := 38) (by decide +kernel) (by decide +kernel)
theorem zw_c_X5_areComposed : Cond.code yX5_areComposed cX5_areComposed 6 (some .boolean) ∈ zz_g := zz_g_in (i := 1174) (by decide +kernel) (by decide +kernel)
theorem zw_m_X5_139 : Cond.methodLink RX5 139 yX5_isClosed ∈ zz_g := zz_g_in (i := 1175) (by decide +kernel) (by decide +kernel)
theorem zw_i_X5_isClosed : Cond.instanceMethod yX5_isClosed ∈ zz_g := zz_g_in (i := 1177) (by decide +kernel) (by decide +kernel)
theorem zw_s_X5_isClosed : Cond.selects RX5 yX5_isClosed yX5_isClosed ∈ zz_g := zz_g_in (i := 39) (by decide +kernel) (by decide +kernel)
theorem zw_c_X5_isClosed : Cond.code yX5_isClosed cX5_isClosed 7 (some .boolean) ∈ zz_g := zz_g_in (i := 1178) (by decide +kernel) (by decide +kernel)
theorem zw_m_X5_142 : Cond.methodLink RX5 142 yX5_isOrdered ∈ zz_g := zz_g_in (i := 1179) (by decide +kernel) (by decide +kernel)
theorem zw_i_X5_isOrdered : Cond.instanceMethod yX5_isOrdered ∈ zz_g := zz_g_in (i := 1181) (by decide +kernel) (by decide +kernel)
theorem zw_s_X5_isOrdered : Cond.selects RX5 yX5_isOrdered yX5_isOrdered ∈ zz_g := zz_g_in (i := 40) (by decide +kernel) (by decide +kernel)
theorem zw_c_X5_isOrdered : Cond.code yX5_isOrdered cX5_isOrdered 3 (some .boolean) ∈ zz_g := zz_g_in (i := 1182) (by decide +kernel) (by decide +kernel)
theorem zw_y_X0_0 : u_lay RX0 TX0 0 ∈ zz_g := zz_g_in (i := 84) (by decide +kernel) (by decide +kernel)
theorem zw_y_X0_1 : u_lay RX0 TX0 1 ∈ zz_g := zz_g_in (i := 86) (by decide +kernel) (by decide +kernel)
theorem zz_inX0 : ∀ w ∈ u_ws RX0 TX0 2, w ∈ zz_g := by
  intro w hw
  obtain ⟨k, hk, rfl⟩ := List.mem_map.mp hw
  have hk := List.mem_range.mp hk
  rcases (show k = 0 ∨ k = 1 by omega) with rfl | rfl
  · exact zw_y_X0_0
  · exact zw_y_X0_1
theorem zw_y_X1_0 : u_lay RX1 TX1 0 ∈ zz_g := zz_g_in (i := 94) (by decide +kernel) (by decide +kernel)
theorem zw_y_X1_1 : u_lay RX1 TX1 1 ∈ zz_g := zz_g_in (i := 96) (by decide +kernel) (by decide +kernel)
theorem zw_y_X1_2 : u_lay RX1 TX1 2 ∈ zz_g := zz_g_in (i := 98) (by decide +kernel) (by decide +kernel)
theorem zw_y_X1_3 : u_lay RX1 TX1 3 ∈ zz_g := zz_g_in (i := 100) (by decide +kernel) (by decide +kernel)
theorem zz_inX1 : ∀ w ∈ u_ws RX1 TX1 4, w ∈ zz_g := by
  intro w hw
  obtain ⟨k, hk, rfl⟩ := List.mem_map.mp hw
  have hk := List.mem_range.mp hk
  rcases (show k = 0 ∨ k = 1 ∨ k = 2 ∨ k = 3 by omega) with rfl | rfl | rfl | rfl
  · exact zw_y_X1_0
  · exact zw_y_X1_1
  · exact zw_y_X1_2
  · exact zw_y_X1_3
theorem zw_y_X2_0 : u_lay RX2 TX2 0 ∈ zz_g := zz_g_in (i := 152) (by decide +kernel) (by decide +kernel)
theorem zw_y_X2_1 : u_lay RX2 TX2 1 ∈ zz_g := zz_g_in (i := 154) (by decide +kernel) (by decide +kernel)
theorem zw_y_X2_2 : u_lay RX2 TX2 2 ∈ zz_g := zz_g_in (i := 156) (by decide +kernel) (by decide +kernel)
theorem zw_y_X2_3 : u_lay RX2 TX2 3 ∈ zz_g := zz_g_in (i := 158) (by decide +kernel) (by decide +kernel)
theorem zw_y_X2_4 : u_lay RX2 TX2 4 ∈ zz_g := zz_g_in (i := 160) (by decide +kernel) (by decide +kernel)
theorem zw_y_X2_5 : u_lay RX2 TX2 5 ∈ zz_g := zz_g_in (i := 162) (by decide +kernel) (by decide +kernel)
theorem zw_y_X2_6 : u_lay RX2 TX2 6 ∈ zz_g := zz_g_in (i := 164) (by decide +kernel) (by decide +kernel)
theorem zz_inX2 : ∀ w ∈ u_ws RX2 TX2 7, w ∈ zz_g := by
  intro w hw
  obtain ⟨k, hk, rfl⟩ := List.mem_map.mp hw
  have hk := List.mem_range.mp hk
  rcases (show k = 0 ∨ k = 1 ∨ k = 2 ∨ k = 3 ∨ k = 4 ∨ k = 5 ∨ k = 6 by omega) with rfl | rfl | rfl | rfl | rfl | rfl | rfl
  · exact zw_y_X2_0
  · exact zw_y_X2_1
  · exact zw_y_X2_2
  · exact zw_y_X2_3
  · exact zw_y_X2_4
  · exact zw_y_X2_5
  · exact zw_y_X2_6
theorem zw_y_X3_0 : u_lay RX3 TX3 0 ∈ zz_g := zz_g_in (i := 119) (by decide +kernel) (by decide +kernel)
theorem zw_y_X3_1 : u_lay RX3 TX3 1 ∈ zz_g := zz_g_in (i := 121) (by decide +kernel) (by decide +kernel)
theorem zw_y_X3_2 : u_lay RX3 TX3 2 ∈ zz_g := zz_g_in (i := 123) (by decide +kernel) (by decide +kernel)
theorem zw_y_X3_3 : u_lay RX3 TX3 3 ∈ zz_g := zz_g_in (i := 125) (by decide +kernel) (by decide +kernel)
theorem zw_y_X3_4 : u_lay RX3 TX3 4 ∈ zz_g := zz_g_in (i := 127) (by decide +kernel) (by decide +kernel)
theorem zw_y_X3_5 : u_lay RX3 TX3 5 ∈ zz_g := zz_g_in (i := 129) (by decide +kernel) (by decide +kernel)
theorem zz_inX3 : ∀ w ∈ u_ws RX3 TX3 6, w ∈ zz_g := by
  intro w hw
  obtain ⟨k, hk, rfl⟩ := List.mem_map.mp hw
  have hk := List.mem_range.mp hk
  rcases (show k = 0 ∨ k = 1 ∨ k = 2 ∨ k = 3 ∨ k = 4 ∨ k = 5 by omega) with rfl | rfl | rfl | rfl | rfl | rfl
  · exact zw_y_X3_0
  · exact zw_y_X3_1
  · exact zw_y_X3_2
  · exact zw_y_X3_3
  · exact zw_y_X3_4
  · exact zw_y_X3_5
theorem zw_y_X4_0 : u_lay RX4 TX4 0 ∈ zz_g := zz_g_in (i := 174) (by decide +kernel) (by decide +kernel)
theorem zw_y_X4_1 : u_lay RX4 TX4 1 ∈ zz_g := zz_g_in (i := 176) (by decide +kernel) (by decide +kernel)
theorem zw_y_X4_2 : u_lay RX4 TX4 2 ∈ zz_g := zz_g_in (i := 178) (by decide +kernel) (by decide +kernel)
theorem zw_y_X4_3 : u_lay RX4 TX4 3 ∈ zz_g := zz_g_in (i := 180) (by decide +kernel) (by decide +kernel)
theorem zw_y_X4_4 : u_lay RX4 TX4 4 ∈ zz_g := zz_g_in (i := 182) (by decide +kernel) (by decide +kernel)
theorem zw_y_X4_5 : u_lay RX4 TX4 5 ∈ zz_g := zz_g_in (i := 184) (by decide +kernel) (by decide +kernel)
theorem zw_y_X4_6 : u_lay RX4 TX4 6 ∈ zz_g := zz_g_in (i := 186) (by decide +kernel) (by decide +kernel)
theorem zz_inX4 : ∀ w ∈ u_ws RX4 TX4 7, w ∈ zz_g := by
  intro w hw
  obtain ⟨k, hk, rfl⟩ := List.mem_map.mp hw
  have hk := List.mem_range.mp hk
  rcases (show k = 0 ∨ k = 1 ∨ k = 2 ∨ k = 3 ∨ k = 4 ∨ k = 5 ∨ k = 6 by omega) with rfl | rfl | rfl | rfl | rfl | rfl | rfl
  · exact zw_y_X4_0
  · exact zw_y_X4_1
  · exact zw_y_X4_2
  · exact zw_y_X4_3
  · exact zw_y_X4_4
  · exact zw_y_X4_5
  · exact zw_y_X4_6
theorem zw_y_X5_0 : u_lay RX5 TX5 0 ∈ zz_g := zz_g_in (i := 905) (by decide +kernel) (by decide +kernel)
theorem zw_y_X5_1 : u_lay RX5 TX5 1 ∈ zz_g := zz_g_in (i := 907) (by decide +kernel) (by decide +kernel)
theorem zw_y_X5_2 : u_lay RX5 TX5 2 ∈ zz_g := zz_g_in (i := 909) (by decide +kernel) (by decide +kernel)
theorem zw_y_X5_3 : u_lay RX5 TX5 3 ∈ zz_g := zz_g_in (i := 911) (by decide +kernel) (by decide +kernel)
theorem zw_y_X5_4 : u_lay RX5 TX5 4 ∈ zz_g := zz_g_in (i := 913) (by decide +kernel) (by decide +kernel)
theorem zw_y_X5_5 : u_lay RX5 TX5 5 ∈ zz_g := zz_g_in (i := 915) (by decide +kernel) (by decide +kernel)
theorem zw_y_X5_6 : u_lay RX5 TX5 6 ∈ zz_g := zz_g_in (i := 917) (by decide +kernel) (by decide +kernel)
theorem zw_y_X5_7 : u_lay RX5 TX5 7 ∈ zz_g := zz_g_in (i := 919) (by decide +kernel) (by decide +kernel)
theorem zw_y_X5_8 : u_lay RX5 TX5 8 ∈ zz_g := zz_g_in (i := 921) (by decide +kernel) (by decide +kernel)
theorem zw_y_X5_9 : u_lay RX5 TX5 9 ∈ zz_g := zz_g_in (i := 923) (by decide +kernel) (by decide +kernel)
theorem zw_y_X5_10 : u_lay RX5 TX5 10 ∈ zz_g := zz_g_in (i := 925) (by decide +kernel) (by decide +kernel)
theorem zw_y_X5_11 : u_lay RX5 TX5 11 ∈ zz_g := zz_g_in (i := 927) (by decide +kernel) (by decide +kernel)
theorem zw_y_X5_12 : u_lay RX5 TX5 12 ∈ zz_g := zz_g_in (i := 929) (by decide +kernel) (by decide +kernel)
theorem zz_inX5 : ∀ w ∈ u_ws RX5 TX5 13, w ∈ zz_g := by
  intro w hw
  obtain ⟨k, hk, rfl⟩ := List.mem_map.mp hw
  have hk := List.mem_range.mp hk
  rcases (show k = 0 ∨ k = 1 ∨ k = 2 ∨ k = 3 ∨ k = 4 ∨ k = 5 ∨ k = 6 ∨ k = 7 ∨ k = 8 ∨ k = 9 ∨ k = 10 ∨ k = 11 ∨ k = 12 by omega) with rfl | rfl | rfl | rfl | rfl | rfl | rfl | rfl | rfl | rfl | rfl | rfl | rfl
  · exact zw_y_X5_0
  · exact zw_y_X5_1
  · exact zw_y_X5_2
  · exact zw_y_X5_3
  · exact zw_y_X5_4
  · exact zw_y_X5_5
  · exact zw_y_X5_6
  · exact zw_y_X5_7
  · exact zw_y_X5_8
  · exact zw_y_X5_9
  · exact zw_y_X5_10
  · exact zw_y_X5_11
  · exact zw_y_X5_12
theorem zz_at_iae : ∀ w ∈ vx_atS RX4 52 "java/lang/IllegalArgumentException" ["java/lang/RuntimeException", "java/lang/Exception"], w ∈ lw_tbl ∧ vx_ot w = true := by decide +kernel
theorem zz_at_ioobe : ∀ w ∈ vx_atS RX4 243 "java/lang/IndexOutOfBoundsException" ["java/lang/RuntimeException", "java/lang/Exception"], w ∈ lw_tbl ∧ vx_ot w = true := by decide +kernel
theorem zz_at_ise : ∀ w ∈ vx_atS RX4 151 "java/lang/IllegalStateException" ["java/lang/RuntimeException", "java/lang/Exception"], w ∈ lw_tbl ∧ vx_ot w = true := by decide +kernel
end ZZW
end
section
section ZZA
/-! A packed judgement over W: one store of 68 numbered things (positions), their addresses given by ad; rows an instruction, contracts a method. -/
/-- a method: name, code, locals, what it returns, its class, its table of handlers -/
abbrev zz_M : Type := MethodName × ByteArray × Nat × Option FieldType × String × List (Nat × Nat × Nat × Nat)
abbrev zz_St : Type := Nat → va_E
abbrev zz_O : Type := Option Value ⊕ String
abbrev zz_Q : Type := zz_O → zz_St → Prop
/-- a value, positions made addresses -/
def zz_V (ad : Nat → Nat) : Value → Value := fun v => match v with
  | .ref k => .ref (ad k)
  | v => v
def zz_Vo (ad : Nat → Nat) : Option Value → Option Value := fun v => v.map (zz_V ad)
def zz_E1 (ad : Nat → Nat) (cA : Nat → ClassId) : va_E → va_E := fun e => match e with
  | .inr (ci, fs) => .inr (ci, fs.map (zz_V ad))
  | .inl (k, n, .inr (.inr (.inr (.inr f)))) => .inl (cA k, n, .inr (.inr (.inr (.inr (fun i => (f i).map ad)))))
  | .inl (k, n, x) => .inl (cA k, n, x)
def zz_W (ad : Nat → Nat) (cA : Nat → ClassId) (σ : zz_St) : va_W := (List.range 68).map (fun k => (ad k, zz_E1 ad cA (σ k)))
theorem zz_W_get {ad : Nat → Nat} {cA : Nat → ClassId} {σ : zz_St} {q : Nat} (h : q < 68) : (zz_W ad cA σ)[q]? = some (ad q, zz_E1 ad cA (σ q)) := by
  simp [zz_W, h]
theorem zz_W_at {ad : Nat → Nat} {cA : Nat → ClassId} {σ : zz_St} {k : Nat} {x : Nat × va_E} (h : (zz_W ad cA σ)[k]? = some x) : k < 68 ∧ x.1 = ad k := by
  have hk : k < 68 := by
    have := (List.getElem?_eq_some_iff.mp h).1
    simpa [zz_W] using this
  rw [zz_W_get hk] at h
  cases h
  exact ⟨hk, rfl⟩
theorem zz_W_set {ad : Nat → Nat} {cA : Nat → ClassId} {σ : zz_St} {q : Nat} (h : q < 68) (x : va_E) : (zz_W ad cA σ).set q (ad q, zz_E1 ad cA x) = zz_W ad cA (va_up σ q x) := by
  apply List.ext_getElem?
  intro i
  by_cases hi : i < 68
  · rw [zz_W_get hi, List.getElem?_set]
    by_cases hq : q = i
    · subst hq
      simp [zz_W, h, va_up]
    · rw [if_neg hq, zz_W_get hi]
      have : ¬ i = q := fun e => hq e.symm
      simp [va_up, this]
  · have h1 : (zz_W ad cA σ).length = 68 := by simp [zz_W]
    have h2 : (zz_W ad cA (va_up σ q x)).length = 68 := by simp [zz_W]
    rw [List.getElem?_eq_none (by rw [List.length_set, h1]; omega), List.getElem?_eq_none (by rw [h2]; omega)]
abbrev zz_tys (cA : Nat → ClassId) : List (ClassId × FieldType) := [(cA 0, .int), (cA 1, .long), (cA 2, .boolean), (cA 3, .object RX1), (cA 4, .double)]
def zz_inj (ad : Nat → Nat) : Prop := ∀ i j : Nat, i < 68 → j < 68 → ad i = ad j → i = j
theorem zz_D {ad : Nat → Nat} {cA : Nat → ClassId} {σ : zz_St} {A : Nat → Prop} (hi : zz_inj ad) (hA : ∀ k, k < 68 → A (ad k)) : va_D A (zz_W ad cA σ) := by
  refine ⟨fun i j p q h1 h2 e => ?_, fun k q h => ?_⟩
  · obtain ⟨a1, b1⟩ := zz_W_at h1
    obtain ⟨a2, b2⟩ := zz_W_at h2
    exact hi i j a1 a2 (by rw [← b1, ← b2]; exact e)
  · obtain ⟨a1, b1⟩ := zz_W_at h
    rw [b1]
    exact hA k a1
/-- the region that a call on the store may change -/
def zz_A (ad : Nat → Nat) (sz : Nat) : Nat → Prop := fun q => (∃ k, k < 68 ∧ q = ad k) ∨ sz ≤ q
/-- the texts of the class's throws -/
abbrev zz_txt : List (Nat × String) := [(50, "elements is out of range"), (110, "many is out of range"), (122, "how is out of range"), (149, "the relation has a ring"), (164, "word is out of range"), (180, "what is out of range"), (206, "there is no order"), (229, "no marked element has this index"), (241, "no such relation"), (244, "no such element"), (246, "no such range")]
/-- what a throw needs of the world -/
def zz_Z (A : Nat → Prop) (U : State) (H : Heap) : Prop := vx_Zq Bundle.tN "UNASSIGNED_STACK" Bundle.steD A U H ∧ vx_Zq Bundle.tN "SUPPRESSED_SENTINEL" Bundle.listD A U H ∧ ∀ x ∈ zz_txt, ∃ a, vk_R RX4 x.1 x.2 a U
theorem zz_Z_down {A B : Nat → Prop} {s U : State} {H1 : Heap} (h : zz_Z A s s.heap) (hW : s.WarmedH U.vm) (hk : ∀ q : Nat, q < s.heap.size → ¬ A q → H1[q]? = s.heap[q]?) (hAB : ∀ q, B q → A q) : zz_Z B U H1 :=
  ⟨((h.1.kept hk).moved hW.alike).narrow hAB, ((h.2.1.kept hk).moved hW.alike).narrow hAB, fun x hx => by
    obtain ⟨a, ha⟩ := h.2.2 x hx
    exact ⟨a, vk_R.warm hW ha⟩⟩
theorem zz_Z_call {A : Nat → Prop} {U : State} (g : JFrame) (mk : MethodId) (a : Array Value) (h : zz_Z A U U.heap) : zz_Z A (U.calling g mk a) (U.calling g mk a).heap :=
  ⟨vx_Zq.moved (u := U) (U := U.calling g mk a) (Vm.Alike.refl U.vm) h.1, vx_Zq.moved (u := U) (U := U.calling g mk a) (Vm.Alike.refl U.vm) h.2.1, fun x hx => by
    obtain ⟨a', ha⟩ := h.2.2 x hx
    exact ⟨a', vk_R.same rfl ha⟩⟩
/-- a method's end: it returns -/
def zz_Qc (G : va_G) (cA : Nat → ClassId) (ad : Nat → Nat) (A : Nat → Prop) (Q : zz_Q) : Array Value → State → Outcome → State → Prop := fun _ st oc t =>
  (∃ (v : Option Value) (τ : zz_St), oc = .returned (zz_Vo ad v) ∧ Q (.inl v) τ ∧ va_P G vwCl (zz_W ad cA τ) t.heap) ∧ va_F A st t
/-- .. or throws -/
def zz_Xc (G : va_G) (cA : Nat → ClassId) (ad : Nat → Nat) (A : Nat → Prop) (Q : zz_Q) : String → State → State → Prop := fun E st t =>
  (∃ τ : zz_St, Q (.inr E) τ ∧ va_P G vwCl (zz_W ad cA τ) t.heap) ∧ va_F A st t
/-- the script of a law: at position 68 -/
def zz_Sc (sc : Option (Nat × (Nat → Int32))) (ad : Nat → Nat) (A : Nat → Prop) (s : State) : Prop := match sc with
  | none => True
  | some (L, xs) => va_X (ad 68) L xs s s.heap ∧ ad 68 < s.heap.size ∧ ¬ A (ad 68)
/-- what stays the same in a method's body -/
def zz_S (M : zz_M) (sc : Option (Nat × (Nat → Int32))) (d : Nat) (p : Program) (l : Launch) (R : Room) (s : State) (m : MethodId) (args : Array Value) (meth : Method) (c : Code) (ad : Nat → Nat) (G : va_G) (cA : Nat → ClassId) (A : Nat → Prop) (mc ms : Nat) : Prop :=
  p.tables.exec = Jvm.exec ∧ c.code = M.2.1 ∧ c.maxLocals = M.2.2.1 ∧ meth.sig.returnType = M.2.2.2.1 ∧ meth.locks = false ∧ s.vm.findClass M.2.2.2.2.1 = some m.cls ∧ (∀ w ∈ zz_g, w.before args s = true) ∧ c.exceptionTable.toList = tableOf M.2.2.2.2.2 ∧
  va_K G vwCl (zz_tys cA) s ∧ zz_inj ad ∧ (∀ k, k < 68 → A (ad k)) ∧ (∀ q, s.heap.size ≤ q → A q) ∧ zz_Z A s s.heap ∧ l.stackTraces = false ∧ d ≤ R.frames ∧ 36 * d + 90 ≤ R.locals ∧ mc ≤ R.cells ∧ ms ≤ R.slots ∧ zz_Sc sc ad A s
def zz_LV (ad : Nat → Nat) (lv : List (Nat × Value)) : List (Nat × Value) := lv.map (fun q => (q.1, zz_V ad q.2))
/-- from here the method M, at depth d, with room for rc things and rz fields yet, comes to an end with Q -/
def zz_E (M : zz_M) (sc : Option (Nat × (Nat → Int32))) (d rc rz : Nat) (Q : zz_Q) (pc : Nat) (lv : List (Nat × Value)) (st : List Value) (σ : zz_St) : Prop :=
  ∀ (p : Program) (l : Launch) (e : Env) (R : Room) (s : State) (m : MethodId) (args : Array Value) (below : List Frame) (meth : Method) (c : Code) (ad : Nat → Nat) (G : va_G) (cA : Nat → ClassId) (A : Nat → Prop) (mc ms : Nat), zz_S M sc d p l R s m args meth c ad G cA A mc ms →
  ∀ (H : Heap) (locs : List Loc) (cells slots : Nat) (ls : Array Slot), cells + rc ≤ mc → slots + rz ≤ ms → lv_has ls M.2.2.1 (zz_LV ad lv) → va_S A s.heap H locs → va_P G vwCl (zz_W ad cA σ) H →
  W p l e R s m args below meth c H locs cells slots (vx_MQ below (zz_Qc G cA ad A Q) (zz_Xc G cA ad A Q) args s mc ms A) (F0 m pc ls (st.map (zz_V ad)))
/-- a method's contract -/
def zz_pre (ad : Nat → Nat) (G : va_G) (cA : Nat → ClassId) (sz : Nat) (σ : zz_St) : State → Prop := fun U =>
  U.heap.size = sz ∧ va_P G vwCl (zz_W ad cA σ) U.heap ∧ va_K G vwCl (zz_tys cA) U ∧ zz_inj ad ∧ zz_Z (zz_A ad sz) U U.heap
def zz_ws (M : zz_M) : List Cond := (match M.2.2.2.2.2 with
  | [] => Cond.code M.1 M.2.1 M.2.2.1 M.2.2.2.1
  | h => Cond.codeWith M.1 M.2.1 M.2.2.1 M.2.2.2.1 h) :: zz_g
def zz_C (M : zz_M) (d mc ms : Nat) (as : List Value) (σ : zz_St) (Q : zz_Q) : Prop :=
  ∀ (l : Launch), l.stackTraces = false → ∀ (ad : Nat → Nat) (G : va_G) (cA : Nat → ClassId) (sz : Nat),
    vx_Met l M.1 (zz_ws M) { frames := d, cells := mc, slots := ms, locals := 36 * d + 90 } (va_Pc (as.map (zz_V ad)) (zz_pre ad G cA sz σ)) (zz_Qc G cA ad (zz_A ad sz) Q) (zz_Xc G cA ad (zz_A ad sz) Q) mc ms (zz_A ad sz)
theorem zz_cat (ad : Nat → Nat) (v : Value) : (zz_V ad v).category = v.category := by cases v <;> rfl
theorem zz_cats (ad : Nat → Nat) (st : List Value) : ((st.map (zz_V ad)).map fun v => v.category).sum = (st.map fun v => v.category).sum := by
  rw [List.map_map]
  congr 1
  exact List.map_congr_left (fun v _ => zz_cat ad v)
theorem zz_args (ad : Nat → Nat) : ∀ (vs : List Value) (i : Nat), lv_args i (vs.map (zz_V ad)) = zz_LV ad (lv_args i vs)
  | [], _ => rfl
  | v :: vs, i => by
    show (i, zz_V ad v) :: lv_args (if (zz_V ad v).category = 2 then i + 2 else i + 1) (vs.map (zz_V ad)) = (i, zz_V ad v) :: zz_LV ad (lv_args (if v.category = 2 then i + 2 else i + 1) vs)
    rw [zz_cat, zz_args ad vs]
theorem zz_sl (ad : Nat → Nat) : ∀ vs : List Value, (lg_sl (vs.map (zz_V ad))).length = (lg_sl vs).length
  | [] => rfl
  | v :: vs => by
    have := zz_sl ad vs
    cases v <;> simp_all [lg_sl, zz_V, Value.category]
theorem zz_lv_at {M : zz_M} {ad : Nat → Nat} {ls : Array Slot} {lv : List (Nat × Value)} (h : lv_has ls M.2.2.1 (zz_LV ad lv)) {i : Nat} {v : Value} (hk : lv.lookup i = some v) : ls[i]? = some (.val (zz_V ad v)) := by
  have hm : (i, v) ∈ lv := by
    induction lv with
    | nil => cases hk
    | cons q lv ih =>
      obtain ⟨a, b⟩ := q
      rw [List.lookup_cons] at hk
      by_cases e : (i == a) = true
      · rw [e] at hk
        simp at e hk
        subst e; subst hk
        exact List.mem_cons_self
      · simp only [Bool.not_eq_true] at e
        rw [e] at hk
        exact List.mem_cons_of_mem _ (ih ⟨h.1, h.2.1, fun q hq => h.2.2 q (List.mem_cons_of_mem _ hq)⟩ hk)
  exact h.2.2 (i, zz_V ad v) (List.mem_map.mpr ⟨(i, v), hm, rfl⟩)
/-- locals behind a store -/
def zz_up1 (lv : List (Nat × Value)) (i : Nat) (v : Value) : List (Nat × Value) := (i, v) :: lv.filter (fun q => !(q.1 == i) && !(q.1 + 1 == i && q.2.category == 2))
def zz_up2 (lv : List (Nat × Value)) (i : Nat) (v : Value) : List (Nat × Value) := (i, v) :: lv.filter (fun q => !(q.1 == i) && (!(q.1 == i + 1) && !(q.1 + 1 == i && q.2.category == 2)))
theorem zz_LV_up1 (ad : Nat → Nat) (lv : List (Nat × Value)) (i : Nat) (v : Value) : (i, zz_V ad v) :: (zz_LV ad lv).filter (fun q => !(q.1 == i) && !(q.1 + 1 == i && q.2.category == 2)) = zz_LV ad (zz_up1 lv i v) := by
  unfold zz_LV zz_up1
  rw [List.map_cons, List.filter_map]
  congr 2
  exact List.filter_congr (fun q _ => by simp only [Function.comp, zz_cat])
theorem zz_LV_up2 (ad : Nat → Nat) (lv : List (Nat × Value)) (i : Nat) (v : Value) : (i, zz_V ad v) :: (zz_LV ad lv).filter (fun q => !(q.1 == i) && (!(q.1 == i + 1) && !(q.1 + 1 == i && q.2.category == 2))) = zz_LV ad (zz_up2 lv i v) := by
  unfold zz_LV zz_up2
  rw [List.map_cons, List.filter_map]
  congr 2
  exact List.filter_congr (fun q _ => by simp only [Function.comp, zz_cat])
theorem zz_LV_sub {n : Nat} {ad : Nat → Nat} {ls : Array Slot} {lv lv' : List (Nat × Value)} (h : lv_has ls n (zz_LV ad lv)) (hs : ∀ q ∈ lv', q ∈ lv) : lv_has ls n (zz_LV ad lv') :=
  ⟨h.1, h.2.1, fun q hq => by
    obtain ⟨x, hx, rfl⟩ := List.mem_map.mp hq
    exact h.2.2 _ (List.mem_map.mpr ⟨x, hs x hx, rfl⟩)⟩
end ZZA
end
section
section ZZB
variable {M : zz_M} {sc : Option (Nat × (Nat → Int32))} {d rc rz : Nat} {Q : zz_Q} {pc : Nat} {lv : List (Nat × Value)} {st : List Value} {σ : zz_St}
theorem zz_iconst {n : Int} {v : Int32} (h : decode M.2.1 pc = .ok (.iconst n, 1)) (hv : Int32.ofInt n = v) (K : zz_E M sc d rc rz Q (pc + 1) (lv) (.int v :: st) (σ)) : zz_E M sc d rc rz Q (pc) (lv) (st) (σ) := by
  intro p l e R s m args below meth c ad G cA A mc ms S H locs cells slots ls hc hz hl hS hP
  exact lv_iconst S.1 S.2.1 h hv (K p l e R s m args below meth c ad G cA A mc ms S H locs cells slots ls hc hz hl hS hP)
theorem zz_bipush {n : Int} {v : Int32} (h : decode M.2.1 pc = .ok (.bipush n, 2)) (hv : (Int8.ofInt n).toInt32 = v) (K : zz_E M sc d rc rz Q (pc + 2) (lv) (.int v :: st) (σ)) : zz_E M sc d rc rz Q (pc) (lv) (st) (σ) := by
  intro p l e R s m args below meth c ad G cA A mc ms S H locs cells slots ls hc hz hl hS hP
  exact lv_bipush S.1 S.2.1 h hv (K p l e R s m args below meth c ad G cA A mc ms S H locs cells slots ls hc hz hl hS hP)
theorem zz_sipush {n : Int} {v : Int32} (h : decode M.2.1 pc = .ok (.sipush n, 3)) (hv : (Int16.ofInt n).toInt32 = v) (K : zz_E M sc d rc rz Q (pc + 3) (lv) (.int v :: st) (σ)) : zz_E M sc d rc rz Q (pc) (lv) (st) (σ) := by
  intro p l e R s m args below meth c ad G cA A mc ms S H locs cells slots ls hc hz hl hS hP
  exact lv_sipush S.1 S.2.1 h hv (K p l e R s m args below meth c ad G cA A mc ms S H locs cells slots ls hc hz hl hS hP)
theorem zz_lconst {n : Fin 2} {v : Int64} (h : decode M.2.1 pc = .ok (.lconst n, 1)) (hv : Int64.ofNat (n : Nat) = v) (K : zz_E M sc d rc rz Q (pc + 1) (lv) (.long v :: st) (σ)) : zz_E M sc d rc rz Q (pc) (lv) (st) (σ) := by
  intro p l e R s m args below meth c ad G cA A mc ms S H locs cells slots ls hc hz hl hS hP
  exact lv_lconst S.1 S.2.1 h hv (K p l e R s m args below meth c ad G cA A mc ms S H locs cells slots ls hc hz hl hS hP)
theorem zz_ldc {i : Nat} {v : Int32} (h : decode M.2.1 pc = .ok (.ldc i, 2)) (hw : Cond.constant M.2.2.2.2.1 i v ∈ zz_g) (K : zz_E M sc d rc rz Q (pc + 2) (lv) (.int v :: st) (σ)) : zz_E M sc d rc rz Q (pc) (lv) (st) (σ) := by
  intro p l e R s m args below meth c ad G cA A mc ms S H locs cells slots ls hc hz hl hS hP
  exact lv_ldc S.1 S.2.1 S.2.2.2.2.2.1 (S.2.2.2.2.2.2.1 _ hw) h (K p l e R s m args below meth c ad G cA A mc ms S H locs cells slots ls hc hz hl hS hP)
theorem zz_ldc2 {i : Nat} {v : Int64} (h : decode M.2.1 pc = .ok (.ldc2_w i, 3)) (hw : Cond.constantLong M.2.2.2.2.1 i v ∈ zz_g) (K : zz_E M sc d rc rz Q (pc + 3) (lv) (.long v :: st) (σ)) : zz_E M sc d rc rz Q (pc) (lv) (st) (σ) := by
  intro p l e R s m args below meth c ad G cA A mc ms S H locs cells slots ls hc hz hl hS hP
  exact lv_ldc2 S.1 S.2.1 S.2.2.2.2.2.1 (S.2.2.2.2.2.2.1 _ hw) h (K p l e R s m args below meth c ad G cA A mc ms S H locs cells slots ls hc hz hl hS hP)
theorem zz_iload_n {k : Fin 4} {x : Int32} (h : decode M.2.1 pc = .ok (.iload_n k, 1)) (hv : lv.lookup (k : Nat) = some (.int x)) (K : zz_E M sc d rc rz Q (pc + 1) (lv) (.int x :: st) (σ)) : zz_E M sc d rc rz Q (pc) (lv) (st) (σ) := by
  intro p l e R s m args below meth c ad G cA A mc ms S H locs cells slots ls hc hz hl hS hP
  exact lv_iload_n S.1 S.2.1 h rfl (zz_lv_at (M := M) hl hv) (K p l e R s m args below meth c ad G cA A mc ms S H locs cells slots ls hc hz hl hS hP)
theorem zz_iload {i : Nat} {x : Int32} (h : decode M.2.1 pc = .ok (.iload i, 2)) (hv : lv.lookup i = some (.int x)) (K : zz_E M sc d rc rz Q (pc + 2) (lv) (.int x :: st) (σ)) : zz_E M sc d rc rz Q (pc) (lv) (st) (σ) := by
  intro p l e R s m args below meth c ad G cA A mc ms S H locs cells slots ls hc hz hl hS hP
  exact lv_iload S.1 S.2.1 h (zz_lv_at (M := M) hl hv) (K p l e R s m args below meth c ad G cA A mc ms S H locs cells slots ls hc hz hl hS hP)
theorem zz_lload_n {k : Fin 4} {x : Int64} (h : decode M.2.1 pc = .ok (.lload_n k, 1)) (hv : lv.lookup (k : Nat) = some (.long x)) (K : zz_E M sc d rc rz Q (pc + 1) (lv) (.long x :: st) (σ)) : zz_E M sc d rc rz Q (pc) (lv) (st) (σ) := by
  intro p l e R s m args below meth c ad G cA A mc ms S H locs cells slots ls hc hz hl hS hP
  exact lv_lload_n S.1 S.2.1 h rfl (zz_lv_at (M := M) hl hv) (K p l e R s m args below meth c ad G cA A mc ms S H locs cells slots ls hc hz hl hS hP)
theorem zz_lload {i : Nat} {x : Int64} (h : decode M.2.1 pc = .ok (.lload i, 2)) (hv : lv.lookup i = some (.long x)) (K : zz_E M sc d rc rz Q (pc + 2) (lv) (.long x :: st) (σ)) : zz_E M sc d rc rz Q (pc) (lv) (st) (σ) := by
  intro p l e R s m args below meth c ad G cA A mc ms S H locs cells slots ls hc hz hl hS hP
  exact lv_lload S.1 S.2.1 h (zz_lv_at (M := M) hl hv) (K p l e R s m args below meth c ad G cA A mc ms S H locs cells slots ls hc hz hl hS hP)
theorem zz_fload_n {k : Fin 4} {x : UInt32} (h : decode M.2.1 pc = .ok (.fload_n k, 1)) (hv : lv.lookup (k : Nat) = some (.float x)) (K : zz_E M sc d rc rz Q (pc + 1) (lv) (.float x :: st) (σ)) : zz_E M sc d rc rz Q (pc) (lv) (st) (σ) := by
  intro p l e R s m args below meth c ad G cA A mc ms S H locs cells slots ls hc hz hl hS hP
  exact lv_fload_n S.1 S.2.1 h rfl (zz_lv_at (M := M) hl hv) (K p l e R s m args below meth c ad G cA A mc ms S H locs cells slots ls hc hz hl hS hP)
theorem zz_fload {i : Nat} {x : UInt32} (h : decode M.2.1 pc = .ok (.fload i, 2)) (hv : lv.lookup i = some (.float x)) (K : zz_E M sc d rc rz Q (pc + 2) (lv) (.float x :: st) (σ)) : zz_E M sc d rc rz Q (pc) (lv) (st) (σ) := by
  intro p l e R s m args below meth c ad G cA A mc ms S H locs cells slots ls hc hz hl hS hP
  exact lv_fload S.1 S.2.1 h (zz_lv_at (M := M) hl hv) (K p l e R s m args below meth c ad G cA A mc ms S H locs cells slots ls hc hz hl hS hP)
theorem zz_dload_n {k : Fin 4} {x : UInt64} (h : decode M.2.1 pc = .ok (.dload_n k, 1)) (hv : lv.lookup (k : Nat) = some (.double x)) (K : zz_E M sc d rc rz Q (pc + 1) (lv) (.double x :: st) (σ)) : zz_E M sc d rc rz Q (pc) (lv) (st) (σ) := by
  intro p l e R s m args below meth c ad G cA A mc ms S H locs cells slots ls hc hz hl hS hP
  exact lv_dload_n S.1 S.2.1 h rfl (zz_lv_at (M := M) hl hv) (K p l e R s m args below meth c ad G cA A mc ms S H locs cells slots ls hc hz hl hS hP)
theorem zz_dload {i : Nat} {x : UInt64} (h : decode M.2.1 pc = .ok (.dload i, 2)) (hv : lv.lookup i = some (.double x)) (K : zz_E M sc d rc rz Q (pc + 2) (lv) (.double x :: st) (σ)) : zz_E M sc d rc rz Q (pc) (lv) (st) (σ) := by
  intro p l e R s m args below meth c ad G cA A mc ms S H locs cells slots ls hc hz hl hS hP
  exact lv_dload S.1 S.2.1 h (zz_lv_at (M := M) hl hv) (K p l e R s m args below meth c ad G cA A mc ms S H locs cells slots ls hc hz hl hS hP)
theorem zz_aload_n {k : Fin 4} {x : Nat} (h : decode M.2.1 pc = .ok (.aload_n k, 1)) (hv : lv.lookup (k : Nat) = some (.ref x)) (K : zz_E M sc d rc rz Q (pc + 1) (lv) (.ref x :: st) (σ)) : zz_E M sc d rc rz Q (pc) (lv) (st) (σ) := by
  intro p l e R s m args below meth c ad G cA A mc ms S H locs cells slots ls hc hz hl hS hP
  exact lv_aload_n S.1 S.2.1 h rfl (zz_lv_at (M := M) hl hv) (K p l e R s m args below meth c ad G cA A mc ms S H locs cells slots ls hc hz hl hS hP)
theorem zz_aload {i : Nat} {x : Nat} (h : decode M.2.1 pc = .ok (.aload i, 2)) (hv : lv.lookup i = some (.ref x)) (K : zz_E M sc d rc rz Q (pc + 2) (lv) (.ref x :: st) (σ)) : zz_E M sc d rc rz Q (pc) (lv) (st) (σ) := by
  intro p l e R s m args below meth c ad G cA A mc ms S H locs cells slots ls hc hz hl hS hP
  exact lv_aload S.1 S.2.1 h (zz_lv_at (M := M) hl hv) (K p l e R s m args below meth c ad G cA A mc ms S H locs cells slots ls hc hz hl hS hP)
theorem zz_istore_n {k : Fin 4} {x : Int32} (h : decode M.2.1 pc = .ok (.istore_n k, 1)) (hn : (k : Nat) < M.2.2.1) (K : zz_E M sc d rc rz Q (pc + 1) (zz_up1 lv (k : Nat) (.int x)) (st) (σ)) : zz_E M sc d rc rz Q (pc) (lv) (.int x :: st) (σ) := by
  intro p l e R s m args below meth c ad G cA A mc ms S H locs cells slots ls hc hz hl hS hP
  exact lv_istore_n S.1 S.2.1 h rfl hl hn (zz_LV_up1 ad lv (k : Nat) (.int x)) (fun ls2 hl2 => K p l e R s m args below meth c ad G cA A mc ms S H locs cells slots ls2 hc hz hl2 hS hP)
theorem zz_istore {i : Nat} {x : Int32} (h : decode M.2.1 pc = .ok (.istore i, 2)) (hn : i < M.2.2.1) (K : zz_E M sc d rc rz Q (pc + 2) (zz_up1 lv i (.int x)) (st) (σ)) : zz_E M sc d rc rz Q (pc) (lv) (.int x :: st) (σ) := by
  intro p l e R s m args below meth c ad G cA A mc ms S H locs cells slots ls hc hz hl hS hP
  exact lv_istore S.1 S.2.1 h hl hn (zz_LV_up1 ad lv i (.int x)) (fun ls2 hl2 => K p l e R s m args below meth c ad G cA A mc ms S H locs cells slots ls2 hc hz hl2 hS hP)
theorem zz_lstore_n {k : Fin 4} {x : Int64} (h : decode M.2.1 pc = .ok (.lstore_n k, 1)) (hn : (k : Nat) + 1 < M.2.2.1) (K : zz_E M sc d rc rz Q (pc + 1) (zz_up2 lv (k : Nat) (.long x)) (st) (σ)) : zz_E M sc d rc rz Q (pc) (lv) (.long x :: st) (σ) := by
  intro p l e R s m args below meth c ad G cA A mc ms S H locs cells slots ls hc hz hl hS hP
  exact lv_lstore_n S.1 S.2.1 h rfl hl hn (zz_LV_up2 ad lv (k : Nat) (.long x)) (fun ls2 hl2 => K p l e R s m args below meth c ad G cA A mc ms S H locs cells slots ls2 hc hz hl2 hS hP)
theorem zz_lstore {i : Nat} {x : Int64} (h : decode M.2.1 pc = .ok (.lstore i, 2)) (hn : i + 1 < M.2.2.1) (K : zz_E M sc d rc rz Q (pc + 2) (zz_up2 lv i (.long x)) (st) (σ)) : zz_E M sc d rc rz Q (pc) (lv) (.long x :: st) (σ) := by
  intro p l e R s m args below meth c ad G cA A mc ms S H locs cells slots ls hc hz hl hS hP
  exact lv_lstore S.1 S.2.1 h hl hn (zz_LV_up2 ad lv i (.long x)) (fun ls2 hl2 => K p l e R s m args below meth c ad G cA A mc ms S H locs cells slots ls2 hc hz hl2 hS hP)
theorem zz_fstore_n {k : Fin 4} {x : UInt32} (h : decode M.2.1 pc = .ok (.fstore_n k, 1)) (hn : (k : Nat) < M.2.2.1) (K : zz_E M sc d rc rz Q (pc + 1) (zz_up1 lv (k : Nat) (.float x)) (st) (σ)) : zz_E M sc d rc rz Q (pc) (lv) (.float x :: st) (σ) := by
  intro p l e R s m args below meth c ad G cA A mc ms S H locs cells slots ls hc hz hl hS hP
  exact lv_fstore_n S.1 S.2.1 h rfl hl hn (zz_LV_up1 ad lv (k : Nat) (.float x)) (fun ls2 hl2 => K p l e R s m args below meth c ad G cA A mc ms S H locs cells slots ls2 hc hz hl2 hS hP)
theorem zz_fstore {i : Nat} {x : UInt32} (h : decode M.2.1 pc = .ok (.fstore i, 2)) (hn : i < M.2.2.1) (K : zz_E M sc d rc rz Q (pc + 2) (zz_up1 lv i (.float x)) (st) (σ)) : zz_E M sc d rc rz Q (pc) (lv) (.float x :: st) (σ) := by
  intro p l e R s m args below meth c ad G cA A mc ms S H locs cells slots ls hc hz hl hS hP
  exact lv_fstore S.1 S.2.1 h hl hn (zz_LV_up1 ad lv i (.float x)) (fun ls2 hl2 => K p l e R s m args below meth c ad G cA A mc ms S H locs cells slots ls2 hc hz hl2 hS hP)
theorem zz_dstore_n {k : Fin 4} {x : UInt64} (h : decode M.2.1 pc = .ok (.dstore_n k, 1)) (hn : (k : Nat) + 1 < M.2.2.1) (K : zz_E M sc d rc rz Q (pc + 1) (zz_up2 lv (k : Nat) (.double x)) (st) (σ)) : zz_E M sc d rc rz Q (pc) (lv) (.double x :: st) (σ) := by
  intro p l e R s m args below meth c ad G cA A mc ms S H locs cells slots ls hc hz hl hS hP
  exact lv_dstore_n S.1 S.2.1 h rfl hl hn (zz_LV_up2 ad lv (k : Nat) (.double x)) (fun ls2 hl2 => K p l e R s m args below meth c ad G cA A mc ms S H locs cells slots ls2 hc hz hl2 hS hP)
theorem zz_dstore {i : Nat} {x : UInt64} (h : decode M.2.1 pc = .ok (.dstore i, 2)) (hn : i + 1 < M.2.2.1) (K : zz_E M sc d rc rz Q (pc + 2) (zz_up2 lv i (.double x)) (st) (σ)) : zz_E M sc d rc rz Q (pc) (lv) (.double x :: st) (σ) := by
  intro p l e R s m args below meth c ad G cA A mc ms S H locs cells slots ls hc hz hl hS hP
  exact lv_dstore S.1 S.2.1 h hl hn (zz_LV_up2 ad lv i (.double x)) (fun ls2 hl2 => K p l e R s m args below meth c ad G cA A mc ms S H locs cells slots ls2 hc hz hl2 hS hP)
theorem zz_astore_n {k : Fin 4} {x : Nat} (h : decode M.2.1 pc = .ok (.astore_n k, 1)) (hn : (k : Nat) < M.2.2.1) (K : zz_E M sc d rc rz Q (pc + 1) (zz_up1 lv (k : Nat) (.ref x)) (st) (σ)) : zz_E M sc d rc rz Q (pc) (lv) (.ref x :: st) (σ) := by
  intro p l e R s m args below meth c ad G cA A mc ms S H locs cells slots ls hc hz hl hS hP
  exact lv_astore_n S.1 S.2.1 h rfl hl hn (zz_LV_up1 ad lv (k : Nat) (.ref x)) (fun ls2 hl2 => K p l e R s m args below meth c ad G cA A mc ms S H locs cells slots ls2 hc hz hl2 hS hP)
theorem zz_astore {i : Nat} {x : Nat} (h : decode M.2.1 pc = .ok (.astore i, 2)) (hn : i < M.2.2.1) (K : zz_E M sc d rc rz Q (pc + 2) (zz_up1 lv i (.ref x)) (st) (σ)) : zz_E M sc d rc rz Q (pc) (lv) (.ref x :: st) (σ) := by
  intro p l e R s m args below meth c ad G cA A mc ms S H locs cells slots ls hc hz hl hS hP
  exact lv_astore S.1 S.2.1 h hl hn (zz_LV_up1 ad lv i (.ref x)) (fun ls2 hl2 => K p l e R s m args below meth c ad G cA A mc ms S H locs cells slots ls2 hc hz hl2 hS hP)
theorem zz_astoreX {i : Nat} {x : Nat} {lv2 : List (Nat × Value)} (h : decode M.2.1 pc = .ok (.astore i, 2)) (hn : i < M.2.2.1) (hs : ∀ q ∈ lv2, q ∈ zz_up1 lv i (.ref x)) (K : zz_E M sc d rc rz Q (pc + 2) lv2 st σ) : zz_E M sc d rc rz Q pc lv (.ref x :: st) σ := by
  intro p l e R s m args below meth c ad G cA A mc ms S H locs cells slots ls hc hz hl hS hP
  exact lv_astore S.1 S.2.1 h hl hn (zz_LV_up1 ad lv i (.ref x)) (fun ls2 hl2 => K p l e R s m args below meth c ad G cA A mc ms S H locs cells slots ls2 hc hz (zz_LV_sub hl2 hs) hS hP)
/-- fewer locals are told -/
theorem zz_lvs {lv2 : List (Nat × Value)} (hs : ∀ q ∈ lv2, q ∈ lv) (K : zz_E M sc d rc rz Q pc lv2 st σ) : zz_E M sc d rc rz Q pc lv st σ := by
  intro p l e R s m args below meth c ad G cA A mc ms S H locs cells slots ls hc hz hl hS hP
  exact K p l e R s m args below meth c ad G cA A mc ms S H locs cells slots ls hc hz (zz_LV_sub hl hs) hS hP
theorem zz_iinc {i : Nat} {n : Int} {x v : Int32} (h : decode M.2.1 pc = .ok (.iinc i n, 3)) (hv : lv.lookup i = some (.int x)) (hx : x + Int32.ofInt n = v) (hn : i < M.2.2.1) (K : zz_E M sc d rc rz Q (pc + 3) (zz_up1 lv i (.int v)) st σ) : zz_E M sc d rc rz Q pc lv st σ := by
  intro p l e R s m args below meth c ad G cA A mc ms S H locs cells slots ls hc hz hl hS hP
  obtain ⟨k, hk⟩ : ∃ k, (zz_LV ad lv)[k]? = some (i, Value.int x) := by
    have hm : (i, Value.int x) ∈ lv := by
      clear hl K
      induction lv with
      | nil => cases hv
      | cons q lv ih =>
        obtain ⟨a, b⟩ := q
        rw [List.lookup_cons] at hv
        by_cases e : (i == a) = true
        · rw [e] at hv
          simp at e hv
          subst e; subst hv
          exact List.mem_cons_self
        · simp only [Bool.not_eq_true] at e
          rw [e] at hv
          exact List.mem_cons_of_mem _ (ih hv)
    exact List.mem_iff_getElem?.mp (List.mem_map.mpr ⟨(i, Value.int x), hm, rfl⟩)
  exact lv_iinc (v := v) S.1 S.2.1 h hl hk hx hn (zz_LV_up1 ad lv i (.int v)) (fun ls2 hl2 => K p l e R s m args below meth c ad G cA A mc ms S H locs cells slots ls2 hc hz hl2 hS hP)
theorem zz_iadd {x y : Int32} (h : decode M.2.1 pc = .ok (.iadd, 1)) (K : zz_E M sc d rc rz Q (pc + 1) (lv) (.int (x + y) :: st) (σ)) : zz_E M sc d rc rz Q (pc) (lv) (.int y :: .int x :: st) (σ) := by
  intro p l e R s m args below meth c ad G cA A mc ms S H locs cells slots ls hc hz hl hS hP
  exact lv_iadd S.1 S.2.1 h (K p l e R s m args below meth c ad G cA A mc ms S H locs cells slots ls hc hz hl hS hP)
theorem zz_isub {x y : Int32} (h : decode M.2.1 pc = .ok (.isub, 1)) (K : zz_E M sc d rc rz Q (pc + 1) (lv) (.int (x - y) :: st) (σ)) : zz_E M sc d rc rz Q (pc) (lv) (.int y :: .int x :: st) (σ) := by
  intro p l e R s m args below meth c ad G cA A mc ms S H locs cells slots ls hc hz hl hS hP
  exact lv_isub S.1 S.2.1 h (K p l e R s m args below meth c ad G cA A mc ms S H locs cells slots ls hc hz hl hS hP)
theorem zz_imul {x y : Int32} (h : decode M.2.1 pc = .ok (.imul, 1)) (K : zz_E M sc d rc rz Q (pc + 1) (lv) (.int (x * y) :: st) (σ)) : zz_E M sc d rc rz Q (pc) (lv) (.int y :: .int x :: st) (σ) := by
  intro p l e R s m args below meth c ad G cA A mc ms S H locs cells slots ls hc hz hl hS hP
  exact lv_imul S.1 S.2.1 h (K p l e R s m args below meth c ad G cA A mc ms S H locs cells slots ls hc hz hl hS hP)
theorem zz_ladd {x y : Int64} (h : decode M.2.1 pc = .ok (.ladd, 1)) (K : zz_E M sc d rc rz Q (pc + 1) (lv) (.long (x + y) :: st) (σ)) : zz_E M sc d rc rz Q (pc) (lv) (.long y :: .long x :: st) (σ) := by
  intro p l e R s m args below meth c ad G cA A mc ms S H locs cells slots ls hc hz hl hS hP
  exact lv_ladd S.1 S.2.1 h (K p l e R s m args below meth c ad G cA A mc ms S H locs cells slots ls hc hz hl hS hP)
theorem zz_lsub {x y : Int64} (h : decode M.2.1 pc = .ok (.lsub, 1)) (K : zz_E M sc d rc rz Q (pc + 1) (lv) (.long (x - y) :: st) (σ)) : zz_E M sc d rc rz Q (pc) (lv) (.long y :: .long x :: st) (σ) := by
  intro p l e R s m args below meth c ad G cA A mc ms S H locs cells slots ls hc hz hl hS hP
  exact lv_lsub S.1 S.2.1 h (K p l e R s m args below meth c ad G cA A mc ms S H locs cells slots ls hc hz hl hS hP)
theorem zz_land {x y : Int64} (h : decode M.2.1 pc = .ok (.land, 1)) (K : zz_E M sc d rc rz Q (pc + 1) (lv) (.long (x &&& y) :: st) (σ)) : zz_E M sc d rc rz Q (pc) (lv) (.long y :: .long x :: st) (σ) := by
  intro p l e R s m args below meth c ad G cA A mc ms S H locs cells slots ls hc hz hl hS hP
  exact lv_land S.1 S.2.1 h (K p l e R s m args below meth c ad G cA A mc ms S H locs cells slots ls hc hz hl hS hP)
theorem zz_lor {x y : Int64} (h : decode M.2.1 pc = .ok (.lor, 1)) (K : zz_E M sc d rc rz Q (pc + 1) (lv) (.long (x ||| y) :: st) (σ)) : zz_E M sc d rc rz Q (pc) (lv) (.long y :: .long x :: st) (σ) := by
  intro p l e R s m args below meth c ad G cA A mc ms S H locs cells slots ls hc hz hl hS hP
  exact lv_lor S.1 S.2.1 h (K p l e R s m args below meth c ad G cA A mc ms S H locs cells slots ls hc hz hl hS hP)
theorem zz_lxor {x y : Int64} (h : decode M.2.1 pc = .ok (.lxor, 1)) (K : zz_E M sc d rc rz Q (pc + 1) (lv) (.long (x ^^^ y) :: st) (σ)) : zz_E M sc d rc rz Q (pc) (lv) (.long y :: .long x :: st) (σ) := by
  intro p l e R s m args below meth c ad G cA A mc ms S H locs cells slots ls hc hz hl hS hP
  exact lv_lxor S.1 S.2.1 h (K p l e R s m args below meth c ad G cA A mc ms S H locs cells slots ls hc hz hl hS hP)
theorem zz_iand {x y : Int32} (h : decode M.2.1 pc = .ok (.iand, 1)) (K : zz_E M sc d rc rz Q (pc + 1) (lv) (.int (x &&& y) :: st) (σ)) : zz_E M sc d rc rz Q (pc) (lv) (.int y :: .int x :: st) (σ) := by
  intro p l e R s m args below meth c ad G cA A mc ms S H locs cells slots ls hc hz hl hS hP
  exact lv_iand S.1 S.2.1 h (K p l e R s m args below meth c ad G cA A mc ms S H locs cells slots ls hc hz hl hS hP)
theorem zz_lneg {x : Int64} (h : decode M.2.1 pc = .ok (.lneg, 1)) (K : zz_E M sc d rc rz Q (pc + 1) (lv) (.long (-x) :: st) (σ)) : zz_E M sc d rc rz Q (pc) (lv) (.long x :: st) (σ) := by
  intro p l e R s m args below meth c ad G cA A mc ms S H locs cells slots ls hc hz hl hS hP
  exact lv_lneg S.1 S.2.1 h (K p l e R s m args below meth c ad G cA A mc ms S H locs cells slots ls hc hz hl hS hP)
theorem zz_irem {x y : Int32} (h : decode M.2.1 pc = .ok (.irem, 1)) (hy : ¬ y = 0) (K : zz_E M sc d rc rz Q (pc + 1) (lv) (.int (x - x / y * y) :: st) (σ)) : zz_E M sc d rc rz Q (pc) (lv) (.int y :: .int x :: st) (σ) := by
  intro p l e R s m args below meth c ad G cA A mc ms S H locs cells slots ls hc hz hl hS hP
  exact lv_irem S.1 S.2.1 h hy (K p l e R s m args below meth c ad G cA A mc ms S H locs cells slots ls hc hz hl hS hP)
theorem zz_iushr {x y v : Int32} (h : decode M.2.1 pc = .ok (.iushr, 1)) (hv : (x.toUInt32 >>> (y.toUInt32 &&& Int32.toUInt32 31)).toInt32 = v) (K : zz_E M sc d rc rz Q (pc + 1) (lv) (.int v :: st) (σ)) : zz_E M sc d rc rz Q (pc) (lv) (.int y :: .int x :: st) (σ) := by
  intro p l e R s m args below meth c ad G cA A mc ms S H locs cells slots ls hc hz hl hS hP
  exact lv_iushr S.1 S.2.1 h hv (K p l e R s m args below meth c ad G cA A mc ms S H locs cells slots ls hc hz hl hS hP)
theorem zz_lushr {x v : Int64} {y : Int32} (h : decode M.2.1 pc = .ok (.lushr, 1)) (hv : (x.toUInt64 >>> (y.toInt64.toUInt64 &&& Int64.toUInt64 63)).toInt64 = v) (K : zz_E M sc d rc rz Q (pc + 1) (lv) (.long v :: st) (σ)) : zz_E M sc d rc rz Q (pc) (lv) (.int y :: .long x :: st) (σ) := by
  intro p l e R s m args below meth c ad G cA A mc ms S H locs cells slots ls hc hz hl hS hP
  exact lv_lushr S.1 S.2.1 h hv (K p l e R s m args below meth c ad G cA A mc ms S H locs cells slots ls hc hz hl hS hP)
theorem zz_lshl {x v : Int64} {y : Int32} (h : decode M.2.1 pc = .ok (.lshl, 1)) (hv : x <<< (y.toInt64 &&& 63) = v) (K : zz_E M sc d rc rz Q (pc + 1) (lv) (.long v :: st) (σ)) : zz_E M sc d rc rz Q (pc) (lv) (.int y :: .long x :: st) (σ) := by
  intro p l e R s m args below meth c ad G cA A mc ms S H locs cells slots ls hc hz hl hS hP
  exact lv_lshl S.1 S.2.1 h hv (K p l e R s m args below meth c ad G cA A mc ms S H locs cells slots ls hc hz hl hS hP)
theorem zz_i2l {x : Int32} {v : Int64} (h : decode M.2.1 pc = .ok (.i2l, 1)) (hv : x.toInt64 = v) (K : zz_E M sc d rc rz Q (pc + 1) (lv) (.long v :: st) (σ)) : zz_E M sc d rc rz Q (pc) (lv) (.int x :: st) (σ) := by
  intro p l e R s m args below meth c ad G cA A mc ms S H locs cells slots ls hc hz hl hS hP
  exact lv_i2l S.1 S.2.1 h hv (K p l e R s m args below meth c ad G cA A mc ms S H locs cells slots ls hc hz hl hS hP)
theorem zz_i2f {x : Int32} (h : decode M.2.1 pc = .ok (.i2f, 1)) (K : zz_E M sc d rc rz Q (pc + 1) (lv) (.float (FP.i2f x) :: st) (σ)) : zz_E M sc d rc rz Q (pc) (lv) (.int x :: st) (σ) := by
  intro p l e R s m args below meth c ad G cA A mc ms S H locs cells slots ls hc hz hl hS hP
  exact lv_i2f S.1 S.2.1 h (K p l e R s m args below meth c ad G cA A mc ms S H locs cells slots ls hc hz hl hS hP)
theorem zz_i2d {x : Int32} (h : decode M.2.1 pc = .ok (.i2d, 1)) (K : zz_E M sc d rc rz Q (pc + 1) (lv) (.double (FP.i2d x) :: st) (σ)) : zz_E M sc d rc rz Q (pc) (lv) (.int x :: st) (σ) := by
  intro p l e R s m args below meth c ad G cA A mc ms S H locs cells slots ls hc hz hl hS hP
  exact lv_i2d S.1 S.2.1 h (K p l e R s m args below meth c ad G cA A mc ms S H locs cells slots ls hc hz hl hS hP)
theorem zz_f2d {x : UInt32} (h : decode M.2.1 pc = .ok (.f2d, 1)) (hv : vf_n64 (FP.f2d x)) (K : zz_E M sc d rc rz Q (pc + 1) (lv) (.double (FP.f2d x) :: st) (σ)) : zz_E M sc d rc rz Q (pc) (lv) (.float x :: st) (σ) := by
  intro p l e R s m args below meth c ad G cA A mc ms S H locs cells slots ls hc hz hl hS hP
  exact lv_f2d S.1 S.2.1 h hv (K p l e R s m args below meth c ad G cA A mc ms S H locs cells slots ls hc hz hl hS hP)
theorem zz_ddiv {x y : UInt64} (h : decode M.2.1 pc = .ok (.ddiv, 1)) (hv : vf_n64 (FP.ddiv x y)) (K : zz_E M sc d rc rz Q (pc + 1) (lv) (.double (FP.ddiv x y) :: st) (σ)) : zz_E M sc d rc rz Q (pc) (lv) (.double y :: .double x :: st) (σ) := by
  intro p l e R s m args below meth c ad G cA A mc ms S H locs cells slots ls hc hz hl hS hP
  exact lv_ddiv S.1 S.2.1 h hv (K p l e R s m args below meth c ad G cA A mc ms S H locs cells slots ls hc hz hl hS hP)
theorem zz_fdiv {x y : UInt32} (h : decode M.2.1 pc = .ok (.fdiv, 1)) (hv : vf_n32 (FP.fdiv x y)) (K : zz_E M sc d rc rz Q (pc + 1) (lv) (.float (FP.fdiv x y) :: st) (σ)) : zz_E M sc d rc rz Q (pc) (lv) (.float y :: .float x :: st) (σ) := by
  intro p l e R s m args below meth c ad G cA A mc ms S H locs cells slots ls hc hz hl hS hP
  exact lv_fdiv S.1 S.2.1 h hv (K p l e R s m args below meth c ad G cA A mc ms S H locs cells slots ls hc hz hl hS hP)
theorem zz_lcmp {x y : Int64} (h : decode M.2.1 pc = .ok (.lcmp, 1)) (K : zz_E M sc d rc rz Q (pc + 1) (lv) (.int (lg_cmp x y) :: st) (σ)) : zz_E M sc d rc rz Q (pc) (lv) (.long y :: .long x :: st) (σ) := by
  intro p l e R s m args below meth c ad G cA A mc ms S H locs cells slots ls hc hz hl hS hP
  exact W.lcmp S.1 S.2.1 h (K p l e R s m args below meth c ad G cA A mc ms S H locs cells slots ls hc hz hl hS hP)
theorem zz_dcmp {x y : UInt64} {op : CmpOp} (h : decode M.2.1 pc = .ok (.dcmp op, 1)) (K : zz_E M sc d rc rz Q (pc + 1) (lv) (.int (Op.cmpValue (FP.dcmp x y) op) :: st) (σ)) : zz_E M sc d rc rz Q (pc) (lv) (.double y :: .double x :: st) (σ) := by
  intro p l e R s m args below meth c ad G cA A mc ms S H locs cells slots ls hc hz hl hS hP
  exact lv_dcmp S.1 S.2.1 h (K p l e R s m args below meth c ad G cA A mc ms S H locs cells slots ls hc hz hl hS hP)
theorem zz_fcmp {x y : UInt32} {op : CmpOp} (h : decode M.2.1 pc = .ok (.fcmp op, 1)) (K : zz_E M sc d rc rz Q (pc + 1) (lv) (.int (Op.cmpValue (FP.fcmp x y) op) :: st) (σ)) : zz_E M sc d rc rz Q (pc) (lv) (.float y :: .float x :: st) (σ) := by
  intro p l e R s m args below meth c ad G cA A mc ms S H locs cells slots ls hc hz hl hS hP
  exact lv_fcmp S.1 S.2.1 h (K p l e R s m args below meth c ad G cA A mc ms S H locs cells slots ls hc hz hl hS hP)
theorem zz_dup {v : Value} (h : decode M.2.1 pc = .ok (.dup, 1)) (hv : v.category = 1) (K : zz_E M sc d rc rz Q (pc + 1) (lv) (v :: v :: st) (σ)) : zz_E M sc d rc rz Q (pc) (lv) (v :: st) (σ) := by
  intro p l e R s m args below meth c ad G cA A mc ms S H locs cells slots ls hc hz hl hS hP
  exact lv_dup S.1 S.2.1 h (by rw [zz_cat]; exact hv) (K p l e R s m args below meth c ad G cA A mc ms S H locs cells slots ls hc hz hl hS hP)
theorem zz_dconst0  (h : decode M.2.1 pc = .ok (.dconst 0, 1)) (K : zz_E M sc d rc rz Q (pc + 1) (lv) (.double FP.dconst0 :: st) (σ)) : zz_E M sc d rc rz Q (pc) (lv) (st) (σ) := by
  intro p l e R s m args below meth c ad G cA A mc ms S H locs cells slots ls hc hz hl hS hP
  exact lv_dconst0 S.1 S.2.1 h (K p l e R s m args below meth c ad G cA A mc ms S H locs cells slots ls hc hz hl hS hP)
theorem zz_fconst0  (h : decode M.2.1 pc = .ok (.fconst 0, 1)) (K : zz_E M sc d rc rz Q (pc + 1) (lv) (.float FP.fconst0 :: st) (σ)) : zz_E M sc d rc rz Q (pc) (lv) (st) (σ) := by
  intro p l e R s m args below meth c ad G cA A mc ms S H locs cells slots ls hc hz hl hS hP
  exact lv_fconst0 S.1 S.2.1 h (K p l e R s m args below meth c ad G cA A mc ms S H locs cells slots ls hc hz hl hS hP)
theorem zz_if_eq {x : Int32} {off : Int} {tgt : Nat} (h : decode M.2.1 pc = .ok (.ifCond .eq off, 3)) (ht : (pc : Int) + off = (tgt : Int)) (Kt : x = 0 → zz_E M sc d rc rz Q (tgt) (lv) (st) (σ)) (Kf : ¬ x = 0 → zz_E M sc d rc rz Q (pc + 3) (lv) (st) (σ)) : zz_E M sc d rc rz Q (pc) (lv) (.int x :: st) (σ) := by
  intro p l e R s m args below meth c ad G cA A mc ms S H locs cells slots ls hc hz hl hS hP
  exact lv_if_eq S.1 S.2.1 h ht (fun q => Kt q p l e R s m args below meth c ad G cA A mc ms S H locs cells slots ls hc hz hl hS hP) (fun q => Kf q p l e R s m args below meth c ad G cA A mc ms S H locs cells slots ls hc hz hl hS hP)
theorem zz_icmp_eq {x y : Int32} {off : Int} {tgt : Nat} (h : decode M.2.1 pc = .ok (.if_icmp .eq off, 3)) (ht : (pc : Int) + off = (tgt : Int)) (Kt : x = y → zz_E M sc d rc rz Q (tgt) (lv) (st) (σ)) (Kf : ¬ x = y → zz_E M sc d rc rz Q (pc + 3) (lv) (st) (σ)) : zz_E M sc d rc rz Q (pc) (lv) (.int y :: .int x :: st) (σ) := by
  intro p l e R s m args below meth c ad G cA A mc ms S H locs cells slots ls hc hz hl hS hP
  exact lv_icmp_eq S.1 S.2.1 h ht (fun q => Kt q p l e R s m args below meth c ad G cA A mc ms S H locs cells slots ls hc hz hl hS hP) (fun q => Kf q p l e R s m args below meth c ad G cA A mc ms S H locs cells slots ls hc hz hl hS hP)
theorem zz_if_ne {x : Int32} {off : Int} {tgt : Nat} (h : decode M.2.1 pc = .ok (.ifCond .ne off, 3)) (ht : (pc : Int) + off = (tgt : Int)) (Kt : ¬ x = 0 → zz_E M sc d rc rz Q (tgt) (lv) (st) (σ)) (Kf : x = 0 → zz_E M sc d rc rz Q (pc + 3) (lv) (st) (σ)) : zz_E M sc d rc rz Q (pc) (lv) (.int x :: st) (σ) := by
  intro p l e R s m args below meth c ad G cA A mc ms S H locs cells slots ls hc hz hl hS hP
  exact lv_if_ne S.1 S.2.1 h ht (fun q => Kt q p l e R s m args below meth c ad G cA A mc ms S H locs cells slots ls hc hz hl hS hP) (fun q => Kf q p l e R s m args below meth c ad G cA A mc ms S H locs cells slots ls hc hz hl hS hP)
theorem zz_icmp_ne {x y : Int32} {off : Int} {tgt : Nat} (h : decode M.2.1 pc = .ok (.if_icmp .ne off, 3)) (ht : (pc : Int) + off = (tgt : Int)) (Kt : ¬ x = y → zz_E M sc d rc rz Q (tgt) (lv) (st) (σ)) (Kf : x = y → zz_E M sc d rc rz Q (pc + 3) (lv) (st) (σ)) : zz_E M sc d rc rz Q (pc) (lv) (.int y :: .int x :: st) (σ) := by
  intro p l e R s m args below meth c ad G cA A mc ms S H locs cells slots ls hc hz hl hS hP
  exact lv_icmp_ne S.1 S.2.1 h ht (fun q => Kt q p l e R s m args below meth c ad G cA A mc ms S H locs cells slots ls hc hz hl hS hP) (fun q => Kf q p l e R s m args below meth c ad G cA A mc ms S H locs cells slots ls hc hz hl hS hP)
theorem zz_if_lt {x : Int32} {off : Int} {tgt : Nat} (h : decode M.2.1 pc = .ok (.ifCond .lt off, 3)) (ht : (pc : Int) + off = (tgt : Int)) (Kt : x < 0 → zz_E M sc d rc rz Q (tgt) (lv) (st) (σ)) (Kf : ¬ x < 0 → zz_E M sc d rc rz Q (pc + 3) (lv) (st) (σ)) : zz_E M sc d rc rz Q (pc) (lv) (.int x :: st) (σ) := by
  intro p l e R s m args below meth c ad G cA A mc ms S H locs cells slots ls hc hz hl hS hP
  exact lv_if_lt S.1 S.2.1 h ht (fun q => Kt q p l e R s m args below meth c ad G cA A mc ms S H locs cells slots ls hc hz hl hS hP) (fun q => Kf q p l e R s m args below meth c ad G cA A mc ms S H locs cells slots ls hc hz hl hS hP)
theorem zz_icmp_lt {x y : Int32} {off : Int} {tgt : Nat} (h : decode M.2.1 pc = .ok (.if_icmp .lt off, 3)) (ht : (pc : Int) + off = (tgt : Int)) (Kt : x < y → zz_E M sc d rc rz Q (tgt) (lv) (st) (σ)) (Kf : ¬ x < y → zz_E M sc d rc rz Q (pc + 3) (lv) (st) (σ)) : zz_E M sc d rc rz Q (pc) (lv) (.int y :: .int x :: st) (σ) := by
  intro p l e R s m args below meth c ad G cA A mc ms S H locs cells slots ls hc hz hl hS hP
  exact lv_icmp_lt S.1 S.2.1 h ht (fun q => Kt q p l e R s m args below meth c ad G cA A mc ms S H locs cells slots ls hc hz hl hS hP) (fun q => Kf q p l e R s m args below meth c ad G cA A mc ms S H locs cells slots ls hc hz hl hS hP)
theorem zz_if_gt {x : Int32} {off : Int} {tgt : Nat} (h : decode M.2.1 pc = .ok (.ifCond .gt off, 3)) (ht : (pc : Int) + off = (tgt : Int)) (Kt : 0 < x → zz_E M sc d rc rz Q (tgt) (lv) (st) (σ)) (Kf : ¬ 0 < x → zz_E M sc d rc rz Q (pc + 3) (lv) (st) (σ)) : zz_E M sc d rc rz Q (pc) (lv) (.int x :: st) (σ) := by
  intro p l e R s m args below meth c ad G cA A mc ms S H locs cells slots ls hc hz hl hS hP
  exact lv_if_gt S.1 S.2.1 h ht (fun q => Kt q p l e R s m args below meth c ad G cA A mc ms S H locs cells slots ls hc hz hl hS hP) (fun q => Kf q p l e R s m args below meth c ad G cA A mc ms S H locs cells slots ls hc hz hl hS hP)
theorem zz_icmp_gt {x y : Int32} {off : Int} {tgt : Nat} (h : decode M.2.1 pc = .ok (.if_icmp .gt off, 3)) (ht : (pc : Int) + off = (tgt : Int)) (Kt : y < x → zz_E M sc d rc rz Q (tgt) (lv) (st) (σ)) (Kf : ¬ y < x → zz_E M sc d rc rz Q (pc + 3) (lv) (st) (σ)) : zz_E M sc d rc rz Q (pc) (lv) (.int y :: .int x :: st) (σ) := by
  intro p l e R s m args below meth c ad G cA A mc ms S H locs cells slots ls hc hz hl hS hP
  exact lv_icmp_gt S.1 S.2.1 h ht (fun q => Kt q p l e R s m args below meth c ad G cA A mc ms S H locs cells slots ls hc hz hl hS hP) (fun q => Kf q p l e R s m args below meth c ad G cA A mc ms S H locs cells slots ls hc hz hl hS hP)
theorem zz_if_le {x : Int32} {off : Int} {tgt : Nat} (h : decode M.2.1 pc = .ok (.ifCond .le off, 3)) (ht : (pc : Int) + off = (tgt : Int)) (Kt : x ≤ 0 → zz_E M sc d rc rz Q (tgt) (lv) (st) (σ)) (Kf : ¬ x ≤ 0 → zz_E M sc d rc rz Q (pc + 3) (lv) (st) (σ)) : zz_E M sc d rc rz Q (pc) (lv) (.int x :: st) (σ) := by
  intro p l e R s m args below meth c ad G cA A mc ms S H locs cells slots ls hc hz hl hS hP
  exact lv_if_le S.1 S.2.1 h ht (fun q => Kt q p l e R s m args below meth c ad G cA A mc ms S H locs cells slots ls hc hz hl hS hP) (fun q => Kf q p l e R s m args below meth c ad G cA A mc ms S H locs cells slots ls hc hz hl hS hP)
theorem zz_icmp_le {x y : Int32} {off : Int} {tgt : Nat} (h : decode M.2.1 pc = .ok (.if_icmp .le off, 3)) (ht : (pc : Int) + off = (tgt : Int)) (Kt : x ≤ y → zz_E M sc d rc rz Q (tgt) (lv) (st) (σ)) (Kf : ¬ x ≤ y → zz_E M sc d rc rz Q (pc + 3) (lv) (st) (σ)) : zz_E M sc d rc rz Q (pc) (lv) (.int y :: .int x :: st) (σ) := by
  intro p l e R s m args below meth c ad G cA A mc ms S H locs cells slots ls hc hz hl hS hP
  exact lv_icmp_le S.1 S.2.1 h ht (fun q => Kt q p l e R s m args below meth c ad G cA A mc ms S H locs cells slots ls hc hz hl hS hP) (fun q => Kf q p l e R s m args below meth c ad G cA A mc ms S H locs cells slots ls hc hz hl hS hP)
theorem zz_if_ge {x : Int32} {off : Int} {tgt : Nat} (h : decode M.2.1 pc = .ok (.ifCond .ge off, 3)) (ht : (pc : Int) + off = (tgt : Int)) (Kt : 0 ≤ x → zz_E M sc d rc rz Q (tgt) (lv) (st) (σ)) (Kf : ¬ 0 ≤ x → zz_E M sc d rc rz Q (pc + 3) (lv) (st) (σ)) : zz_E M sc d rc rz Q (pc) (lv) (.int x :: st) (σ) := by
  intro p l e R s m args below meth c ad G cA A mc ms S H locs cells slots ls hc hz hl hS hP
  exact lv_if_ge S.1 S.2.1 h ht (fun q => Kt q p l e R s m args below meth c ad G cA A mc ms S H locs cells slots ls hc hz hl hS hP) (fun q => Kf q p l e R s m args below meth c ad G cA A mc ms S H locs cells slots ls hc hz hl hS hP)
theorem zz_icmp_ge {x y : Int32} {off : Int} {tgt : Nat} (h : decode M.2.1 pc = .ok (.if_icmp .ge off, 3)) (ht : (pc : Int) + off = (tgt : Int)) (Kt : y ≤ x → zz_E M sc d rc rz Q (tgt) (lv) (st) (σ)) (Kf : ¬ y ≤ x → zz_E M sc d rc rz Q (pc + 3) (lv) (st) (σ)) : zz_E M sc d rc rz Q (pc) (lv) (.int y :: .int x :: st) (σ) := by
  intro p l e R s m args below meth c ad G cA A mc ms S H locs cells slots ls hc hz hl hS hP
  exact lv_icmp_ge S.1 S.2.1 h ht (fun q => Kt q p l e R s m args below meth c ad G cA A mc ms S H locs cells slots ls hc hz hl hS hP) (fun q => Kf q p l e R s m args below meth c ad G cA A mc ms S H locs cells slots ls hc hz hl hS hP)
theorem zz_goto {off : Int} {tgt : Nat} (h : decode M.2.1 pc = .ok (.goto off, 3)) (ht : (pc : Int) + off = (tgt : Int)) (K : zz_E M sc d rc rz Q (tgt) (lv) (st) (σ)) : zz_E M sc d rc rz Q (pc) (lv) (st) (σ) := by
  intro p l e R s m args below meth c ad G cA A mc ms S H locs cells slots ls hc hz hl hS hP
  exact lv_goto S.1 S.2.1 h ht (K p l e R s m args below meth c ad G cA A mc ms S H locs cells slots ls hc hz hl hS hP)
theorem zz_ifnonnull {x : Nat} {off : Int} {tgt : Nat} (h : decode M.2.1 pc = .ok (.ifnonnull off, 3)) (ht : (pc : Int) + off = (tgt : Int)) (K : zz_E M sc d rc rz Q (tgt) (lv) (st) (σ)) : zz_E M sc d rc rz Q (pc) (lv) (.ref x :: st) (σ) := by
  intro p l e R s m args below meth c ad G cA A mc ms S H locs cells slots ls hc hz hl hS hP
  exact lv_ifnonnull S.1 S.2.1 h ht (K p l e R s m args below meth c ad G cA A mc ms S H locs cells slots ls hc hz hl hS hP)
theorem zz_tableIn {dflt lo hi : Int} {offs : Array Int} {len : Nat} {x : Int32} {off : Int} {tgt : Nat} (h : decode M.2.1 pc = .ok (.tableswitch dflt lo hi offs, len)) (h1 : ¬ x.toInt < lo) (h2 : ¬ hi < x.toInt) (ho : offs[(x.toInt - lo).toNat]? = some off) (ht : (pc : Int) + off = (tgt : Int)) (K : zz_E M sc d rc rz Q (tgt) (lv) (st) (σ)) : zz_E M sc d rc rz Q (pc) (lv) (.int x :: st) (σ) := by
  intro p l e R s m args below meth c ad G cA A mc ms S H locs cells slots ls hc hz hl hS hP
  exact lv_tableIn S.1 S.2.1 h h1 h2 ho ht (K p l e R s m args below meth c ad G cA A mc ms S H locs cells slots ls hc hz hl hS hP)
theorem zz_tableOut {dflt lo hi : Int} {offs : Array Int} {len : Nat} {x : Int32} {tgt : Nat} (h : decode M.2.1 pc = .ok (.tableswitch dflt lo hi offs, len)) (h1 : x.toInt < lo ∨ hi < x.toInt) (ht : (pc : Int) + dflt = (tgt : Int)) (K : zz_E M sc d rc rz Q (tgt) (lv) (st) (σ)) : zz_E M sc d rc rz Q (pc) (lv) (.int x :: st) (σ) := by
  intro p l e R s m args below meth c ad G cA A mc ms S H locs cells slots ls hc hz hl hS hP
  exact lv_tableOut S.1 S.2.1 h h1 ht (K p l e R s m args below meth c ad G cA A mc ms S H locs cells slots ls hc hz hl hS hP)
theorem zz_lookup {dflt : Int} {ps : Array (Int × Int)} {len : Nat} {x : Int32} {off : Int} {tgt : Nat} (h : decode M.2.1 pc = .ok (.lookupswitch dflt ps, len)) (hp : (ps.toList.zip (ps.toList.drop 1)).all (fun (a, next) => a.1 < next.1) = true) (ho : Op.lookupswitch.offset ps.toList dflt x.toInt = off) (ht : (pc : Int) + off = (tgt : Int)) (K : zz_E M sc d rc rz Q (tgt) (lv) (st) (σ)) : zz_E M sc d rc rz Q (pc) (lv) (.int x :: st) (σ) := by
  intro p l e R s m args below meth c ad G cA A mc ms S H locs cells slots ls hc hz hl hS hP
  exact lv_lookup S.1 S.2.1 h hp ho ht (K p l e R s m args below meth c ad G cA A mc ms S H locs cells slots ls hc hz hl hS hP)
theorem zz_get {C ref : String} {T : u_T} {N ci i q j : Nat} {fs : List Value} {v : Value} (hin : ∀ w ∈ u_ws C T N, w ∈ zz_g) (hc0 : vwCl[ci]? = some (C, T, N)) (hw : Cond.fieldLink M.2.2.2.2.1 i ref (T j).2.1 (T j).2.2.1 ∈ zz_g) (hsame : (T j).1 = ref) (hj : j < N) (h : decode M.2.1 pc = .ok (.getfield i, 3)) (hq : q < 68) (hs : σ q = .inr (ci, fs)) (hv : fs[j]? = some v) (K : zz_E M sc d rc rz Q (pc + 3) lv (v :: st) σ) : zz_E M sc d rc rz Q pc lv (.ref q :: st) σ := by
  intro p l e R s m args below meth c ad G cA A mc ms S H locs cells slots ls hc hz hl hS hP
  have he : (zz_W ad cA σ)[q]? = some (ad q, .inr (ci, fs.map (zz_V ad))) := by rw [zz_W_get hq, hs]; rfl
  exact va_get S.1 S.2.1 S.2.2.2.2.2.2.1 hin S.2.2.2.2.2.1 S.2.2.2.2.2.2.2.2.1 hP q he hc0 j hj (S.2.2.2.2.2.2.1 _ hw) (fun x hx => by rw [← hsame]; exact hx) (by rw [List.getElem?_map, hv]; rfl) h (K p l e R s m args below meth c ad G cA A mc ms S H locs cells slots ls hc hz hl hS hP)
theorem zz_put {C ref : String} {T : u_T} {N ci i q j : Nat} {fs : List Value} {v : Value} {ty : FieldType} (hin : ∀ w ∈ u_ws C T N, w ∈ zz_g) (ty0 : Nat → FieldType) (hty : ∀ k, k < N → parseFieldDescriptor (T k).2.2.1 = some (ty0 k)) (hnm : ∀ a, a < N → ∀ b, b < N → a ≠ b → (T a).2.1 ≠ (T b).2.1) (hc0 : vwCl[ci]? = some (C, T, N)) (hw : Cond.fieldLink M.2.2.2.2.1 i ref (T j).2.1 (T j).2.2.1 ∈ zz_g) (hsame : (T j).1 = ref) (hj : j < N) (hfin : (T j).2.2.2 = false) (hd : parseFieldDescriptor (T j).2.2.1 = some ty) (hn : ∀ ad, narrow ty (zz_V ad v) = zz_V ad v) (hfit : ∀ ad, fits ty (zz_V ad v) = true) (h : decode M.2.1 pc = .ok (.putfield i, 3)) (hq : q < 68) (hs : σ q = .inr (ci, fs)) (hlen : j < fs.length) (K : zz_E M sc d rc rz Q (pc + 3) lv st (va_up σ q (.inr (ci, fs.set j v)))) : zz_E M sc d rc rz Q pc lv (v :: .ref q :: st) σ := by
  intro p l e R s m args below meth c ad G cA A mc ms S H locs cells slots ls hc hz hl hS hP
  have he : (zz_W ad cA σ)[q]? = some (ad q, .inr (ci, fs.map (zz_V ad))) := by rw [zz_W_get hq, hs]; rfl
  refine va_put S.1 S.2.1 S.2.2.2.2.2.2.1 hin ty0 hty hnm S.2.2.2.2.2.1 S.2.2.2.2.2.2.2.2.1 hP (zz_D S.2.2.2.2.2.2.2.2.2.1 S.2.2.2.2.2.2.2.2.2.2.1) hS q he hc0 j hj (S.2.2.2.2.2.2.1 _ hw) (fun x hx => by rw [← hsame]; exact hx) hfin hd (hn ad) (hfit ad) (by simpa using hlen) h (fun H1 locs1 hP1 _ hS1 => ?_)
  have e1 : (zz_W ad cA σ).set q (ad q, .inr (ci, (fs.map (zz_V ad)).set j (zz_V ad v))) = zz_W ad cA (va_up σ q (.inr (ci, fs.set j v))) := by
    rw [← List.map_set]
    exact zz_W_set hq (.inr (ci, fs.set j v))
  rw [e1] at hP1
  exact K p l e R s m args below meth c ad G cA A mc ms S H1 locs1 cells slots ls hc hz hl hS1 hP1
theorem zz_iald {q n : Nat} {f : Nat → Int32} {i : Int32} (h : decode M.2.1 pc = .ok (.iaload, 1)) (hq : q < 68) (hs : σ q = .inl (0, n, .inl f)) (hin : vp_in i n) (K : zz_E M sc d rc rz Q (pc + 1) lv (.int (f i.toNatClampNeg) :: st) σ) : zz_E M sc d rc rz Q pc lv (.int i :: .ref q :: st) σ := by
  intro p l e R s m args below meth c ad G cA A mc ms S H locs cells slots ls hc hz hl hS hP
  have he : (zz_W ad cA σ)[q]? = some (ad q, .inl (cA 0, n, .inl f)) := by rw [zz_W_get hq, hs]; rfl
  exact va_iald S.1 S.2.1 S.2.2.2.2.2.2.2.2.1 hP q 0 he rfl hin h (K p l e R s m args below meth c ad G cA A mc ms S H locs cells slots ls hc hz hl hS hP)
theorem zz_lald {q n : Nat} {f : Nat → Int64} {i : Int32} (h : decode M.2.1 pc = .ok (.laload, 1)) (hq : q < 68) (hs : σ q = .inl (1, n, .inr (.inl f))) (hin : vp_in i n) (K : zz_E M sc d rc rz Q (pc + 1) lv (.long (f i.toNatClampNeg) :: st) σ) : zz_E M sc d rc rz Q pc lv (.int i :: .ref q :: st) σ := by
  intro p l e R s m args below meth c ad G cA A mc ms S H locs cells slots ls hc hz hl hS hP
  have he : (zz_W ad cA σ)[q]? = some (ad q, .inl (cA 1, n, .inr (.inl f))) := by rw [zz_W_get hq, hs]; rfl
  exact va_lald S.1 S.2.1 S.2.2.2.2.2.2.2.2.1 hP q 1 he rfl hin h (K p l e R s m args below meth c ad G cA A mc ms S H locs cells slots ls hc hz hl hS hP)
theorem zz_zald {q n : Nat} {f : Nat → Int32} {i : Int32} (h : decode M.2.1 pc = .ok (.baload, 1)) (hq : q < 68) (hs : σ q = .inl (2, n, .inl f)) (hin : vp_in i n) (K : zz_E M sc d rc rz Q (pc + 1) lv (.int (f i.toNatClampNeg) :: st) σ) : zz_E M sc d rc rz Q pc lv (.int i :: .ref q :: st) σ := by
  intro p l e R s m args below meth c ad G cA A mc ms S H locs cells slots ls hc hz hl hS hP
  have he : (zz_W ad cA σ)[q]? = some (ad q, .inl (cA 2, n, .inl f)) := by rw [zz_W_get hq, hs]; rfl
  exact va_zald S.1 S.2.1 S.2.2.2.2.2.2.2.2.1 hP q 2 he rfl hin h (K p l e R s m args below meth c ad G cA A mc ms S H locs cells slots ls hc hz hl hS hP)
theorem zz_dald {q n : Nat} {f : Nat → UInt64} {i : Int32} (h : decode M.2.1 pc = .ok (.daload, 1)) (hq : q < 68) (hs : σ q = .inl (4, n, .inr (.inr (.inr (.inl f))))) (hin : vp_in i n) (K : zz_E M sc d rc rz Q (pc + 1) lv (.double (f i.toNatClampNeg) :: st) σ) : zz_E M sc d rc rz Q pc lv (.int i :: .ref q :: st) σ := by
  intro p l e R s m args below meth c ad G cA A mc ms S H locs cells slots ls hc hz hl hS hP
  have he : (zz_W ad cA σ)[q]? = some (ad q, .inl (cA 4, n, .inr (.inr (.inr (.inl f))))) := by rw [zz_W_get hq, hs]; rfl
  exact va_dald S.1 S.2.1 S.2.2.2.2.2.2.2.2.1 hP q 4 he rfl hin h (K p l e R s m args below meth c ad G cA A mc ms S H locs cells slots ls hc hz hl hS hP)
theorem zz_iast {q n : Nat} {f : Nat → Int32} {i : Int32} {x : Int32} (h : decode M.2.1 pc = .ok (.iastore, 1)) (hq : q < 68) (hs : σ q = .inl (0, n, .inl (f))) (hin : vp_in i n) (K : zz_E M sc d rc rz Q (pc + 1) lv st (va_up σ q (.inl (0, n, .inl (va_up f i.toNatClampNeg x))))) : zz_E M sc d rc rz Q pc lv (.int x :: .int i :: .ref q :: st) σ := by
  intro p l e R s m args below meth c ad G cA A mc ms S H locs cells slots ls hc hz hl hS hP
  have he : (zz_W ad cA σ)[q]? = some (ad q, .inl (cA 0, n, .inl (f))) := by rw [zz_W_get hq, hs]; rfl
  refine va_iast S.1 S.2.1 S.2.2.2.2.2.2.2.2.1 hP (zz_D S.2.2.2.2.2.2.2.2.2.1 S.2.2.2.2.2.2.2.2.2.2.1) hS q 0 he rfl hin h (fun H1 locs1 hP1 _ hS1 => ?_)
  have e1 : (zz_W ad cA σ).set q (ad q, .inl (cA 0, n, .inl (va_up f i.toNatClampNeg x))) = zz_W ad cA (va_up σ q (.inl (0, n, .inl (va_up f i.toNatClampNeg x)))) := zz_W_set hq (.inl (0, n, .inl (va_up f i.toNatClampNeg x)))
  exact K p l e R s m args below meth c ad G cA A mc ms S H1 locs1 cells slots ls hc hz hl hS1 (by rw [← e1]; exact hP1)
theorem zz_last {q n : Nat} {f : Nat → Int64} {i : Int32} {x : Int64} (h : decode M.2.1 pc = .ok (.lastore, 1)) (hq : q < 68) (hs : σ q = .inl (1, n, .inr (.inl (f)))) (hin : vp_in i n) (K : zz_E M sc d rc rz Q (pc + 1) lv st (va_up σ q (.inl (1, n, .inr (.inl (va_up f i.toNatClampNeg x)))))) : zz_E M sc d rc rz Q pc lv (.long x :: .int i :: .ref q :: st) σ := by
  intro p l e R s m args below meth c ad G cA A mc ms S H locs cells slots ls hc hz hl hS hP
  have he : (zz_W ad cA σ)[q]? = some (ad q, .inl (cA 1, n, .inr (.inl (f)))) := by rw [zz_W_get hq, hs]; rfl
  refine va_last S.1 S.2.1 S.2.2.2.2.2.2.2.2.1 hP (zz_D S.2.2.2.2.2.2.2.2.2.1 S.2.2.2.2.2.2.2.2.2.2.1) hS q 1 he rfl hin h (fun H1 locs1 hP1 _ hS1 => ?_)
  have e1 : (zz_W ad cA σ).set q (ad q, .inl (cA 1, n, .inr (.inl (va_up f i.toNatClampNeg x)))) = zz_W ad cA (va_up σ q (.inl (1, n, .inr (.inl (va_up f i.toNatClampNeg x))))) := zz_W_set hq (.inl (1, n, .inr (.inl (va_up f i.toNatClampNeg x))))
  exact K p l e R s m args below meth c ad G cA A mc ms S H1 locs1 cells slots ls hc hz hl hS1 (by rw [← e1]; exact hP1)
theorem zz_zast {q n : Nat} {f : Nat → Int32} {i : Int32} {x : Int32} (h : decode M.2.1 pc = .ok (.bastore, 1)) (hq : q < 68) (hs : σ q = .inl (2, n, .inl (f))) (hin : vp_in i n) (K : zz_E M sc d rc rz Q (pc + 1) lv st (va_up σ q (.inl (2, n, .inl (va_up f i.toNatClampNeg (vp_nar .boolean x)))))) : zz_E M sc d rc rz Q pc lv (.int x :: .int i :: .ref q :: st) σ := by
  intro p l e R s m args below meth c ad G cA A mc ms S H locs cells slots ls hc hz hl hS hP
  have he : (zz_W ad cA σ)[q]? = some (ad q, .inl (cA 2, n, .inl (f))) := by rw [zz_W_get hq, hs]; rfl
  refine va_zast S.1 S.2.1 S.2.2.2.2.2.2.2.2.1 hP (zz_D S.2.2.2.2.2.2.2.2.2.1 S.2.2.2.2.2.2.2.2.2.2.1) hS q 2 he rfl hin h (fun H1 locs1 hP1 _ hS1 => ?_)
  have e1 : (zz_W ad cA σ).set q (ad q, .inl (cA 2, n, .inl (va_up f i.toNatClampNeg (vp_nar .boolean x)))) = zz_W ad cA (va_up σ q (.inl (2, n, .inl (va_up f i.toNatClampNeg (vp_nar .boolean x))))) := zz_W_set hq (.inl (2, n, .inl (va_up f i.toNatClampNeg (vp_nar .boolean x))))
  exact K p l e R s m args below meth c ad G cA A mc ms S H1 locs1 cells slots ls hc hz hl hS1 (by rw [← e1]; exact hP1)
theorem zz_dast {q n : Nat} {f : Nat → UInt64} {i : Int32} {x : UInt64} (h : decode M.2.1 pc = .ok (.dastore, 1)) (hq : q < 68) (hs : σ q = .inl (4, n, .inr (.inr (.inr (.inl (f)))))) (hin : vp_in i n) (K : zz_E M sc d rc rz Q (pc + 1) lv st (va_up σ q (.inl (4, n, .inr (.inr (.inr (.inl (va_up f i.toNatClampNeg x)))))))) : zz_E M sc d rc rz Q pc lv (.double x :: .int i :: .ref q :: st) σ := by
  intro p l e R s m args below meth c ad G cA A mc ms S H locs cells slots ls hc hz hl hS hP
  have he : (zz_W ad cA σ)[q]? = some (ad q, .inl (cA 4, n, .inr (.inr (.inr (.inl (f)))))) := by rw [zz_W_get hq, hs]; rfl
  refine va_dast S.1 S.2.1 S.2.2.2.2.2.2.2.2.1 hP (zz_D S.2.2.2.2.2.2.2.2.2.1 S.2.2.2.2.2.2.2.2.2.2.1) hS q 4 he rfl hin h (fun H1 locs1 hP1 _ hS1 => ?_)
  have e1 : (zz_W ad cA σ).set q (ad q, .inl (cA 4, n, .inr (.inr (.inr (.inl (va_up f i.toNatClampNeg x)))))) = zz_W ad cA (va_up σ q (.inl (4, n, .inr (.inr (.inr (.inl (va_up f i.toNatClampNeg x))))))) := zz_W_set hq (.inl (4, n, .inr (.inr (.inr (.inl (va_up f i.toNatClampNeg x))))))
  exact K p l e R s m args below meth c ad G cA A mc ms S H1 locs1 cells slots ls hc hz hl hS1 (by rw [← e1]; exact hP1)
theorem zz_aald {q n : Nat} {f : Nat → Option Nat} {i : Int32} {y : Nat} (h : decode M.2.1 pc = .ok (.aaload, 1)) (hq : q < 68) (hs : σ q = .inl (3, n, .inr (.inr (.inr (.inr f))))) (hin : vp_in i n) (hy : f i.toNatClampNeg = some y) (K : zz_E M sc d rc rz Q (pc + 1) lv (.ref y :: st) σ) : zz_E M sc d rc rz Q pc lv (.int i :: .ref q :: st) σ := by
  intro p l e R s m args below meth c ad G cA A mc ms S H locs cells slots ls hc hz hl hS hP
  have he : (zz_W ad cA σ)[q]? = some (ad q, .inl (cA 3, n, .inr (.inr (.inr (.inr (fun i => (f i).map ad)))))) := by rw [zz_W_get hq, hs]; rfl
  refine va_aldq S.1 S.2.1 S.2.2.2.2.2.2.2.2.1 hP q 3 he rfl hin h ?_
  have e1 : va_rf ((f i.toNatClampNeg).map ad) = .ref (ad y) := by rw [hy]; rfl
  rw [e1]
  exact K p l e R s m args below meth c ad G cA A mc ms S H locs cells slots ls hc hz hl hS hP
theorem zz_alen0 {q n : Nat} {f : Nat → Int32} {v : Int32} (h : decode M.2.1 pc = .ok (.arraylength, 1)) (hq : q < 68) (hs : σ q = .inl (0, n, .inl f)) (hv : Int32.ofNat n = v) (K : zz_E M sc d rc rz Q (pc + 1) lv (.int v :: st) σ) : zz_E M sc d rc rz Q pc lv (.ref q :: st) σ := by
  intro p l e R s m args below meth c ad G cA A mc ms S H locs cells slots ls hc hz hl hS hP
  have he : (zz_W ad cA σ)[q]? = some (ad q, .inl (cA 0, n, .inl f)) := by rw [zz_W_get hq, hs]; rfl
  exact va_alen S.1 S.2.1 S.2.2.2.2.2.2.2.2.1 hP q 0 he (ty := .int) rfl hv h (K p l e R s m args below meth c ad G cA A mc ms S H locs cells slots ls hc hz hl hS hP)
theorem zz_alen1 {q n : Nat} {f : Nat → Int64} {v : Int32} (h : decode M.2.1 pc = .ok (.arraylength, 1)) (hq : q < 68) (hs : σ q = .inl (1, n, .inr (.inl f))) (hv : Int32.ofNat n = v) (K : zz_E M sc d rc rz Q (pc + 1) lv (.int v :: st) σ) : zz_E M sc d rc rz Q pc lv (.ref q :: st) σ := by
  intro p l e R s m args below meth c ad G cA A mc ms S H locs cells slots ls hc hz hl hS hP
  have he : (zz_W ad cA σ)[q]? = some (ad q, .inl (cA 1, n, .inr (.inl f))) := by rw [zz_W_get hq, hs]; rfl
  exact va_alen S.1 S.2.1 S.2.2.2.2.2.2.2.2.1 hP q 1 he (ty := .long) rfl hv h (K p l e R s m args below meth c ad G cA A mc ms S H locs cells slots ls hc hz hl hS hP)
theorem zz_alen3 {q n : Nat} {f : Nat → Option Nat} {v : Int32} (h : decode M.2.1 pc = .ok (.arraylength, 1)) (hq : q < 68) (hs : σ q = .inl (3, n, .inr (.inr (.inr (.inr f))))) (hv : Int32.ofNat n = v) (K : zz_E M sc d rc rz Q (pc + 1) lv (.int v :: st) σ) : zz_E M sc d rc rz Q pc lv (.ref q :: st) σ := by
  intro p l e R s m args below meth c ad G cA A mc ms S H locs cells slots ls hc hz hl hS hP
  have he : (zz_W ad cA σ)[q]? = some (ad q, .inl (cA 3, n, .inr (.inr (.inr (.inr (fun i => (f i).map ad)))))) := by rw [zz_W_get hq, hs]; rfl
  exact va_alen S.1 S.2.1 S.2.2.2.2.2.2.2.2.1 hP q 3 he (ty := .object RX1) rfl hv h (K p l e R s m args below meth c ad G cA A mc ms S H locs cells slots ls hc hz hl hS hP)
theorem zz_slen {L : Nat} {xs : Nat → Int32} (h : decode M.2.1 pc = .ok (.arraylength, 1)) (K : zz_E M (some (L, xs)) d rc rz Q (pc + 1) lv (.int (Int32.ofNat L) :: st) σ) : zz_E M (some (L, xs)) d rc rz Q pc lv (.ref 68 :: st) σ := by
  intro p l e R s m args below meth c ad G cA A mc ms S H locs cells slots ls hc hz hl hS hP
  have hsc : zz_Sc (some (L, xs)) ad A s := S.2.2.2.2.2.2.2.2.2.2.2.2.2.2.2.2.2.2
  exact va_slen S.1 S.2.1 hsc.1 hsc.2.1 hsc.2.2 hS h (K p l e R s m args below meth c ad G cA A mc ms S H locs cells slots ls hc hz hl hS hP)
theorem zz_sld {L : Nat} {xs : Nat → Int32} {i : Int32} (h : decode M.2.1 pc = .ok (.iaload, 1)) (hin : vp_in i L) (K : zz_E M (some (L, xs)) d rc rz Q (pc + 1) lv (.int (xs i.toNatClampNeg) :: st) σ) : zz_E M (some (L, xs)) d rc rz Q pc lv (.int i :: .ref 68 :: st) σ := by
  intro p l e R s m args below meth c ad G cA A mc ms S H locs cells slots ls hc hz hl hS hP
  have hsc : zz_Sc (some (L, xs)) ad A s := S.2.2.2.2.2.2.2.2.2.2.2.2.2.2.2.2.2.2
  exact va_sld S.1 S.2.1 hsc.1 hsc.2.1 hsc.2.2 hS hin h (K p l e R s m args below meth c ad G cA A mc ms S H locs cells slots ls hc hz hl hS hP)
end ZZB
end
section
section ZZC
variable {M : zz_M} {sc : Option (Nat × (Nat → Int32))} {d rc rz : Nat} {Q : zz_Q} {pc : Nat} {lv : List (Nat × Value)} {st : List Value} {σ : zz_St}
theorem zz_sub {A : Nat → Prop} {ad : Nat → Nat} {s : State} {H : Heap} {locs : List Loc} (h1 : ∀ k, k < 68 → A (ad k)) (h2 : ∀ q, s.heap.size ≤ q → A q) (hS : va_S A s.heap H locs) : ∀ q, zz_A ad H.size q → A q := by
  rintro q (⟨k, hk, rfl⟩ | h)
  · exact h1 k hk
  · exact h2 q (Nat.le_trans hS.1 h)
/-- fewer claims of the end -/
theorem zz_mono {Q1 : zz_Q} (h : ∀ o τ, Q1 o τ → Q o τ) (K : zz_E M sc d rc rz Q1 pc lv st σ) : zz_E M sc d rc rz Q pc lv st σ := by
  intro p l e R s m args below meth c ad G cA A mc ms S H locs cells slots ls hc hz hl hS hP T hT X
  obtain ⟨t, a1, o, b1, b2, b3⟩ := K p l e R s m args below meth c ad G cA A mc ms S H locs cells slots ls hc hz hl hS hP T hT X
  refine ⟨t, a1, o, b1, b2, ?_⟩
  rcases b3 with ⟨⟨⟨v, τ, c1, c2, c3⟩, c4⟩, c5⟩ | ⟨q, c1, E, ce, L, ⟨⟨τ, c2, c3⟩, c4⟩, c5⟩
  · exact Or.inl ⟨⟨⟨v, τ, c1, h _ _ c2, c3⟩, c4⟩, c5⟩
  · exact Or.inr ⟨q, c1, E, ce, L, ⟨⟨τ, h _ _ c2, c3⟩, c4⟩, c5⟩
theorem zz_less {rc1 rz1 : Nat} (h1 : rc1 ≤ rc) (h2 : rz1 ≤ rz) (K : zz_E M sc d rc1 rz1 Q pc lv st σ) : zz_E M sc d rc rz Q pc lv st σ := by
  intro p l e R s m args below meth c ad G cA A mc ms S H locs cells slots ls hc hz hl hS hP
  exact K p l e R s m args below meth c ad G cA A mc ms S H locs cells slots ls (by omega) (by omega) hl hS hP
/-! ends -/
theorem zz_iret {x : Int32} (h : decode M.2.1 pc = .ok (.ireturn, 1)) (hr : M.2.2.2.1 = some .int) (hQ : Q (.inl (some (.int x))) σ) : zz_E M sc d rc rz Q pc lv [.int x] σ := by
  intro p l e R s m args below meth c ad G cA A mc ms S H locs cells slots ls hc hz hl hS hP
  refine vx_ret (W.widen (k := mc) (n := ms) (by omega) (by omega) ?_)
  exact W.iret S.1 S.2.1 (S.2.2.2.1.trans hr) (fun t ht hW => ⟨⟨some (.int x), σ, rfl, hQ, by rw [ht]; exact hP⟩, hS.F ht⟩) (fun q hq => hS.2.2 q hq) h S.2.2.2.2.1
theorem zz_zret {x : Int32} (h : decode M.2.1 pc = .ok (.ireturn, 1)) (hr : M.2.2.2.1 = some .boolean) (hn : narrow .boolean (.int x) = .int x) (hQ : Q (.inl (some (.int x))) σ) : zz_E M sc d rc rz Q pc lv [.int x] σ := by
  intro p l e R s m args below meth c ad G cA A mc ms S H locs cells slots ls hc hz hl hS hP
  refine vx_ret (W.widen (k := mc) (n := ms) (by omega) (by omega) ?_)
  exact W.zret S.1 S.2.1 (S.2.2.2.1.trans hr) hn (fun t ht hW => ⟨⟨some (.int x), σ, rfl, hQ, by rw [ht]; exact hP⟩, hS.F ht⟩) (fun q hq => hS.2.2 q hq) h S.2.2.2.2.1
theorem zz_lret {x : Int64} (h : decode M.2.1 pc = .ok (.lreturn, 1)) (hr : M.2.2.2.1 = some .long) (hQ : Q (.inl (some (.long x))) σ) : zz_E M sc d rc rz Q pc lv [.long x] σ := by
  intro p l e R s m args below meth c ad G cA A mc ms S H locs cells slots ls hc hz hl hS hP
  refine vx_ret (W.widen (k := mc) (n := ms) (by omega) (by omega) ?_)
  exact W.lret S.1 S.2.1 (S.2.2.2.1.trans hr) (fun t ht hW => ⟨⟨some (.long x), σ, rfl, hQ, by rw [ht]; exact hP⟩, hS.F ht⟩) (fun q hq => hS.2.2 q hq) h S.2.2.2.2.1
theorem zz_fret {x : UInt32} (h : decode M.2.1 pc = .ok (.freturn, 1)) (hr : M.2.2.2.1 = some .float) (hQ : Q (.inl (some (.float x))) σ) : zz_E M sc d rc rz Q pc lv [.float x] σ := by
  intro p l e R s m args below meth c ad G cA A mc ms S H locs cells slots ls hc hz hl hS hP
  refine vx_ret (W.widen (k := mc) (n := ms) (by omega) (by omega) ?_)
  exact W.fret S.1 S.2.1 (S.2.2.2.1.trans hr) (fun t ht hW => ⟨⟨some (.float x), σ, rfl, hQ, by rw [ht]; exact hP⟩, hS.F ht⟩) (fun q hq => hS.2.2 q hq) h S.2.2.2.2.1
theorem zz_dret {x : UInt64} (h : decode M.2.1 pc = .ok (.dreturn, 1)) (hr : M.2.2.2.1 = some .double) (hQ : Q (.inl (some (.double x))) σ) : zz_E M sc d rc rz Q pc lv [.double x] σ := by
  intro p l e R s m args below meth c ad G cA A mc ms S H locs cells slots ls hc hz hl hS hP
  refine vx_ret (W.widen (k := mc) (n := ms) (by omega) (by omega) ?_)
  exact W.dret S.1 S.2.1 (S.2.2.2.1.trans hr) (fun t ht hW => ⟨⟨some (.double x), σ, rfl, hQ, by rw [ht]; exact hP⟩, hS.F ht⟩) (fun q hq => hS.2.2 q hq) h S.2.2.2.2.1
theorem zz_aret {x : Nat} {nm : String} (h : decode M.2.1 pc = .ok (.areturn, 1)) (hr : M.2.2.2.1 = some (.object nm)) (hQ : Q (.inl (some (.ref x))) σ) : zz_E M sc d rc rz Q pc lv [.ref x] σ := by
  intro p l e R s m args below meth c ad G cA A mc ms S H locs cells slots ls hc hz hl hS hP
  refine vx_ret (W.widen (k := mc) (n := ms) (by omega) (by omega) ?_)
  exact W.aret S.1 S.2.1 (S.2.2.2.1.trans hr) (Or.inl ⟨nm, rfl⟩) (Or.inr ⟨ad x, rfl⟩) (fun t ht hW => ⟨⟨some (.ref x), σ, rfl, hQ, by rw [ht]; exact hP⟩, hS.F ht⟩) (fun q hq => hS.2.2 q hq) h S.2.2.2.2.1
theorem zz_vret (h : decode M.2.1 pc = .ok (.return_, 1)) (hr : M.2.2.2.1 = none) (hQ : Q (.inl none) σ) : zz_E M sc d rc rz Q pc lv [] σ := by
  intro p l e R s m args below meth c ad G cA A mc ms S H locs cells slots ls hc hz hl hS hP
  refine vx_ret (W.widen (k := mc) (n := ms) (by omega) (by omega) ?_)
  exact W.vret S.1 S.2.1 (S.2.2.2.1.trans hr) (fun t ht hW => ⟨⟨none, σ, rfl, hQ, by rw [ht]; exact hP⟩, hS.F ht⟩) (fun q hq => hS.2.2 q hq) h S.2.2.2.2.1
/-! a method's contract out of its body -/
theorem zz_preA {ad : Nat → Nat} {G : va_G} {cA : Nat → ClassId} {sz : Nat} {τ : zz_St} {U : State} (g : JFrame) (mk : MethodId) (a : Array Value) (h : zz_pre ad G cA sz τ U) : zz_pre ad G cA sz τ (U.calling g mk a) :=
  ⟨h.1, h.2.1, va_K.moved (u := U) (U := U.calling g mk a) (Vm.Alike.refl U.vm) h.2.2.1, h.2.2.2.1, zz_Z_call g mk a h.2.2.2.2⟩
theorem zz_start {mc ms : Nat} {as : List Value} (hy : plainName M.1.cls = true) (hown : M.2.2.2.2.1 = M.1.cls) (hh : M.2.2.2.2.2 = []) (hn : (lg_sl as).length ≤ M.2.2.1) (K : zz_E M none d mc ms Q 0 (lv_args 0 as) [] σ) : zz_C M d mc ms as σ Q := by
  intro l hfl ad G cA sz
  refine vx_ofW (cc := M.2.1) (maxL := M.2.2.1) (ret := M.2.2.2.1) (ws' := zz_g) hy (by unfold zz_ws; rw [hh]) ?_
  intro p e s m args below meth c s₁ B hml hexc hv
  obtain ⟨rfl, hsz, hP, hK, hinj, hZ⟩ := hv
  have hts := atoms_spec (ws := zz_ws M) B.pre
  have hl := lv_entry (as.map (zz_V ad)) (n := M.2.2.1) (by rw [zz_sl]; exact hn)
  rw [lg_entry_eq]
  rw [zz_args] at hl
  subst hsz
  have hA : ∀ q : Nat, s.heap.size ≤ q → zz_A ad s.heap.size q := fun q h => Or.inr h
  refine K p l e _ s m _ below meth c ad G cA (zz_A ad s.heap.size) mc ms ⟨B.exec, B.bytes, hml, B.returns, B.notSynchronized, ?_, ?_, ?_, hK, hinj, fun k hk => Or.inl ⟨k, hk, rfl⟩, hA, hZ, hfl, Nat.le_refl _, Nat.le_refl _, Nat.le_refl _, Nat.le_refl _, trivial⟩ s.heap [] 0 0 _ (by omega) (by omega) hl va_S.rf hP
  · rw [hown]; exact findClass_of_methodNamed B.named
  · exact fun w hw => hts w (List.mem_cons_of_mem _ hw)
  · rw [hh]
    exact List.eq_nil_iff_forall_not_mem.mpr (fun x hx => hexc x hx)
/-! calls -/
theorem zz_goodV {Y : zz_M} {own C : String} {i : Nat} (hh : Y.2.2.2.2.2 = []) (h1 : Cond.methodLink own i Y.1 ∈ zz_g) (h2 : Cond.instanceMethod Y.1 ∈ zz_g) (h3 : Cond.selects C Y.1 Y.1 ∈ zz_g) (h4 : Cond.initialized C ∈ zz_g) (h5 : Cond.code Y.1 Y.2.1 Y.2.2.1 Y.2.2.2.1 ∈ zz_g) : GoodIn zz_g (wsV own i C Y.1 (zz_ws Y)) := by
  have hall : ∀ w ∈ wsV own i C Y.1 (zz_ws Y), w ∈ zz_g := by
    intro w hw
    unfold wsV zz_ws at hw
    rw [hh] at hw
    simp only [List.mem_append, List.mem_cons, List.not_mem_nil, or_false] at hw
    rcases hw with (rfl | rfl | rfl | rfl) | rfl | hw
    · exact h1
    · exact h2
    · exact h3
    · exact h4
    · exact h5
    · exact hw
  exact fun w hw => ⟨hall w hw, good_of_word (zz_g_good w (hall w hw))⟩
theorem zz_goodS {Y : zz_M} {own : String} {i : Nat} (hh : Y.2.2.2.2.2 = []) (h1 : Cond.methodLink own i Y.1 ∈ zz_g) (h2 : Cond.static Y.1 ∈ zz_g) (h4 : Cond.initialized Y.1.cls ∈ zz_g) (h5 : Cond.code Y.1 Y.2.1 Y.2.2.1 Y.2.2.2.1 ∈ zz_g) : GoodIn zz_g (va_wsS own i Y.1 (zz_ws Y)) := by
  have hall : ∀ w ∈ va_wsS own i Y.1 (zz_ws Y), w ∈ zz_g := by
    intro w hw
    unfold va_wsS zz_ws at hw
    rw [hh] at hw
    simp only [List.mem_append, List.mem_cons, List.not_mem_nil, or_false] at hw
    rcases hw with (rfl | rfl | rfl) | rfl | hw
    · exact h1
    · exact h2
    · exact h4
    · exact h5
    · exact hw
  exact fun w hw => ⟨hall w hw, good_of_word (zz_g_good w (hall w hw))⟩
/-- what a call's run gives, gone on with -/
theorem zz_after {mc2 ms2 : Nat} {Q2 : zz_Q} {rest : List Value} (h1 : mc2 ≤ rc) (h2 : ms2 ≤ rz) (hnt : M.2.2.2.2.2 = [])
    (K : ∀ v τ, Q2 (.inl v) τ → zz_E M sc d (rc - mc2) (rz - ms2) Q (pc + 3) lv (v.toList ++ rest) τ) (KX : ∀ E τ, Q2 (.inr E) τ → Q (.inr E) τ)
    {p : Program} {l : Launch} {e : Env} {R : Room} {s : State} {m : MethodId} {args : Array Value} {below : List Frame} {meth : Method} {c : Code} {ad : Nat → Nat} {G : va_G} {cA : Nat → ClassId} {A : Nat → Prop} {mc ms : Nat} (S : zz_S M sc d p l R s m args meth c ad G cA A mc ms)
    {H : Heap} {locs : List Loc} {cells slots : Nat} {ls : Array Slot} {av : Array Value} (hc : cells + rc ≤ mc) (hz : slots + rz ≤ ms) (hl : lv_has ls M.2.2.1 (zz_LV ad lv)) (hS : va_S A s.heap H locs)
    {st0 : List Value}
    (hrun : vx_Run p l e R s m args below meth c H locs cells slots mc2 ms2 (F0 m pc ls st0) (rest.map (zz_V ad)) (zz_Qc G cA ad (zz_A ad H.size) Q2 av) (zz_Xc G cA ad (zz_A ad H.size) Q2) (zz_A ad H.size)) :
    W p l e R s m args below meth c H locs cells slots (vx_MQ below (zz_Qc G cA ad A Q) (zz_Xc G cA ad A Q) args s mc ms A) (F0 m pc ls st0) := by
  have hAad := S.2.2.2.2.2.2.2.2.2.2.1
  have hA := S.2.2.2.2.2.2.2.2.2.2.2.1
  have hsub := zz_sub hAad hA hS
  intro T hT X
  rcases hrun T hT X with ⟨v, st₀, t, T', L, h0, X', hL, e1, e2, ⟨⟨v2, τ, hv, hQ, hP2⟩, hF⟩, hgo⟩ | ⟨q, st₀, t, T', L, E, ce, h0, X', hL, e1, e2, ⟨⟨τ, hQ, hP2⟩, hF⟩, hce, hcv, hcl, hgo⟩
  · obtain ⟨k1, k2, k3⟩ := vx_keep h0 e1 hS (fun q _ h => hsub q h) hsub hL hF
    cases hv
    have hk := K v2 τ hQ p l e R s m args below meth c ad G cA A mc ms S T'.heap (locs ++ L) (cells + mc2) (slots + ms2) ls (by omega) (by omega) hl k3 (by rw [e1]; exact hP2) T' rfl X'
    obtain ⟨t2, a1, b1⟩ := hk
    refine ⟨t2, hgo t2 ?_, b1⟩
    have e3 : (zz_Vo ad v2).toList ++ rest.map (zz_V ad) = (v2.toList ++ rest).map (zz_V ad) := by
      cases v2 <;> rfl
    rw [e3]
    exact a1
  · obtain ⟨k1, k2, k3⟩ := vx_keep h0 e1 hS (fun q _ h => hsub q h) hsub hL hF
    have hno : ∀ x ∈ c.exceptionTable.toList, covers x pc = false := by
      rw [S.2.2.2.2.2.2.2.1, hnt]
      intro x hx
      cases hx
    have hx : vx_W p l e R s m args below meth c T'.heap (locs ++ L) (cells + mc2) (slots + ms2) (vx_MQ below (zz_Qc G cA ad A Q) (zz_Xc G cA ad A Q) args s mc ms A) (F0 m pc ls (rest.map (zz_V ad))) q :=
      vx_out hno S.2.2.2.2.1 (by rw [e1]; exact hce) hcv hcl (fun t3 ht3 _ => ⟨⟨τ, KX E τ hQ, by rw [ht3, e1]; exact hP2⟩, k3.F ht3⟩) (fun z hz => k3.2.2 z hz) (by omega) (by omega)
    obtain ⟨t2, a1, b1⟩ := hx T' rfl X'
    exact ⟨t2, hgo.trans a1, b1⟩
theorem zz_callV {Y : zz_M} {d2 mc2 ms2 : Nat} {as rest fs : List Value} {Q2 : zz_Q} {q ci i : Nat} {T : u_T} {N : Nat} (hC : zz_C Y d2 mc2 ms2 (.ref q :: as) σ Q2)
    (h : decode M.2.1 pc = .ok (.invokevirtual i, 3)) (hw : Cond.methodLink M.2.2.2.2.1 i Y.1 ∈ zz_g)
    (hY : Y.2.2.2.2.2 = [] ∧ Y.2.2.1 ≤ 17 ∧ Cond.instanceMethod Y.1 ∈ zz_g ∧ Cond.selects Y.1.cls Y.1 Y.1 ∈ zz_g ∧ Cond.initialized Y.1.cls ∈ zz_g ∧ Cond.code Y.1 Y.2.1 Y.2.2.1 Y.2.2.2.1 ∈ zz_g)
    (hd : (Y.1.cls ≠ "java/lang/invoke/MethodHandle" ∧ Y.1.cls ≠ "java/lang/invoke/VarHandle") ∧ (parseMethodDescriptor Y.1.desc).map (fun d => d.parameters.length) = some as.length)
    (hci : vwCl[ci]? = some (Y.1.cls, T, N)) (hq : q < 68) (hs : σ q = .inr (ci, fs)) (hst : st = as.reverse ++ .ref q :: rest) (hcat : (rest.map fun v => v.category).sum ≤ 8) (hdd : d2 + 1 ≤ d) (h1 : mc2 ≤ rc) (h2 : ms2 ≤ rz) (hnt : M.2.2.2.2.2 = [])
    (K : ∀ v τ, Q2 (.inl v) τ → zz_E M sc d (rc - mc2) (rz - ms2) Q (pc + 3) lv (v.toList ++ rest) τ) (KX : ∀ E τ, Q2 (.inr E) τ → Q (.inr E) τ) : zz_E M sc d rc rz Q pc lv st σ := by
  intro p l e R s m args below meth c ad G cA A mc ms S H locs cells slots ls hc hz hl hS hP
  have hsub := zz_sub S.2.2.2.2.2.2.2.2.2.2.1 S.2.2.2.2.2.2.2.2.2.2.2.1 hS
  have hK := S.2.2.2.2.2.2.2.2.1
  have hRf : d ≤ R.frames := S.2.2.2.2.2.2.2.2.2.2.2.2.2.2.1
  have hRl : 36 * d + 90 ≤ R.locals := S.2.2.2.2.2.2.2.2.2.2.2.2.2.2.2.1
  have hRc : mc ≤ R.cells := S.2.2.2.2.2.2.2.2.2.2.2.2.2.2.2.2.1
  have hRs : ms ≤ R.slots := S.2.2.2.2.2.2.2.2.2.2.2.2.2.2.2.2.2.1
  have hY2 := hY.2.1
  have he : (zz_W ad cA σ)[q]? = some (ad q, .inr (ci, fs.map (zz_V ad))) := by rw [zz_W_get hq, hs]; rfl
  refine zz_after h1 h2 hnt K KX S hc hz hl hS (av := (Value.ref (ad q) :: as.map (zz_V ad)).toArray) ?_
  refine vx_runV (As := as.map (zz_V ad)) (C := Y.1.cls) (bytes := Y.2.1) (maxL := Y.2.2.1) (ret := Y.2.2.2.1) (n := as.length) ⟨S.1, S.2.1, S.2.2.1, S.2.2.2.2.2.1, S.2.2.2.2.2.2.1⟩ (hC l S.2.2.2.2.2.2.2.2.2.2.2.2.2.1 ad G cA H.size)
    (cwV (ws' := zz_g) as.length S.2.2.2.2.2.2.1 (zz_goodV hY.1 hw hY.2.2.1 hY.2.2.2.1 hY.2.2.2.2.1 hY.2.2.2.2.2) (by unfold zz_ws; rw [hY.1]) rfl rfl ⟨rfl, hd.1.1, hd.1.2, hd.2⟩ ⟨by show d2 + 1 ≤ R.frames; omega, by show 8 + (Y.2.2.1 + 11) + (36 * d2 + 90) ≤ R.locals; omega⟩)
    ⟨fun a U g mk w => ⟨w.1, zz_preA g mk a w.2⟩, va_recv hK hP hci he, fun U hU hW => ⟨rfl, by rw [hU], by rw [hU]; exact hP, va_K.moved hW.alike hK, S.2.2.2.2.2.2.2.2.2.1, by rw [hU]; exact zz_Z_down S.2.2.2.2.2.2.2.2.2.2.2.2.1 hW hS.2.1 hsub⟩⟩
    rfl (List.length_map _) hl.1 (by rw [hst]; simp [zz_V, List.map_reverse]) (by show 2 * 0 + _ ≤ 8; rw [zz_cats]; omega) h ⟨by omega, by omega⟩
theorem zz_callS {Y : zz_M} {d2 mc2 ms2 : Nat} {as rest : List Value} {Q2 : zz_Q} {i : Nat} (hC : zz_C Y d2 mc2 ms2 as σ Q2)
    (h : decode M.2.1 pc = .ok (.invokestatic i, 3)) (hw : Cond.methodLink M.2.2.2.2.1 i Y.1 ∈ zz_g)
    (hY : Y.2.2.2.2.2 = [] ∧ Y.2.2.1 ≤ 17 ∧ Cond.static Y.1 ∈ zz_g ∧ Cond.initialized Y.1.cls ∈ zz_g ∧ Cond.code Y.1 Y.2.1 Y.2.2.1 Y.2.2.2.1 ∈ zz_g)
    (hd : (Y.1.cls ≠ "java/lang/invoke/MethodHandle" ∧ Y.1.cls ≠ "java/lang/invoke/VarHandle") ∧ (parseMethodDescriptor Y.1.desc).map (fun d => d.parameters.length) = some as.length)
    (hst : st = as.reverse ++ rest) (hcat : (rest.map fun v => v.category).sum ≤ 8) (hdd : d2 + 1 ≤ d) (h1 : mc2 ≤ rc) (h2 : ms2 ≤ rz) (hnt : M.2.2.2.2.2 = [])
    (K : ∀ v τ, Q2 (.inl v) τ → zz_E M sc d (rc - mc2) (rz - ms2) Q (pc + 3) lv (v.toList ++ rest) τ) (KX : ∀ E τ, Q2 (.inr E) τ → Q (.inr E) τ) : zz_E M sc d rc rz Q pc lv st σ := by
  intro p l e R s m args below meth c ad G cA A mc ms S H locs cells slots ls hc hz hl hS hP
  have hsub := zz_sub S.2.2.2.2.2.2.2.2.2.2.1 S.2.2.2.2.2.2.2.2.2.2.2.1 hS
  have hK := S.2.2.2.2.2.2.2.2.1
  have hRf : d ≤ R.frames := S.2.2.2.2.2.2.2.2.2.2.2.2.2.2.1
  have hRl : 36 * d + 90 ≤ R.locals := S.2.2.2.2.2.2.2.2.2.2.2.2.2.2.2.1
  have hRc : mc ≤ R.cells := S.2.2.2.2.2.2.2.2.2.2.2.2.2.2.2.2.1
  have hRs : ms ≤ R.slots := S.2.2.2.2.2.2.2.2.2.2.2.2.2.2.2.2.2.1
  have hY2 := hY.2.1
  refine zz_after h1 h2 hnt K KX S hc hz hl hS (av := (as.map (zz_V ad)).toArray) ?_
  refine vx_runS (As := as.map (zz_V ad)) (bytes := Y.2.1) (maxL := Y.2.2.1) (ret := Y.2.2.2.1) (n := as.length) ⟨S.1, S.2.1, S.2.2.1, S.2.2.2.2.2.1, S.2.2.2.2.2.2.1⟩ (hC l S.2.2.2.2.2.2.2.2.2.2.2.2.2.1 ad G cA H.size)
    (va_cwS (ws' := zz_g) as.length S.2.2.2.2.2.2.1 (zz_goodS hY.1 hw hY.2.2.1 hY.2.2.2.1 hY.2.2.2.2) (by unfold zz_ws; rw [hY.1]) rfl rfl ⟨hd.1.1, hd.1.2, hd.2⟩ ⟨by show d2 + 1 ≤ R.frames; omega, by show 8 + (Y.2.2.1 + 11) + (36 * d2 + 90) ≤ R.locals; omega⟩)
    ⟨fun a U g mk w => ⟨w.1, zz_preA g mk a w.2⟩, fun U hU hW => ⟨rfl, by rw [hU], by rw [hU]; exact hP, va_K.moved hW.alike hK, S.2.2.2.2.2.2.2.2.2.1, by rw [hU]; exact zz_Z_down S.2.2.2.2.2.2.2.2.2.2.2.2.1 hW hS.2.1 hsub⟩⟩
    rfl (List.length_map _) hl.1 (by rw [hst]; simp [List.map_reverse]) (by show 2 * 0 + _ ≤ 8; rw [zz_cats]; omega) h ⟨by omega, by omega⟩
end ZZC
end
section
theorem dX0_init_0 : decode cX0_init 0 = .ok (.aload_n 0, 1) := by decide +kernel
theorem dX0_init_1 : decode cX0_init 1 = .ok (.invokespecial 3, 3) := by decide +kernel
theorem dX0_init_4 : decode cX0_init 4 = .ok (.return_, 1) := by decide +kernel
theorem dX0_below_0 : decode cX0_below 0 = .ok (.iload_n 0, 1) := by decide +kernel
theorem dX0_below_1 : decode cX0_below 1 = .ok (.bipush 64, 2) := by decide +kernel
theorem dX0_below_3 : decode cX0_below 3 = .ok (.if_icmp .lt 7, 3) := by decide +kernel
theorem dX0_below_6 : decode cX0_below 6 = .ok (.ldc2_w 9, 3) := by decide +kernel
theorem dX0_below_9 : decode cX0_below 9 = .ok (.lreturn, 1) := by decide +kernel
theorem dX0_below_10 : decode cX0_below 10 = .ok (.iload_n 0, 1) := by decide +kernel
theorem dX0_below_11 : decode cX0_below 11 = .ok (.ifCond .gt 7, 3) := by decide +kernel
theorem dX0_below_14 : decode cX0_below 14 = .ok (.lconst 0, 1) := by decide +kernel
theorem dX0_below_15 : decode cX0_below 15 = .ok (.goto 8, 3) := by decide +kernel
theorem dX0_below_18 : decode cX0_below 18 = .ok (.lconst 1, 1) := by decide +kernel
theorem dX0_below_19 : decode cX0_below 19 = .ok (.iload_n 0, 1) := by decide +kernel
theorem dX0_below_20 : decode cX0_below 20 = .ok (.lshl, 1) := by decide +kernel
theorem dX0_below_21 : decode cX0_below 21 = .ok (.lconst 1, 1) := by decide +kernel
theorem dX0_below_22 : decode cX0_below 22 = .ok (.lsub, 1) := by decide +kernel
theorem dX0_below_23 : decode cX0_below 23 = .ok (.lreturn, 1) := by decide +kernel
theorem dX0_lowRange_0 : decode cX0_lowRange 0 = .ok (.iload_n 1, 1) := by decide +kernel
theorem dX0_lowRange_1 : decode cX0_lowRange 1 = .ok (.invokestatic 11, 3) := by decide +kernel
theorem dX0_lowRange_4 : decode cX0_lowRange 4 = .ok (.iload_n 0, 1) := by decide +kernel
theorem dX0_lowRange_5 : decode cX0_lowRange 5 = .ok (.invokestatic 11, 3) := by decide +kernel
theorem dX0_lowRange_8 : decode cX0_lowRange 8 = .ok (.ldc2_w 9, 3) := by decide +kernel
theorem dX0_lowRange_11 : decode cX0_lowRange 11 = .ok (.lxor, 1) := by decide +kernel
theorem dX0_lowRange_12 : decode cX0_lowRange 12 = .ok (.land, 1) := by decide +kernel
theorem dX0_lowRange_13 : decode cX0_lowRange 13 = .ok (.lreturn, 1) := by decide +kernel
theorem dX0_highRange_0 : decode cX0_highRange 0 = .ok (.iload_n 1, 1) := by decide +kernel
theorem dX0_highRange_1 : decode cX0_highRange 1 = .ok (.bipush 64, 2) := by decide +kernel
theorem dX0_highRange_3 : decode cX0_highRange 3 = .ok (.isub, 1) := by decide +kernel
theorem dX0_highRange_4 : decode cX0_highRange 4 = .ok (.invokestatic 11, 3) := by decide +kernel
theorem dX0_highRange_7 : decode cX0_highRange 7 = .ok (.iload_n 0, 1) := by decide +kernel
theorem dX0_highRange_8 : decode cX0_highRange 8 = .ok (.bipush 64, 2) := by decide +kernel
theorem dX0_highRange_10 : decode cX0_highRange 10 = .ok (.isub, 1) := by decide +kernel
theorem dX0_highRange_11 : decode cX0_highRange 11 = .ok (.invokestatic 11, 3) := by decide +kernel
theorem dX0_highRange_14 : decode cX0_highRange 14 = .ok (.ldc2_w 9, 3) := by decide +kernel
theorem dX0_highRange_17 : decode cX0_highRange 17 = .ok (.lxor, 1) := by decide +kernel
theorem dX0_highRange_18 : decode cX0_highRange 18 = .ok (.land, 1) := by decide +kernel
theorem dX0_highRange_19 : decode cX0_highRange 19 = .ok (.lreturn, 1) := by decide +kernel
theorem dX0_clear_0 : decode cX0_clear 0 = .ok (.aload_n 0, 1) := by decide +kernel
theorem dX0_clear_1 : decode cX0_clear 1 = .ok (.lconst 0, 1) := by decide +kernel
theorem dX0_clear_2 : decode cX0_clear 2 = .ok (.putfield 17, 3) := by decide +kernel
theorem dX0_clear_5 : decode cX0_clear 5 = .ok (.aload_n 0, 1) := by decide +kernel
theorem dX0_clear_6 : decode cX0_clear 6 = .ok (.lconst 0, 1) := by decide +kernel
theorem dX0_clear_7 : decode cX0_clear 7 = .ok (.putfield 21, 3) := by decide +kernel
theorem dX0_clear_10 : decode cX0_clear 10 = .ok (.return_, 1) := by decide +kernel
theorem dX0_become_0 : decode cX0_become 0 = .ok (.aload_n 0, 1) := by decide +kernel
theorem dX0_become_1 : decode cX0_become 1 = .ok (.aload_n 1, 1) := by decide +kernel
theorem dX0_become_2 : decode cX0_become 2 = .ok (.getfield 17, 3) := by decide +kernel
theorem dX0_become_5 : decode cX0_become 5 = .ok (.putfield 17, 3) := by decide +kernel
theorem dX0_become_8 : decode cX0_become 8 = .ok (.aload_n 0, 1) := by decide +kernel
theorem dX0_become_9 : decode cX0_become 9 = .ok (.aload_n 1, 1) := by decide +kernel
theorem dX0_become_10 : decode cX0_become 10 = .ok (.getfield 21, 3) := by decide +kernel
theorem dX0_become_13 : decode cX0_become 13 = .ok (.putfield 21, 3) := by decide +kernel
theorem dX0_become_16 : decode cX0_become 16 = .ok (.return_, 1) := by decide +kernel
theorem dX0_unite_0 : decode cX0_unite 0 = .ok (.aload_n 0, 1) := by decide +kernel
theorem dX0_unite_1 : decode cX0_unite 1 = .ok (.dup, 1) := by decide +kernel
theorem dX0_unite_2 : decode cX0_unite 2 = .ok (.getfield 17, 3) := by decide +kernel
theorem dX0_unite_5 : decode cX0_unite 5 = .ok (.aload_n 1, 1) := by decide +kernel
theorem dX0_unite_6 : decode cX0_unite 6 = .ok (.getfield 17, 3) := by decide +kernel
theorem dX0_unite_9 : decode cX0_unite 9 = .ok (.lor, 1) := by decide +kernel
theorem dX0_unite_10 : decode cX0_unite 10 = .ok (.putfield 17, 3) := by decide +kernel
theorem dX0_unite_13 : decode cX0_unite 13 = .ok (.aload_n 0, 1) := by decide +kernel
theorem dX0_unite_14 : decode cX0_unite 14 = .ok (.dup, 1) := by decide +kernel
theorem dX0_unite_15 : decode cX0_unite 15 = .ok (.getfield 21, 3) := by decide +kernel
theorem dX0_unite_18 : decode cX0_unite 18 = .ok (.aload_n 1, 1) := by decide +kernel
theorem dX0_unite_19 : decode cX0_unite 19 = .ok (.getfield 21, 3) := by decide +kernel
theorem dX0_unite_22 : decode cX0_unite 22 = .ok (.lor, 1) := by decide +kernel
theorem dX0_unite_23 : decode cX0_unite 23 = .ok (.putfield 21, 3) := by decide +kernel
theorem dX0_unite_26 : decode cX0_unite 26 = .ok (.return_, 1) := by decide +kernel
theorem dX0_remove_0 : decode cX0_remove 0 = .ok (.aload_n 0, 1) := by decide +kernel
theorem dX0_remove_1 : decode cX0_remove 1 = .ok (.aload_n 0, 1) := by decide +kernel
theorem dX0_remove_2 : decode cX0_remove 2 = .ok (.getfield 17, 3) := by decide +kernel
theorem dX0_remove_5 : decode cX0_remove 5 = .ok (.aload_n 1, 1) := by decide +kernel
theorem dX0_remove_6 : decode cX0_remove 6 = .ok (.getfield 17, 3) := by decide +kernel
theorem dX0_remove_9 : decode cX0_remove 9 = .ok (.ldc2_w 9, 3) := by decide +kernel
theorem dX0_remove_12 : decode cX0_remove 12 = .ok (.lxor, 1) := by decide +kernel
theorem dX0_remove_13 : decode cX0_remove 13 = .ok (.land, 1) := by decide +kernel
theorem dX0_remove_14 : decode cX0_remove 14 = .ok (.putfield 17, 3) := by decide +kernel
theorem dX0_remove_17 : decode cX0_remove 17 = .ok (.aload_n 0, 1) := by decide +kernel
theorem dX0_remove_18 : decode cX0_remove 18 = .ok (.aload_n 0, 1) := by decide +kernel
theorem dX0_remove_19 : decode cX0_remove 19 = .ok (.getfield 21, 3) := by decide +kernel
theorem dX0_remove_22 : decode cX0_remove 22 = .ok (.aload_n 1, 1) := by decide +kernel
theorem dX0_remove_23 : decode cX0_remove 23 = .ok (.getfield 21, 3) := by decide +kernel
theorem dX0_remove_26 : decode cX0_remove 26 = .ok (.ldc2_w 9, 3) := by decide +kernel
theorem dX0_remove_29 : decode cX0_remove 29 = .ok (.lxor, 1) := by decide +kernel
theorem dX0_remove_30 : decode cX0_remove 30 = .ok (.land, 1) := by decide +kernel
theorem dX0_remove_31 : decode cX0_remove 31 = .ok (.putfield 21, 3) := by decide +kernel
theorem dX0_remove_34 : decode cX0_remove 34 = .ok (.return_, 1) := by decide +kernel
theorem dX0_putRange_0 : decode cX0_putRange 0 = .ok (.iload_n 1, 1) := by decide +kernel
theorem dX0_putRange_1 : decode cX0_putRange 1 = .ok (.iload_n 2, 1) := by decide +kernel
theorem dX0_putRange_2 : decode cX0_putRange 2 = .ok (.invokestatic 24, 3) := by decide +kernel
theorem dX0_putRange_5 : decode cX0_putRange 5 = .ok (.lstore 4, 2) := by decide +kernel
theorem dX0_putRange_7 : decode cX0_putRange 7 = .ok (.iload_n 1, 1) := by decide +kernel
theorem dX0_putRange_8 : decode cX0_putRange 8 = .ok (.iload_n 2, 1) := by decide +kernel
theorem dX0_putRange_9 : decode cX0_putRange 9 = .ok (.invokestatic 28, 3) := by decide +kernel
theorem dX0_putRange_12 : decode cX0_putRange 12 = .ok (.lstore 6, 2) := by decide +kernel
theorem dX0_putRange_14 : decode cX0_putRange 14 = .ok (.aload_n 0, 1) := by decide +kernel
theorem dX0_putRange_15 : decode cX0_putRange 15 = .ok (.iload_n 3, 1) := by decide +kernel
theorem dX0_putRange_16 : decode cX0_putRange 16 = .ok (.ifCond .eq 13, 3) := by decide +kernel
theorem dX0_putRange_19 : decode cX0_putRange 19 = .ok (.aload_n 0, 1) := by decide +kernel
theorem dX0_putRange_20 : decode cX0_putRange 20 = .ok (.getfield 17, 3) := by decide +kernel
theorem dX0_putRange_23 : decode cX0_putRange 23 = .ok (.lload 4, 2) := by decide +kernel
theorem dX0_putRange_25 : decode cX0_putRange 25 = .ok (.lor, 1) := by decide +kernel
theorem dX0_putRange_26 : decode cX0_putRange 26 = .ok (.goto 14, 3) := by decide +kernel
theorem dX0_putRange_29 : decode cX0_putRange 29 = .ok (.aload_n 0, 1) := by decide +kernel
theorem dX0_putRange_30 : decode cX0_putRange 30 = .ok (.getfield 17, 3) := by decide +kernel
theorem dX0_putRange_33 : decode cX0_putRange 33 = .ok (.lload 4, 2) := by decide +kernel
theorem dX0_putRange_35 : decode cX0_putRange 35 = .ok (.ldc2_w 9, 3) := by decide +kernel
theorem dX0_putRange_38 : decode cX0_putRange 38 = .ok (.lxor, 1) := by decide +kernel
theorem dX0_putRange_39 : decode cX0_putRange 39 = .ok (.land, 1) := by decide +kernel
theorem dX0_putRange_40 : decode cX0_putRange 40 = .ok (.putfield 17, 3) := by decide +kernel
theorem dX0_putRange_43 : decode cX0_putRange 43 = .ok (.aload_n 0, 1) := by decide +kernel
theorem dX0_putRange_44 : decode cX0_putRange 44 = .ok (.iload_n 3, 1) := by decide +kernel
theorem dX0_putRange_45 : decode cX0_putRange 45 = .ok (.ifCond .eq 13, 3) := by decide +kernel
theorem dX0_putRange_48 : decode cX0_putRange 48 = .ok (.aload_n 0, 1) := by decide +kernel
theorem dX0_putRange_49 : decode cX0_putRange 49 = .ok (.getfield 21, 3) := by decide +kernel
theorem dX0_putRange_52 : decode cX0_putRange 52 = .ok (.lload 6, 2) := by decide +kernel
theorem dX0_putRange_54 : decode cX0_putRange 54 = .ok (.lor, 1) := by decide +kernel
theorem dX0_putRange_55 : decode cX0_putRange 55 = .ok (.goto 14, 3) := by decide +kernel
theorem dX0_putRange_58 : decode cX0_putRange 58 = .ok (.aload_n 0, 1) := by decide +kernel
theorem dX0_putRange_59 : decode cX0_putRange 59 = .ok (.getfield 21, 3) := by decide +kernel
theorem dX0_putRange_62 : decode cX0_putRange 62 = .ok (.lload 6, 2) := by decide +kernel
theorem dX0_putRange_64 : decode cX0_putRange 64 = .ok (.ldc2_w 9, 3) := by decide +kernel
theorem dX0_putRange_67 : decode cX0_putRange 67 = .ok (.lxor, 1) := by decide +kernel
theorem dX0_putRange_68 : decode cX0_putRange 68 = .ok (.land, 1) := by decide +kernel
theorem dX0_putRange_69 : decode cX0_putRange 69 = .ok (.putfield 21, 3) := by decide +kernel
theorem dX0_putRange_72 : decode cX0_putRange 72 = .ok (.return_, 1) := by decide +kernel
theorem dX0_invert_0 : decode cX0_invert 0 = .ok (.aload_n 0, 1) := by decide +kernel
theorem dX0_invert_1 : decode cX0_invert 1 = .ok (.dup, 1) := by decide +kernel
theorem dX0_invert_2 : decode cX0_invert 2 = .ok (.getfield 17, 3) := by decide +kernel
theorem dX0_invert_5 : decode cX0_invert 5 = .ok (.iload_n 1, 1) := by decide +kernel
theorem dX0_invert_6 : decode cX0_invert 6 = .ok (.iload_n 2, 1) := by decide +kernel
theorem dX0_invert_7 : decode cX0_invert 7 = .ok (.invokestatic 24, 3) := by decide +kernel
theorem dX0_invert_10 : decode cX0_invert 10 = .ok (.lxor, 1) := by decide +kernel
theorem dX0_invert_11 : decode cX0_invert 11 = .ok (.putfield 17, 3) := by decide +kernel
theorem dX0_invert_14 : decode cX0_invert 14 = .ok (.aload_n 0, 1) := by decide +kernel
theorem dX0_invert_15 : decode cX0_invert 15 = .ok (.dup, 1) := by decide +kernel
theorem dX0_invert_16 : decode cX0_invert 16 = .ok (.getfield 21, 3) := by decide +kernel
theorem dX0_invert_19 : decode cX0_invert 19 = .ok (.iload_n 1, 1) := by decide +kernel
theorem dX0_invert_20 : decode cX0_invert 20 = .ok (.iload_n 2, 1) := by decide +kernel
theorem dX0_invert_21 : decode cX0_invert 21 = .ok (.invokestatic 28, 3) := by decide +kernel
theorem dX0_invert_24 : decode cX0_invert 24 = .ok (.lxor, 1) := by decide +kernel
theorem dX0_invert_25 : decode cX0_invert 25 = .ok (.putfield 21, 3) := by decide +kernel
theorem dX0_invert_28 : decode cX0_invert 28 = .ok (.return_, 1) := by decide +kernel
theorem dX0_holds_0 : decode cX0_holds 0 = .ok (.iload_n 1, 1) := by decide +kernel
theorem dX0_holds_1 : decode cX0_holds 1 = .ok (.bipush 64, 2) := by decide +kernel
theorem dX0_holds_3 : decode cX0_holds 3 = .ok (.if_icmp .ge 12, 3) := by decide +kernel
theorem dX0_holds_6 : decode cX0_holds 6 = .ok (.aload_n 0, 1) := by decide +kernel
theorem dX0_holds_7 : decode cX0_holds 7 = .ok (.getfield 17, 3) := by decide +kernel
theorem dX0_holds_10 : decode cX0_holds 10 = .ok (.iload_n 1, 1) := by decide +kernel
theorem dX0_holds_11 : decode cX0_holds 11 = .ok (.lushr, 1) := by decide +kernel
theorem dX0_holds_12 : decode cX0_holds 12 = .ok (.goto 12, 3) := by decide +kernel
theorem dX0_holds_15 : decode cX0_holds 15 = .ok (.aload_n 0, 1) := by decide +kernel
theorem dX0_holds_16 : decode cX0_holds 16 = .ok (.getfield 21, 3) := by decide +kernel
theorem dX0_holds_19 : decode cX0_holds 19 = .ok (.iload_n 1, 1) := by decide +kernel
theorem dX0_holds_20 : decode cX0_holds 20 = .ok (.bipush 64, 2) := by decide +kernel
theorem dX0_holds_22 : decode cX0_holds 22 = .ok (.isub, 1) := by decide +kernel
theorem dX0_holds_23 : decode cX0_holds 23 = .ok (.lushr, 1) := by decide +kernel
theorem dX0_holds_24 : decode cX0_holds 24 = .ok (.lstore_n 2, 1) := by decide +kernel
theorem dX0_holds_25 : decode cX0_holds 25 = .ok (.lload_n 2, 1) := by decide +kernel
theorem dX0_holds_26 : decode cX0_holds 26 = .ok (.lconst 1, 1) := by decide +kernel
theorem dX0_holds_27 : decode cX0_holds 27 = .ok (.land, 1) := by decide +kernel
theorem dX0_holds_28 : decode cX0_holds 28 = .ok (.lconst 0, 1) := by decide +kernel
theorem dX0_holds_29 : decode cX0_holds 29 = .ok (.lcmp, 1) := by decide +kernel
theorem dX0_holds_30 : decode cX0_holds 30 = .ok (.ifCond .eq 7, 3) := by decide +kernel
theorem dX0_holds_33 : decode cX0_holds 33 = .ok (.iconst 1, 1) := by decide +kernel
theorem dX0_holds_34 : decode cX0_holds 34 = .ok (.goto 4, 3) := by decide +kernel
theorem dX0_holds_37 : decode cX0_holds 37 = .ok (.iconst 0, 1) := by decide +kernel
theorem dX0_holds_38 : decode cX0_holds 38 = .ok (.ireturn, 1) := by decide +kernel
theorem dX0_isEmpty_0 : decode cX0_isEmpty 0 = .ok (.aload_n 0, 1) := by decide +kernel
theorem dX0_isEmpty_1 : decode cX0_isEmpty 1 = .ok (.getfield 17, 3) := by decide +kernel
theorem dX0_isEmpty_4 : decode cX0_isEmpty 4 = .ok (.lconst 0, 1) := by decide +kernel
theorem dX0_isEmpty_5 : decode cX0_isEmpty 5 = .ok (.lcmp, 1) := by decide +kernel
theorem dX0_isEmpty_6 : decode cX0_isEmpty 6 = .ok (.ifCond .ne 16, 3) := by decide +kernel
theorem dX0_isEmpty_9 : decode cX0_isEmpty 9 = .ok (.aload_n 0, 1) := by decide +kernel
theorem dX0_isEmpty_10 : decode cX0_isEmpty 10 = .ok (.getfield 21, 3) := by decide +kernel
theorem dX0_isEmpty_13 : decode cX0_isEmpty 13 = .ok (.lconst 0, 1) := by decide +kernel
theorem dX0_isEmpty_14 : decode cX0_isEmpty 14 = .ok (.lcmp, 1) := by decide +kernel
theorem dX0_isEmpty_15 : decode cX0_isEmpty 15 = .ok (.ifCond .ne 7, 3) := by decide +kernel
theorem dX0_isEmpty_18 : decode cX0_isEmpty 18 = .ok (.iconst 1, 1) := by decide +kernel
theorem dX0_isEmpty_19 : decode cX0_isEmpty 19 = .ok (.goto 4, 3) := by decide +kernel
theorem dX0_isEmpty_22 : decode cX0_isEmpty 22 = .ok (.iconst 0, 1) := by decide +kernel
theorem dX0_isEmpty_23 : decode cX0_isEmpty 23 = .ok (.ireturn, 1) := by decide +kernel
theorem dX0_meets_0 : decode cX0_meets 0 = .ok (.aload_n 0, 1) := by decide +kernel
theorem dX0_meets_1 : decode cX0_meets 1 = .ok (.getfield 17, 3) := by decide +kernel
theorem dX0_meets_4 : decode cX0_meets 4 = .ok (.aload_n 1, 1) := by decide +kernel
theorem dX0_meets_5 : decode cX0_meets 5 = .ok (.getfield 17, 3) := by decide +kernel
theorem dX0_meets_8 : decode cX0_meets 8 = .ok (.land, 1) := by decide +kernel
theorem dX0_meets_9 : decode cX0_meets 9 = .ok (.lconst 0, 1) := by decide +kernel
theorem dX0_meets_10 : decode cX0_meets 10 = .ok (.lcmp, 1) := by decide +kernel
theorem dX0_meets_11 : decode cX0_meets 11 = .ok (.ifCond .ne 17, 3) := by decide +kernel
theorem dX0_meets_14 : decode cX0_meets 14 = .ok (.aload_n 0, 1) := by decide +kernel
theorem dX0_meets_15 : decode cX0_meets 15 = .ok (.getfield 21, 3) := by decide +kernel
theorem dX0_meets_18 : decode cX0_meets 18 = .ok (.aload_n 1, 1) := by decide +kernel
theorem dX0_meets_19 : decode cX0_meets 19 = .ok (.getfield 21, 3) := by decide +kernel
theorem dX0_meets_22 : decode cX0_meets 22 = .ok (.land, 1) := by decide +kernel
theorem dX0_meets_23 : decode cX0_meets 23 = .ok (.lconst 0, 1) := by decide +kernel
theorem dX0_meets_24 : decode cX0_meets 24 = .ok (.lcmp, 1) := by decide +kernel
theorem dX0_meets_25 : decode cX0_meets 25 = .ok (.ifCond .eq 7, 3) := by decide +kernel
theorem dX0_meets_28 : decode cX0_meets 28 = .ok (.iconst 1, 1) := by decide +kernel
theorem dX0_meets_29 : decode cX0_meets 29 = .ok (.goto 4, 3) := by decide +kernel
theorem dX0_meets_32 : decode cX0_meets 32 = .ok (.iconst 0, 1) := by decide +kernel
theorem dX0_meets_33 : decode cX0_meets 33 = .ok (.ireturn, 1) := by decide +kernel
theorem dX0_isLike_0 : decode cX0_isLike 0 = .ok (.aload_n 0, 1) := by decide +kernel
theorem dX0_isLike_1 : decode cX0_isLike 1 = .ok (.getfield 17, 3) := by decide +kernel
theorem dX0_isLike_4 : decode cX0_isLike 4 = .ok (.aload_n 1, 1) := by decide +kernel
theorem dX0_isLike_5 : decode cX0_isLike 5 = .ok (.getfield 17, 3) := by decide +kernel
theorem dX0_isLike_8 : decode cX0_isLike 8 = .ok (.lcmp, 1) := by decide +kernel
theorem dX0_isLike_9 : decode cX0_isLike 9 = .ok (.ifCond .ne 19, 3) := by decide +kernel
theorem dX0_isLike_12 : decode cX0_isLike 12 = .ok (.aload_n 0, 1) := by decide +kernel
theorem dX0_isLike_13 : decode cX0_isLike 13 = .ok (.getfield 21, 3) := by decide +kernel
theorem dX0_isLike_16 : decode cX0_isLike 16 = .ok (.aload_n 1, 1) := by decide +kernel
theorem dX0_isLike_17 : decode cX0_isLike 17 = .ok (.getfield 21, 3) := by decide +kernel
theorem dX0_isLike_20 : decode cX0_isLike 20 = .ok (.lcmp, 1) := by decide +kernel
theorem dX0_isLike_21 : decode cX0_isLike 21 = .ok (.ifCond .ne 7, 3) := by decide +kernel
theorem dX0_isLike_24 : decode cX0_isLike 24 = .ok (.iconst 1, 1) := by decide +kernel
theorem dX0_isLike_25 : decode cX0_isLike 25 = .ok (.goto 4, 3) := by decide +kernel
theorem dX0_isLike_28 : decode cX0_isLike 28 = .ok (.iconst 0, 1) := by decide +kernel
theorem dX0_isLike_29 : decode cX0_isLike 29 = .ok (.ireturn, 1) := by decide +kernel
theorem dX0_size_0 : decode cX0_size 0 = .ok (.aload_n 0, 1) := by decide +kernel
theorem dX0_size_1 : decode cX0_size 1 = .ok (.getfield 17, 3) := by decide +kernel
theorem dX0_size_4 : decode cX0_size 4 = .ok (.invokestatic 31, 3) := by decide +kernel
theorem dX0_size_7 : decode cX0_size 7 = .ok (.aload_n 0, 1) := by decide +kernel
theorem dX0_size_8 : decode cX0_size 8 = .ok (.getfield 21, 3) := by decide +kernel
theorem dX0_size_11 : decode cX0_size 11 = .ok (.invokestatic 31, 3) := by decide +kernel
theorem dX0_size_14 : decode cX0_size 14 = .ok (.iadd, 1) := by decide +kernel
theorem dX0_size_15 : decode cX0_size 15 = .ok (.ireturn, 1) := by decide +kernel
theorem dX0_leastFrom_0 : decode cX0_leastFrom 0 = .ok (.aload_n 0, 1) := by decide +kernel
theorem dX0_leastFrom_1 : decode cX0_leastFrom 1 = .ok (.getfield 17, 3) := by decide +kernel
theorem dX0_leastFrom_4 : decode cX0_leastFrom 4 = .ok (.iload_n 1, 1) := by decide +kernel
theorem dX0_leastFrom_5 : decode cX0_leastFrom 5 = .ok (.invokestatic 11, 3) := by decide +kernel
theorem dX0_leastFrom_8 : decode cX0_leastFrom 8 = .ok (.ldc2_w 9, 3) := by decide +kernel
theorem dX0_leastFrom_11 : decode cX0_leastFrom 11 = .ok (.lxor, 1) := by decide +kernel
theorem dX0_leastFrom_12 : decode cX0_leastFrom 12 = .ok (.land, 1) := by decide +kernel
theorem dX0_leastFrom_13 : decode cX0_leastFrom 13 = .ok (.lstore_n 2, 1) := by decide +kernel
theorem dX0_leastFrom_14 : decode cX0_leastFrom 14 = .ok (.lload_n 2, 1) := by decide +kernel
theorem dX0_leastFrom_15 : decode cX0_leastFrom 15 = .ok (.lconst 0, 1) := by decide +kernel
theorem dX0_leastFrom_16 : decode cX0_leastFrom 16 = .ok (.lcmp, 1) := by decide +kernel
theorem dX0_leastFrom_17 : decode cX0_leastFrom 17 = .ok (.ifCond .eq 8, 3) := by decide +kernel
theorem dX0_leastFrom_20 : decode cX0_leastFrom 20 = .ok (.lload_n 2, 1) := by decide +kernel
theorem dX0_leastFrom_21 : decode cX0_leastFrom 21 = .ok (.invokestatic 37, 3) := by decide +kernel
theorem dX0_leastFrom_24 : decode cX0_leastFrom 24 = .ok (.ireturn, 1) := by decide +kernel
theorem dX0_leastFrom_25 : decode cX0_leastFrom 25 = .ok (.aload_n 0, 1) := by decide +kernel
theorem dX0_leastFrom_26 : decode cX0_leastFrom 26 = .ok (.getfield 21, 3) := by decide +kernel
theorem dX0_leastFrom_29 : decode cX0_leastFrom 29 = .ok (.iload_n 1, 1) := by decide +kernel
theorem dX0_leastFrom_30 : decode cX0_leastFrom 30 = .ok (.bipush 64, 2) := by decide +kernel
theorem dX0_leastFrom_32 : decode cX0_leastFrom 32 = .ok (.isub, 1) := by decide +kernel
theorem dX0_leastFrom_33 : decode cX0_leastFrom 33 = .ok (.invokestatic 11, 3) := by decide +kernel
theorem dX0_leastFrom_36 : decode cX0_leastFrom 36 = .ok (.ldc2_w 9, 3) := by decide +kernel
theorem dX0_leastFrom_39 : decode cX0_leastFrom 39 = .ok (.lxor, 1) := by decide +kernel
theorem dX0_leastFrom_40 : decode cX0_leastFrom 40 = .ok (.land, 1) := by decide +kernel
theorem dX0_leastFrom_41 : decode cX0_leastFrom 41 = .ok (.lstore 4, 2) := by decide +kernel
theorem dX0_leastFrom_43 : decode cX0_leastFrom 43 = .ok (.lload 4, 2) := by decide +kernel
theorem dX0_leastFrom_45 : decode cX0_leastFrom 45 = .ok (.lconst 0, 1) := by decide +kernel
theorem dX0_leastFrom_46 : decode cX0_leastFrom 46 = .ok (.lcmp, 1) := by decide +kernel
theorem dX0_leastFrom_47 : decode cX0_leastFrom 47 = .ok (.ifCond .ne 7, 3) := by decide +kernel
theorem dX0_leastFrom_50 : decode cX0_leastFrom 50 = .ok (.iconst (-1), 1) := by decide +kernel
theorem dX0_leastFrom_51 : decode cX0_leastFrom 51 = .ok (.goto 11, 3) := by decide +kernel
theorem dX0_leastFrom_54 : decode cX0_leastFrom 54 = .ok (.bipush 64, 2) := by decide +kernel
theorem dX0_leastFrom_56 : decode cX0_leastFrom 56 = .ok (.lload 4, 2) := by decide +kernel
theorem dX0_leastFrom_58 : decode cX0_leastFrom 58 = .ok (.invokestatic 37, 3) := by decide +kernel
theorem dX0_leastFrom_61 : decode cX0_leastFrom 61 = .ok (.iadd, 1) := by decide +kernel
theorem dX0_leastFrom_62 : decode cX0_leastFrom 62 = .ok (.ireturn, 1) := by decide +kernel
theorem dX0_placeOfLeast_0 : decode cX0_placeOfLeast 0 = .ok (.lload_n 0, 1) := by decide +kernel
theorem dX0_placeOfLeast_1 : decode cX0_placeOfLeast 1 = .ok (.lload_n 0, 1) := by decide +kernel
theorem dX0_placeOfLeast_2 : decode cX0_placeOfLeast 2 = .ok (.lneg, 1) := by decide +kernel
theorem dX0_placeOfLeast_3 : decode cX0_placeOfLeast 3 = .ok (.land, 1) := by decide +kernel
theorem dX0_placeOfLeast_4 : decode cX0_placeOfLeast 4 = .ok (.lconst 1, 1) := by decide +kernel
theorem dX0_placeOfLeast_5 : decode cX0_placeOfLeast 5 = .ok (.lsub, 1) := by decide +kernel
theorem dX0_placeOfLeast_6 : decode cX0_placeOfLeast 6 = .ok (.invokestatic 31, 3) := by decide +kernel
theorem dX0_placeOfLeast_9 : decode cX0_placeOfLeast 9 = .ok (.ireturn, 1) := by decide +kernel
theorem dX0_greatestTo_0 : decode cX0_greatestTo 0 = .ok (.iload_n 1, 1) := by decide +kernel
theorem dX0_greatestTo_1 : decode cX0_greatestTo 1 = .ok (.istore_n 2, 1) := by decide +kernel
theorem dX0_greatestTo_2 : decode cX0_greatestTo 2 = .ok (.iload_n 2, 1) := by decide +kernel
theorem dX0_greatestTo_3 : decode cX0_greatestTo 3 = .ok (.ifCond .lt 19, 3) := by decide +kernel
theorem dX0_greatestTo_6 : decode cX0_greatestTo 6 = .ok (.aload_n 0, 1) := by decide +kernel
theorem dX0_greatestTo_7 : decode cX0_greatestTo 7 = .ok (.iload_n 2, 1) := by decide +kernel
theorem dX0_greatestTo_8 : decode cX0_greatestTo 8 = .ok (.invokevirtual 40, 3) := by decide +kernel
theorem dX0_greatestTo_11 : decode cX0_greatestTo 11 = .ok (.ifCond .eq 5, 3) := by decide +kernel
theorem dX0_greatestTo_14 : decode cX0_greatestTo 14 = .ok (.iload_n 2, 1) := by decide +kernel
theorem dX0_greatestTo_15 : decode cX0_greatestTo 15 = .ok (.ireturn, 1) := by decide +kernel
theorem dX0_greatestTo_16 : decode cX0_greatestTo 16 = .ok (.iinc 2 (-1), 3) := by decide +kernel
theorem dX0_greatestTo_19 : decode cX0_greatestTo 19 = .ok (.goto (-17), 3) := by decide +kernel
theorem dX0_greatestTo_22 : decode cX0_greatestTo 22 = .ok (.iconst (-1), 1) := by decide +kernel
theorem dX0_greatestTo_23 : decode cX0_greatestTo 23 = .ok (.ireturn, 1) := by decide +kernel
theorem dX1_init_0 : decode cX1_init 0 = .ok (.aload_n 0, 1) := by decide +kernel
theorem dX1_init_1 : decode cX1_init 1 = .ok (.invokespecial 3, 3) := by decide +kernel
theorem dX1_init_4 : decode cX1_init 4 = .ok (.aload_n 0, 1) := by decide +kernel
theorem dX1_init_5 : decode cX1_init 5 = .ok (.bipush 12, 2) := by decide +kernel
theorem dX1_init_7 : decode cX1_init 7 = .ok (.putfield 9, 3) := by decide +kernel
theorem dX1_init_10 : decode cX1_init 10 = .ok (.aload_n 0, 1) := by decide +kernel
theorem dX1_init_11 : decode cX1_init 11 = .ok (.bipush 80, 2) := by decide +kernel
theorem dX1_init_13 : decode cX1_init 13 = .ok (.newarray .long, 2) := by decide +kernel
theorem dX1_init_15 : decode cX1_init 15 = .ok (.putfield 15, 3) := by decide +kernel
theorem dX1_init_18 : decode cX1_init 18 = .ok (.aload_n 0, 1) := by decide +kernel
theorem dX1_init_19 : decode cX1_init 19 = .ok (.bipush 80, 2) := by decide +kernel
theorem dX1_init_21 : decode cX1_init 21 = .ok (.newarray .long, 2) := by decide +kernel
theorem dX1_init_23 : decode cX1_init 23 = .ok (.putfield 19, 3) := by decide +kernel
theorem dX1_init_26 : decode cX1_init 26 = .ok (.aload_n 0, 1) := by decide +kernel
theorem dX1_init_27 : decode cX1_init 27 = .ok (.new 22, 3) := by decide +kernel
theorem dX1_init_30 : decode cX1_init 30 = .ok (.dup, 1) := by decide +kernel
theorem dX1_init_31 : decode cX1_init 31 = .ok (.invokespecial 24, 3) := by decide +kernel
theorem dX1_init_34 : decode cX1_init 34 = .ok (.putfield 25, 3) := by decide +kernel
theorem dX1_init_37 : decode cX1_init 37 = .ok (.return_, 1) := by decide +kernel
theorem dX1_restart_0 : decode cX1_restart 0 = .ok (.aload_n 0, 1) := by decide +kernel
theorem dX1_restart_1 : decode cX1_restart 1 = .ok (.iload_n 1, 1) := by decide +kernel
theorem dX1_restart_2 : decode cX1_restart 2 = .ok (.putfield 9, 3) := by decide +kernel
theorem dX1_restart_5 : decode cX1_restart 5 = .ok (.aload_n 0, 1) := by decide +kernel
theorem dX1_restart_6 : decode cX1_restart 6 = .ok (.getfield 25, 3) := by decide +kernel
theorem dX1_restart_9 : decode cX1_restart 9 = .ok (.invokevirtual 29, 3) := by decide +kernel
theorem dX1_restart_12 : decode cX1_restart 12 = .ok (.iconst 0, 1) := by decide +kernel
theorem dX1_restart_13 : decode cX1_restart 13 = .ok (.istore_n 2, 1) := by decide +kernel
theorem dX1_restart_14 : decode cX1_restart 14 = .ok (.iload_n 2, 1) := by decide +kernel
theorem dX1_restart_15 : decode cX1_restart 15 = .ok (.bipush 80, 2) := by decide +kernel
theorem dX1_restart_17 : decode cX1_restart 17 = .ok (.if_icmp .ge 18, 3) := by decide +kernel
theorem dX1_restart_20 : decode cX1_restart 20 = .ok (.aload_n 0, 1) := by decide +kernel
theorem dX1_restart_21 : decode cX1_restart 21 = .ok (.iload_n 2, 1) := by decide +kernel
theorem dX1_restart_22 : decode cX1_restart 22 = .ok (.aload_n 0, 1) := by decide +kernel
theorem dX1_restart_23 : decode cX1_restart 23 = .ok (.getfield 25, 3) := by decide +kernel
theorem dX1_restart_26 : decode cX1_restart 26 = .ok (.invokevirtual 32, 3) := by decide +kernel
theorem dX1_restart_29 : decode cX1_restart 29 = .ok (.iinc 2 1, 3) := by decide +kernel
theorem dX1_restart_32 : decode cX1_restart 32 = .ok (.goto (-18), 3) := by decide +kernel
theorem dX1_restart_35 : decode cX1_restart 35 = .ok (.return_, 1) := by decide +kernel
theorem dX1_elementsInside_0 : decode cX1_elementsInside 0 = .ok (.aload_n 0, 1) := by decide +kernel
theorem dX1_elementsInside_1 : decode cX1_elementsInside 1 = .ok (.getfield 9, 3) := by decide +kernel
theorem dX1_elementsInside_4 : decode cX1_elementsInside 4 = .ok (.ireturn, 1) := by decide +kernel
theorem dX1_lowAt_0 : decode cX1_lowAt 0 = .ok (.iload_n 1, 1) := by decide +kernel
theorem dX1_lowAt_1 : decode cX1_lowAt 1 = .ok (.ifCond .lt 12, 3) := by decide +kernel
theorem dX1_lowAt_4 : decode cX1_lowAt 4 = .ok (.iload_n 1, 1) := by decide +kernel
theorem dX1_lowAt_5 : decode cX1_lowAt 5 = .ok (.aload_n 0, 1) := by decide +kernel
theorem dX1_lowAt_6 : decode cX1_lowAt 6 = .ok (.getfield 15, 3) := by decide +kernel
theorem dX1_lowAt_9 : decode cX1_lowAt 9 = .ok (.arraylength, 1) := by decide +kernel
theorem dX1_lowAt_10 : decode cX1_lowAt 10 = .ok (.if_icmp .lt 7, 3) := by decide +kernel
theorem dX1_lowAt_13 : decode cX1_lowAt 13 = .ok (.lconst 0, 1) := by decide +kernel
theorem dX1_lowAt_14 : decode cX1_lowAt 14 = .ok (.goto 9, 3) := by decide +kernel
theorem dX1_lowAt_17 : decode cX1_lowAt 17 = .ok (.aload_n 0, 1) := by decide +kernel
theorem dX1_lowAt_18 : decode cX1_lowAt 18 = .ok (.getfield 15, 3) := by decide +kernel
theorem dX1_lowAt_21 : decode cX1_lowAt 21 = .ok (.iload_n 1, 1) := by decide +kernel
theorem dX1_lowAt_22 : decode cX1_lowAt 22 = .ok (.laload, 1) := by decide +kernel
theorem dX1_lowAt_23 : decode cX1_lowAt 23 = .ok (.lreturn, 1) := by decide +kernel
theorem dX1_highAt_0 : decode cX1_highAt 0 = .ok (.iload_n 1, 1) := by decide +kernel
theorem dX1_highAt_1 : decode cX1_highAt 1 = .ok (.ifCond .lt 12, 3) := by decide +kernel
theorem dX1_highAt_4 : decode cX1_highAt 4 = .ok (.iload_n 1, 1) := by decide +kernel
theorem dX1_highAt_5 : decode cX1_highAt 5 = .ok (.aload_n 0, 1) := by decide +kernel
theorem dX1_highAt_6 : decode cX1_highAt 6 = .ok (.getfield 19, 3) := by decide +kernel
theorem dX1_highAt_9 : decode cX1_highAt 9 = .ok (.arraylength, 1) := by decide +kernel
theorem dX1_highAt_10 : decode cX1_highAt 10 = .ok (.if_icmp .lt 7, 3) := by decide +kernel
theorem dX1_highAt_13 : decode cX1_highAt 13 = .ok (.lconst 0, 1) := by decide +kernel
theorem dX1_highAt_14 : decode cX1_highAt 14 = .ok (.goto 9, 3) := by decide +kernel
theorem dX1_highAt_17 : decode cX1_highAt 17 = .ok (.aload_n 0, 1) := by decide +kernel
theorem dX1_highAt_18 : decode cX1_highAt 18 = .ok (.getfield 19, 3) := by decide +kernel
theorem dX1_highAt_21 : decode cX1_highAt 21 = .ok (.iload_n 1, 1) := by decide +kernel
theorem dX1_highAt_22 : decode cX1_highAt 22 = .ok (.laload, 1) := by decide +kernel
theorem dX1_highAt_23 : decode cX1_highAt 23 = .ok (.lreturn, 1) := by decide +kernel
theorem dX1_rowInto_0 : decode cX1_rowInto 0 = .ok (.aload_n 2, 1) := by decide +kernel
theorem dX1_rowInto_1 : decode cX1_rowInto 1 = .ok (.aload_n 0, 1) := by decide +kernel
theorem dX1_rowInto_2 : decode cX1_rowInto 2 = .ok (.iload_n 1, 1) := by decide +kernel
theorem dX1_rowInto_3 : decode cX1_rowInto 3 = .ok (.invokevirtual 36, 3) := by decide +kernel
theorem dX1_rowInto_6 : decode cX1_rowInto 6 = .ok (.putfield 40, 3) := by decide +kernel
theorem dX1_rowInto_9 : decode cX1_rowInto 9 = .ok (.aload_n 2, 1) := by decide +kernel
theorem dX1_rowInto_10 : decode cX1_rowInto 10 = .ok (.aload_n 0, 1) := by decide +kernel
theorem dX1_rowInto_11 : decode cX1_rowInto 11 = .ok (.iload_n 1, 1) := by decide +kernel
theorem dX1_rowInto_12 : decode cX1_rowInto 12 = .ok (.invokevirtual 43, 3) := by decide +kernel
theorem dX1_rowInto_15 : decode cX1_rowInto 15 = .ok (.putfield 46, 3) := by decide +kernel
theorem dX1_rowInto_18 : decode cX1_rowInto 18 = .ok (.return_, 1) := by decide +kernel
theorem dX1_putRow_0 : decode cX1_putRow 0 = .ok (.aload_n 0, 1) := by decide +kernel
theorem dX1_putRow_1 : decode cX1_putRow 1 = .ok (.iload_n 1, 1) := by decide +kernel
theorem dX1_putRow_2 : decode cX1_putRow 2 = .ok (.aload_n 2, 1) := by decide +kernel
theorem dX1_putRow_3 : decode cX1_putRow 3 = .ok (.getfield 40, 3) := by decide +kernel
theorem dX1_putRow_6 : decode cX1_putRow 6 = .ok (.aload_n 2, 1) := by decide +kernel
theorem dX1_putRow_7 : decode cX1_putRow 7 = .ok (.getfield 46, 3) := by decide +kernel
theorem dX1_putRow_10 : decode cX1_putRow 10 = .ok (.invokevirtual 48, 3) := by decide +kernel
theorem dX1_putRow_13 : decode cX1_putRow 13 = .ok (.return_, 1) := by decide +kernel
theorem dX1_putWords_0 : decode cX1_putWords 0 = .ok (.iload_n 1, 1) := by decide +kernel
theorem dX1_putWords_1 : decode cX1_putWords 1 = .ok (.ifCond .lt 36, 3) := by decide +kernel
theorem dX1_putWords_4 : decode cX1_putWords 4 = .ok (.iload_n 1, 1) := by decide +kernel
theorem dX1_putWords_5 : decode cX1_putWords 5 = .ok (.aload_n 0, 1) := by decide +kernel
theorem dX1_putWords_6 : decode cX1_putWords 6 = .ok (.getfield 15, 3) := by decide +kernel
theorem dX1_putWords_9 : decode cX1_putWords 9 = .ok (.arraylength, 1) := by decide +kernel
theorem dX1_putWords_10 : decode cX1_putWords 10 = .ok (.if_icmp .ge 27, 3) := by decide +kernel
theorem dX1_putWords_13 : decode cX1_putWords 13 = .ok (.iload_n 1, 1) := by decide +kernel
theorem dX1_putWords_14 : decode cX1_putWords 14 = .ok (.aload_n 0, 1) := by decide +kernel
theorem dX1_putWords_15 : decode cX1_putWords 15 = .ok (.getfield 19, 3) := by decide +kernel
theorem dX1_putWords_18 : decode cX1_putWords 18 = .ok (.arraylength, 1) := by decide +kernel
theorem dX1_putWords_19 : decode cX1_putWords 19 = .ok (.if_icmp .ge 18, 3) := by decide +kernel
theorem dX1_putWords_22 : decode cX1_putWords 22 = .ok (.aload_n 0, 1) := by decide +kernel
theorem dX1_putWords_23 : decode cX1_putWords 23 = .ok (.getfield 15, 3) := by decide +kernel
theorem dX1_putWords_26 : decode cX1_putWords 26 = .ok (.iload_n 1, 1) := by decide +kernel
theorem dX1_putWords_27 : decode cX1_putWords 27 = .ok (.lload_n 2, 1) := by decide +kernel
theorem dX1_putWords_28 : decode cX1_putWords 28 = .ok (.lastore, 1) := by decide +kernel
theorem dX1_putWords_29 : decode cX1_putWords 29 = .ok (.aload_n 0, 1) := by decide +kernel
theorem dX1_putWords_30 : decode cX1_putWords 30 = .ok (.getfield 19, 3) := by decide +kernel
theorem dX1_putWords_33 : decode cX1_putWords 33 = .ok (.iload_n 1, 1) := by decide +kernel
theorem dX1_putWords_34 : decode cX1_putWords 34 = .ok (.lload 4, 2) := by decide +kernel
theorem dX1_putWords_36 : decode cX1_putWords 36 = .ok (.lastore, 1) := by decide +kernel
theorem dX1_putWords_37 : decode cX1_putWords 37 = .ok (.return_, 1) := by decide +kernel
theorem dX1_holds_0 : decode cX1_holds 0 = .ok (.iload_n 2, 1) := by decide +kernel
theorem dX1_holds_1 : decode cX1_holds 1 = .ok (.bipush 64, 2) := by decide +kernel
theorem dX1_holds_3 : decode cX1_holds 3 = .ok (.if_icmp .ge 13, 3) := by decide +kernel
theorem dX1_holds_6 : decode cX1_holds 6 = .ok (.aload_n 0, 1) := by decide +kernel
theorem dX1_holds_7 : decode cX1_holds 7 = .ok (.iload_n 1, 1) := by decide +kernel
theorem dX1_holds_8 : decode cX1_holds 8 = .ok (.invokevirtual 36, 3) := by decide +kernel
theorem dX1_holds_11 : decode cX1_holds 11 = .ok (.iload_n 2, 1) := by decide +kernel
theorem dX1_holds_12 : decode cX1_holds 12 = .ok (.lushr, 1) := by decide +kernel
theorem dX1_holds_13 : decode cX1_holds 13 = .ok (.goto 13, 3) := by decide +kernel
theorem dX1_holds_16 : decode cX1_holds 16 = .ok (.aload_n 0, 1) := by decide +kernel
theorem dX1_holds_17 : decode cX1_holds 17 = .ok (.iload_n 1, 1) := by decide +kernel
theorem dX1_holds_18 : decode cX1_holds 18 = .ok (.invokevirtual 43, 3) := by decide +kernel
theorem dX1_holds_21 : decode cX1_holds 21 = .ok (.iload_n 2, 1) := by decide +kernel
theorem dX1_holds_22 : decode cX1_holds 22 = .ok (.bipush 64, 2) := by decide +kernel
theorem dX1_holds_24 : decode cX1_holds 24 = .ok (.isub, 1) := by decide +kernel
theorem dX1_holds_25 : decode cX1_holds 25 = .ok (.lushr, 1) := by decide +kernel
theorem dX1_holds_26 : decode cX1_holds 26 = .ok (.lstore_n 3, 1) := by decide +kernel
theorem dX1_holds_27 : decode cX1_holds 27 = .ok (.lload_n 3, 1) := by decide +kernel
theorem dX1_holds_28 : decode cX1_holds 28 = .ok (.lconst 1, 1) := by decide +kernel
theorem dX1_holds_29 : decode cX1_holds 29 = .ok (.land, 1) := by decide +kernel
theorem dX1_holds_30 : decode cX1_holds 30 = .ok (.lconst 0, 1) := by decide +kernel
theorem dX1_holds_31 : decode cX1_holds 31 = .ok (.lcmp, 1) := by decide +kernel
theorem dX1_holds_32 : decode cX1_holds 32 = .ok (.ifCond .eq 7, 3) := by decide +kernel
theorem dX1_holds_35 : decode cX1_holds 35 = .ok (.iconst 1, 1) := by decide +kernel
theorem dX1_holds_36 : decode cX1_holds 36 = .ok (.goto 4, 3) := by decide +kernel
theorem dX1_holds_39 : decode cX1_holds 39 = .ok (.iconst 0, 1) := by decide +kernel
theorem dX1_holds_40 : decode cX1_holds 40 = .ok (.ireturn, 1) := by decide +kernel
theorem dX1_join_0 : decode cX1_join 0 = .ok (.aload_n 0, 1) := by decide +kernel
theorem dX1_join_1 : decode cX1_join 1 = .ok (.iload_n 1, 1) := by decide +kernel
theorem dX1_join_2 : decode cX1_join 2 = .ok (.aload_n 0, 1) := by decide +kernel
theorem dX1_join_3 : decode cX1_join 3 = .ok (.iload_n 1, 1) := by decide +kernel
theorem dX1_join_4 : decode cX1_join 4 = .ok (.invokevirtual 36, 3) := by decide +kernel
theorem dX1_join_7 : decode cX1_join 7 = .ok (.iload_n 2, 1) := by decide +kernel
theorem dX1_join_8 : decode cX1_join 8 = .ok (.iload_n 2, 1) := by decide +kernel
theorem dX1_join_9 : decode cX1_join 9 = .ok (.iconst 1, 1) := by decide +kernel
theorem dX1_join_10 : decode cX1_join 10 = .ok (.iadd, 1) := by decide +kernel
theorem dX1_join_11 : decode cX1_join 11 = .ok (.invokestatic 52, 3) := by decide +kernel
theorem dX1_join_14 : decode cX1_join 14 = .ok (.lor, 1) := by decide +kernel
theorem dX1_join_15 : decode cX1_join 15 = .ok (.aload_n 0, 1) := by decide +kernel
theorem dX1_join_16 : decode cX1_join 16 = .ok (.iload_n 1, 1) := by decide +kernel
theorem dX1_join_17 : decode cX1_join 17 = .ok (.invokevirtual 43, 3) := by decide +kernel
theorem dX1_join_20 : decode cX1_join 20 = .ok (.iload_n 2, 1) := by decide +kernel
theorem dX1_join_21 : decode cX1_join 21 = .ok (.iload_n 2, 1) := by decide +kernel
theorem dX1_join_22 : decode cX1_join 22 = .ok (.iconst 1, 1) := by decide +kernel
theorem dX1_join_23 : decode cX1_join 23 = .ok (.iadd, 1) := by decide +kernel
theorem dX1_join_24 : decode cX1_join 24 = .ok (.invokestatic 56, 3) := by decide +kernel
theorem dX1_join_27 : decode cX1_join 27 = .ok (.lor, 1) := by decide +kernel
theorem dX1_join_28 : decode cX1_join 28 = .ok (.invokevirtual 48, 3) := by decide +kernel
theorem dX1_join_31 : decode cX1_join 31 = .ok (.return_, 1) := by decide +kernel
theorem dX1_joinOwn_0 : decode cX1_joinOwn 0 = .ok (.iconst 0, 1) := by decide +kernel
theorem dX1_joinOwn_1 : decode cX1_joinOwn 1 = .ok (.istore_n 1, 1) := by decide +kernel
theorem dX1_joinOwn_2 : decode cX1_joinOwn 2 = .ok (.iload_n 1, 1) := by decide +kernel
theorem dX1_joinOwn_3 : decode cX1_joinOwn 3 = .ok (.aload_n 0, 1) := by decide +kernel
theorem dX1_joinOwn_4 : decode cX1_joinOwn 4 = .ok (.getfield 9, 3) := by decide +kernel
theorem dX1_joinOwn_7 : decode cX1_joinOwn 7 = .ok (.if_icmp .ge 15, 3) := by decide +kernel
theorem dX1_joinOwn_10 : decode cX1_joinOwn 10 = .ok (.aload_n 0, 1) := by decide +kernel
theorem dX1_joinOwn_11 : decode cX1_joinOwn 11 = .ok (.iload_n 1, 1) := by decide +kernel
theorem dX1_joinOwn_12 : decode cX1_joinOwn 12 = .ok (.iload_n 1, 1) := by decide +kernel
theorem dX1_joinOwn_13 : decode cX1_joinOwn 13 = .ok (.invokevirtual 59, 3) := by decide +kernel
theorem dX1_joinOwn_16 : decode cX1_joinOwn 16 = .ok (.iinc 1 1, 3) := by decide +kernel
theorem dX1_joinOwn_19 : decode cX1_joinOwn 19 = .ok (.goto (-17), 3) := by decide +kernel
theorem dX1_joinOwn_22 : decode cX1_joinOwn 22 = .ok (.return_, 1) := by decide +kernel
theorem dX1_sizeOf_0 : decode cX1_sizeOf 0 = .ok (.aload_n 0, 1) := by decide +kernel
theorem dX1_sizeOf_1 : decode cX1_sizeOf 1 = .ok (.iload_n 1, 1) := by decide +kernel
theorem dX1_sizeOf_2 : decode cX1_sizeOf 2 = .ok (.invokevirtual 36, 3) := by decide +kernel
theorem dX1_sizeOf_5 : decode cX1_sizeOf 5 = .ok (.invokestatic 63, 3) := by decide +kernel
theorem dX1_sizeOf_8 : decode cX1_sizeOf 8 = .ok (.aload_n 0, 1) := by decide +kernel
theorem dX1_sizeOf_9 : decode cX1_sizeOf 9 = .ok (.iload_n 1, 1) := by decide +kernel
theorem dX1_sizeOf_10 : decode cX1_sizeOf 10 = .ok (.invokevirtual 43, 3) := by decide +kernel
theorem dX1_sizeOf_13 : decode cX1_sizeOf 13 = .ok (.invokestatic 63, 3) := by decide +kernel
theorem dX1_sizeOf_16 : decode cX1_sizeOf 16 = .ok (.iadd, 1) := by decide +kernel
theorem dX1_sizeOf_17 : decode cX1_sizeOf 17 = .ok (.ireturn, 1) := by decide +kernel
theorem dX1_pairs_0 : decode cX1_pairs 0 = .ok (.iconst 0, 1) := by decide +kernel
theorem dX1_pairs_1 : decode cX1_pairs 1 = .ok (.istore_n 1, 1) := by decide +kernel
theorem dX1_pairs_2 : decode cX1_pairs 2 = .ok (.iconst 0, 1) := by decide +kernel
theorem dX1_pairs_3 : decode cX1_pairs 3 = .ok (.istore_n 2, 1) := by decide +kernel
theorem dX1_pairs_4 : decode cX1_pairs 4 = .ok (.iload_n 2, 1) := by decide +kernel
theorem dX1_pairs_5 : decode cX1_pairs 5 = .ok (.aload_n 0, 1) := by decide +kernel
theorem dX1_pairs_6 : decode cX1_pairs 6 = .ok (.getfield 9, 3) := by decide +kernel
theorem dX1_pairs_9 : decode cX1_pairs 9 = .ok (.if_icmp .ge 17, 3) := by decide +kernel
theorem dX1_pairs_12 : decode cX1_pairs 12 = .ok (.iload_n 1, 1) := by decide +kernel
theorem dX1_pairs_13 : decode cX1_pairs 13 = .ok (.aload_n 0, 1) := by decide +kernel
theorem dX1_pairs_14 : decode cX1_pairs 14 = .ok (.iload_n 2, 1) := by decide +kernel
theorem dX1_pairs_15 : decode cX1_pairs 15 = .ok (.invokevirtual 69, 3) := by decide +kernel
theorem dX1_pairs_18 : decode cX1_pairs 18 = .ok (.iadd, 1) := by decide +kernel
theorem dX1_pairs_19 : decode cX1_pairs 19 = .ok (.istore_n 1, 1) := by decide +kernel
theorem dX1_pairs_20 : decode cX1_pairs 20 = .ok (.iinc 2 1, 3) := by decide +kernel
theorem dX1_pairs_23 : decode cX1_pairs 23 = .ok (.goto (-19), 3) := by decide +kernel
theorem dX1_pairs_26 : decode cX1_pairs 26 = .ok (.iload_n 1, 1) := by decide +kernel
theorem dX1_pairs_27 : decode cX1_pairs 27 = .ok (.ireturn, 1) := by decide +kernel
theorem dX1_ownPairs_0 : decode cX1_ownPairs 0 = .ok (.iconst 0, 1) := by decide +kernel
theorem dX1_ownPairs_1 : decode cX1_ownPairs 1 = .ok (.istore_n 1, 1) := by decide +kernel
theorem dX1_ownPairs_2 : decode cX1_ownPairs 2 = .ok (.iconst 0, 1) := by decide +kernel
theorem dX1_ownPairs_3 : decode cX1_ownPairs 3 = .ok (.istore_n 2, 1) := by decide +kernel
theorem dX1_ownPairs_4 : decode cX1_ownPairs 4 = .ok (.iload_n 2, 1) := by decide +kernel
theorem dX1_ownPairs_5 : decode cX1_ownPairs 5 = .ok (.aload_n 0, 1) := by decide +kernel
theorem dX1_ownPairs_6 : decode cX1_ownPairs 6 = .ok (.getfield 9, 3) := by decide +kernel
theorem dX1_ownPairs_9 : decode cX1_ownPairs 9 = .ok (.if_icmp .ge 21, 3) := by decide +kernel
theorem dX1_ownPairs_12 : decode cX1_ownPairs 12 = .ok (.aload_n 0, 1) := by decide +kernel
theorem dX1_ownPairs_13 : decode cX1_ownPairs 13 = .ok (.iload_n 2, 1) := by decide +kernel
theorem dX1_ownPairs_14 : decode cX1_ownPairs 14 = .ok (.iload_n 2, 1) := by decide +kernel
theorem dX1_ownPairs_15 : decode cX1_ownPairs 15 = .ok (.invokevirtual 73, 3) := by decide +kernel
theorem dX1_ownPairs_18 : decode cX1_ownPairs 18 = .ok (.ifCond .eq 6, 3) := by decide +kernel
theorem dX1_ownPairs_21 : decode cX1_ownPairs 21 = .ok (.iinc 1 1, 3) := by decide +kernel
theorem dX1_ownPairs_24 : decode cX1_ownPairs 24 = .ok (.iinc 2 1, 3) := by decide +kernel
theorem dX1_ownPairs_27 : decode cX1_ownPairs 27 = .ok (.goto (-23), 3) := by decide +kernel
theorem dX1_ownPairs_30 : decode cX1_ownPairs 30 = .ok (.iload_n 1, 1) := by decide +kernel
theorem dX1_ownPairs_31 : decode cX1_ownPairs 31 = .ok (.ireturn, 1) := by decide +kernel
theorem dX1_take_0 : decode cX1_take 0 = .ok (.aload_n 0, 1) := by decide +kernel
theorem dX1_take_1 : decode cX1_take 1 = .ok (.aload_n 1, 1) := by decide +kernel
theorem dX1_take_2 : decode cX1_take 2 = .ok (.getfield 9, 3) := by decide +kernel
theorem dX1_take_5 : decode cX1_take 5 = .ok (.putfield 9, 3) := by decide +kernel
theorem dX1_take_8 : decode cX1_take 8 = .ok (.iconst 0, 1) := by decide +kernel
theorem dX1_take_9 : decode cX1_take 9 = .ok (.istore_n 2, 1) := by decide +kernel
theorem dX1_take_10 : decode cX1_take 10 = .ok (.iload_n 2, 1) := by decide +kernel
theorem dX1_take_11 : decode cX1_take 11 = .ok (.aload_n 0, 1) := by decide +kernel
theorem dX1_take_12 : decode cX1_take 12 = .ok (.getfield 9, 3) := by decide +kernel
theorem dX1_take_15 : decode cX1_take 15 = .ok (.if_icmp .ge 24, 3) := by decide +kernel
theorem dX1_take_18 : decode cX1_take 18 = .ok (.aload_n 0, 1) := by decide +kernel
theorem dX1_take_19 : decode cX1_take 19 = .ok (.iload_n 2, 1) := by decide +kernel
theorem dX1_take_20 : decode cX1_take 20 = .ok (.aload_n 1, 1) := by decide +kernel
theorem dX1_take_21 : decode cX1_take 21 = .ok (.iload_n 2, 1) := by decide +kernel
theorem dX1_take_22 : decode cX1_take 22 = .ok (.invokevirtual 36, 3) := by decide +kernel
theorem dX1_take_25 : decode cX1_take 25 = .ok (.aload_n 1, 1) := by decide +kernel
theorem dX1_take_26 : decode cX1_take 26 = .ok (.iload_n 2, 1) := by decide +kernel
theorem dX1_take_27 : decode cX1_take 27 = .ok (.invokevirtual 43, 3) := by decide +kernel
theorem dX1_take_30 : decode cX1_take 30 = .ok (.invokevirtual 48, 3) := by decide +kernel
theorem dX1_take_33 : decode cX1_take 33 = .ok (.iinc 2 1, 3) := by decide +kernel
theorem dX1_take_36 : decode cX1_take 36 = .ok (.goto (-26), 3) := by decide +kernel
theorem dX1_take_39 : decode cX1_take 39 = .ok (.return_, 1) := by decide +kernel
theorem dX1_mix_0 : decode cX1_mix 0 = .ok (.iconst 0, 1) := by decide +kernel
theorem dX1_mix_1 : decode cX1_mix 1 = .ok (.istore_n 3, 1) := by decide +kernel
theorem dX1_mix_2 : decode cX1_mix 2 = .ok (.iload_n 3, 1) := by decide +kernel
theorem dX1_mix_3 : decode cX1_mix 3 = .ok (.aload_n 0, 1) := by decide +kernel
theorem dX1_mix_4 : decode cX1_mix 4 = .ok (.getfield 9, 3) := by decide +kernel
theorem dX1_mix_7 : decode cX1_mix 7 = .ok (.if_icmp .ge 42, 3) := by decide +kernel
theorem dX1_mix_10 : decode cX1_mix 10 = .ok (.aload_n 0, 1) := by decide +kernel
theorem dX1_mix_11 : decode cX1_mix 11 = .ok (.iload_n 3, 1) := by decide +kernel
theorem dX1_mix_12 : decode cX1_mix 12 = .ok (.aload_n 0, 1) := by decide +kernel
theorem dX1_mix_13 : decode cX1_mix 13 = .ok (.iload_n 3, 1) := by decide +kernel
theorem dX1_mix_14 : decode cX1_mix 14 = .ok (.invokevirtual 36, 3) := by decide +kernel
theorem dX1_mix_17 : decode cX1_mix 17 = .ok (.aload_n 1, 1) := by decide +kernel
theorem dX1_mix_18 : decode cX1_mix 18 = .ok (.iload_n 3, 1) := by decide +kernel
theorem dX1_mix_19 : decode cX1_mix 19 = .ok (.invokevirtual 36, 3) := by decide +kernel
theorem dX1_mix_22 : decode cX1_mix 22 = .ok (.iload_n 2, 1) := by decide +kernel
theorem dX1_mix_23 : decode cX1_mix 23 = .ok (.invokestatic 77, 3) := by decide +kernel
theorem dX1_mix_26 : decode cX1_mix 26 = .ok (.aload_n 0, 1) := by decide +kernel
theorem dX1_mix_27 : decode cX1_mix 27 = .ok (.iload_n 3, 1) := by decide +kernel
theorem dX1_mix_28 : decode cX1_mix 28 = .ok (.invokevirtual 43, 3) := by decide +kernel
theorem dX1_mix_31 : decode cX1_mix 31 = .ok (.aload_n 1, 1) := by decide +kernel
theorem dX1_mix_32 : decode cX1_mix 32 = .ok (.iload_n 3, 1) := by decide +kernel
theorem dX1_mix_33 : decode cX1_mix 33 = .ok (.invokevirtual 43, 3) := by decide +kernel
theorem dX1_mix_36 : decode cX1_mix 36 = .ok (.iload_n 2, 1) := by decide +kernel
theorem dX1_mix_37 : decode cX1_mix 37 = .ok (.invokestatic 77, 3) := by decide +kernel
theorem dX1_mix_40 : decode cX1_mix 40 = .ok (.invokevirtual 48, 3) := by decide +kernel
theorem dX1_mix_43 : decode cX1_mix 43 = .ok (.iinc 3 1, 3) := by decide +kernel
theorem dX1_mix_46 : decode cX1_mix 46 = .ok (.goto (-44), 3) := by decide +kernel
theorem dX1_mix_49 : decode cX1_mix 49 = .ok (.return_, 1) := by decide +kernel
theorem dX1_mixed_0 : decode cX1_mixed 0 = .ok (.iload 4, 2) := by decide +kernel
theorem dX1_mixed_2 : decode cX1_mixed 2 = .ok (.tableswitch 42 0 2 #[26, 30, 34], 26) := by decide +kernel
theorem dX1_mixed_28 : decode cX1_mixed 28 = .ok (.lload_n 0, 1) := by decide +kernel
theorem dX1_mixed_29 : decode cX1_mixed 29 = .ok (.lload_n 2, 1) := by decide +kernel
theorem dX1_mixed_30 : decode cX1_mixed 30 = .ok (.lor, 1) := by decide +kernel
theorem dX1_mixed_31 : decode cX1_mixed 31 = .ok (.lreturn, 1) := by decide +kernel
theorem dX1_mixed_32 : decode cX1_mixed 32 = .ok (.lload_n 0, 1) := by decide +kernel
theorem dX1_mixed_33 : decode cX1_mixed 33 = .ok (.lload_n 2, 1) := by decide +kernel
theorem dX1_mixed_34 : decode cX1_mixed 34 = .ok (.land, 1) := by decide +kernel
theorem dX1_mixed_35 : decode cX1_mixed 35 = .ok (.lreturn, 1) := by decide +kernel
theorem dX1_mixed_36 : decode cX1_mixed 36 = .ok (.lload_n 0, 1) := by decide +kernel
theorem dX1_mixed_37 : decode cX1_mixed 37 = .ok (.lload_n 2, 1) := by decide +kernel
theorem dX1_mixed_38 : decode cX1_mixed 38 = .ok (.ldc2_w 81, 3) := by decide +kernel
theorem dX1_mixed_41 : decode cX1_mixed 41 = .ok (.lxor, 1) := by decide +kernel
theorem dX1_mixed_42 : decode cX1_mixed 42 = .ok (.land, 1) := by decide +kernel
theorem dX1_mixed_43 : decode cX1_mixed 43 = .ok (.lreturn, 1) := by decide +kernel
theorem dX1_mixed_44 : decode cX1_mixed 44 = .ok (.lload_n 0, 1) := by decide +kernel
theorem dX1_mixed_45 : decode cX1_mixed 45 = .ok (.lload_n 2, 1) := by decide +kernel
theorem dX1_mixed_46 : decode cX1_mixed 46 = .ok (.lxor, 1) := by decide +kernel
theorem dX1_mixed_47 : decode cX1_mixed 47 = .ok (.lreturn, 1) := by decide +kernel
theorem dX1_product_0 : decode cX1_product 0 = .ok (.aload_n 0, 1) := by decide +kernel
theorem dX1_product_1 : decode cX1_product 1 = .ok (.aload_n 1, 1) := by decide +kernel
theorem dX1_product_2 : decode cX1_product 2 = .ok (.getfield 9, 3) := by decide +kernel
theorem dX1_product_5 : decode cX1_product 5 = .ok (.putfield 9, 3) := by decide +kernel
theorem dX1_product_8 : decode cX1_product 8 = .ok (.iconst 0, 1) := by decide +kernel
theorem dX1_product_9 : decode cX1_product 9 = .ok (.istore_n 3, 1) := by decide +kernel
theorem dX1_product_10 : decode cX1_product 10 = .ok (.iload_n 3, 1) := by decide +kernel
theorem dX1_product_11 : decode cX1_product 11 = .ok (.aload_n 0, 1) := by decide +kernel
theorem dX1_product_12 : decode cX1_product 12 = .ok (.getfield 9, 3) := by decide +kernel
theorem dX1_product_15 : decode cX1_product 15 = .ok (.if_icmp .ge 39, 3) := by decide +kernel
theorem dX1_product_18 : decode cX1_product 18 = .ok (.aload_n 1, 1) := by decide +kernel
theorem dX1_product_19 : decode cX1_product 19 = .ok (.iload_n 3, 1) := by decide +kernel
theorem dX1_product_20 : decode cX1_product 20 = .ok (.aload_n 0, 1) := by decide +kernel
theorem dX1_product_21 : decode cX1_product 21 = .ok (.getfield 25, 3) := by decide +kernel
theorem dX1_product_24 : decode cX1_product 24 = .ok (.invokevirtual 83, 3) := by decide +kernel
theorem dX1_product_27 : decode cX1_product 27 = .ok (.aload_n 2, 1) := by decide +kernel
theorem dX1_product_28 : decode cX1_product 28 = .ok (.aload_n 0, 1) := by decide +kernel
theorem dX1_product_29 : decode cX1_product 29 = .ok (.getfield 25, 3) := by decide +kernel
theorem dX1_product_32 : decode cX1_product 32 = .ok (.aload_n 0, 1) := by decide +kernel
theorem dX1_product_33 : decode cX1_product 33 = .ok (.getfield 25, 3) := by decide +kernel
theorem dX1_product_36 : decode cX1_product 36 = .ok (.invokevirtual 86, 3) := by decide +kernel
theorem dX1_product_39 : decode cX1_product 39 = .ok (.aload_n 0, 1) := by decide +kernel
theorem dX1_product_40 : decode cX1_product 40 = .ok (.iload_n 3, 1) := by decide +kernel
theorem dX1_product_41 : decode cX1_product 41 = .ok (.aload_n 0, 1) := by decide +kernel
theorem dX1_product_42 : decode cX1_product 42 = .ok (.getfield 25, 3) := by decide +kernel
theorem dX1_product_45 : decode cX1_product 45 = .ok (.invokevirtual 32, 3) := by decide +kernel
theorem dX1_product_48 : decode cX1_product 48 = .ok (.iinc 3 1, 3) := by decide +kernel
theorem dX1_product_51 : decode cX1_product 51 = .ok (.goto (-41), 3) := by decide +kernel
theorem dX1_product_54 : decode cX1_product 54 = .ok (.return_, 1) := by decide +kernel
theorem dX1_takeCovers_0 : decode cX1_takeCovers 0 = .ok (.aload_n 0, 1) := by decide +kernel
theorem dX1_takeCovers_1 : decode cX1_takeCovers 1 = .ok (.aload_n 1, 1) := by decide +kernel
theorem dX1_takeCovers_2 : decode cX1_takeCovers 2 = .ok (.getfield 9, 3) := by decide +kernel
theorem dX1_takeCovers_5 : decode cX1_takeCovers 5 = .ok (.putfield 9, 3) := by decide +kernel
theorem dX1_takeCovers_8 : decode cX1_takeCovers 8 = .ok (.iconst 0, 1) := by decide +kernel
theorem dX1_takeCovers_9 : decode cX1_takeCovers 9 = .ok (.istore_n 2, 1) := by decide +kernel
theorem dX1_takeCovers_10 : decode cX1_takeCovers 10 = .ok (.iload_n 2, 1) := by decide +kernel
theorem dX1_takeCovers_11 : decode cX1_takeCovers 11 = .ok (.aload_n 0, 1) := by decide +kernel
theorem dX1_takeCovers_12 : decode cX1_takeCovers 12 = .ok (.getfield 9, 3) := by decide +kernel
theorem dX1_takeCovers_15 : decode cX1_takeCovers 15 = .ok (.if_icmp .ge 69, 3) := by decide +kernel
theorem dX1_takeCovers_18 : decode cX1_takeCovers 18 = .ok (.aload_n 1, 1) := by decide +kernel
theorem dX1_takeCovers_19 : decode cX1_takeCovers 19 = .ok (.iload_n 2, 1) := by decide +kernel
theorem dX1_takeCovers_20 : decode cX1_takeCovers 20 = .ok (.aload_n 0, 1) := by decide +kernel
theorem dX1_takeCovers_21 : decode cX1_takeCovers 21 = .ok (.getfield 25, 3) := by decide +kernel
theorem dX1_takeCovers_24 : decode cX1_takeCovers 24 = .ok (.invokevirtual 83, 3) := by decide +kernel
theorem dX1_takeCovers_27 : decode cX1_takeCovers 27 = .ok (.aload_n 1, 1) := by decide +kernel
theorem dX1_takeCovers_28 : decode cX1_takeCovers 28 = .ok (.aload_n 0, 1) := by decide +kernel
theorem dX1_takeCovers_29 : decode cX1_takeCovers 29 = .ok (.getfield 25, 3) := by decide +kernel
theorem dX1_takeCovers_32 : decode cX1_takeCovers 32 = .ok (.aload_n 0, 1) := by decide +kernel
theorem dX1_takeCovers_33 : decode cX1_takeCovers 33 = .ok (.getfield 25, 3) := by decide +kernel
theorem dX1_takeCovers_36 : decode cX1_takeCovers 36 = .ok (.invokevirtual 86, 3) := by decide +kernel
theorem dX1_takeCovers_39 : decode cX1_takeCovers 39 = .ok (.aload_n 0, 1) := by decide +kernel
theorem dX1_takeCovers_40 : decode cX1_takeCovers 40 = .ok (.iload_n 2, 1) := by decide +kernel
theorem dX1_takeCovers_41 : decode cX1_takeCovers 41 = .ok (.aload_n 1, 1) := by decide +kernel
theorem dX1_takeCovers_42 : decode cX1_takeCovers 42 = .ok (.iload_n 2, 1) := by decide +kernel
theorem dX1_takeCovers_43 : decode cX1_takeCovers 43 = .ok (.invokevirtual 36, 3) := by decide +kernel
theorem dX1_takeCovers_46 : decode cX1_takeCovers 46 = .ok (.aload_n 0, 1) := by decide +kernel
theorem dX1_takeCovers_47 : decode cX1_takeCovers 47 = .ok (.getfield 25, 3) := by decide +kernel
theorem dX1_takeCovers_50 : decode cX1_takeCovers 50 = .ok (.getfield 40, 3) := by decide +kernel
theorem dX1_takeCovers_53 : decode cX1_takeCovers 53 = .ok (.ldc2_w 81, 3) := by decide +kernel
theorem dX1_takeCovers_56 : decode cX1_takeCovers 56 = .ok (.lxor, 1) := by decide +kernel
theorem dX1_takeCovers_57 : decode cX1_takeCovers 57 = .ok (.land, 1) := by decide +kernel
theorem dX1_takeCovers_58 : decode cX1_takeCovers 58 = .ok (.aload_n 1, 1) := by decide +kernel
theorem dX1_takeCovers_59 : decode cX1_takeCovers 59 = .ok (.iload_n 2, 1) := by decide +kernel
theorem dX1_takeCovers_60 : decode cX1_takeCovers 60 = .ok (.invokevirtual 43, 3) := by decide +kernel
theorem dX1_takeCovers_63 : decode cX1_takeCovers 63 = .ok (.aload_n 0, 1) := by decide +kernel
theorem dX1_takeCovers_64 : decode cX1_takeCovers 64 = .ok (.getfield 25, 3) := by decide +kernel
theorem dX1_takeCovers_67 : decode cX1_takeCovers 67 = .ok (.getfield 46, 3) := by decide +kernel
theorem dX1_takeCovers_70 : decode cX1_takeCovers 70 = .ok (.ldc2_w 81, 3) := by decide +kernel
theorem dX1_takeCovers_73 : decode cX1_takeCovers 73 = .ok (.lxor, 1) := by decide +kernel
theorem dX1_takeCovers_74 : decode cX1_takeCovers 74 = .ok (.land, 1) := by decide +kernel
theorem dX1_takeCovers_75 : decode cX1_takeCovers 75 = .ok (.invokevirtual 48, 3) := by decide +kernel
theorem dX1_takeCovers_78 : decode cX1_takeCovers 78 = .ok (.iinc 2 1, 3) := by decide +kernel
theorem dX1_takeCovers_81 : decode cX1_takeCovers 81 = .ok (.goto (-71), 3) := by decide +kernel
theorem dX1_takeCovers_84 : decode cX1_takeCovers 84 = .ok (.return_, 1) := by decide +kernel
theorem dX1_reverse_0 : decode cX1_reverse 0 = .ok (.iconst 1, 1) := by decide +kernel
theorem dX1_reverse_1 : decode cX1_reverse 1 = .ok (.istore_n 1, 1) := by decide +kernel
theorem dX1_reverse_2 : decode cX1_reverse 2 = .ok (.iload_n 1, 1) := by decide +kernel
theorem dX1_reverse_3 : decode cX1_reverse 3 = .ok (.aload_n 0, 1) := by decide +kernel
theorem dX1_reverse_4 : decode cX1_reverse 4 = .ok (.getfield 9, 3) := by decide +kernel
theorem dX1_reverse_7 : decode cX1_reverse 7 = .ok (.if_icmp .ge 49, 3) := by decide +kernel
theorem dX1_reverse_10 : decode cX1_reverse 10 = .ok (.iconst 0, 1) := by decide +kernel
theorem dX1_reverse_11 : decode cX1_reverse 11 = .ok (.istore_n 2, 1) := by decide +kernel
theorem dX1_reverse_12 : decode cX1_reverse 12 = .ok (.iload_n 2, 1) := by decide +kernel
theorem dX1_reverse_13 : decode cX1_reverse 13 = .ok (.iload_n 1, 1) := by decide +kernel
theorem dX1_reverse_14 : decode cX1_reverse 14 = .ok (.if_icmp .ge 36, 3) := by decide +kernel
theorem dX1_reverse_17 : decode cX1_reverse 17 = .ok (.aload_n 0, 1) := by decide +kernel
theorem dX1_reverse_18 : decode cX1_reverse 18 = .ok (.iload_n 1, 1) := by decide +kernel
theorem dX1_reverse_19 : decode cX1_reverse 19 = .ok (.iload_n 2, 1) := by decide +kernel
theorem dX1_reverse_20 : decode cX1_reverse 20 = .ok (.invokevirtual 73, 3) := by decide +kernel
theorem dX1_reverse_23 : decode cX1_reverse 23 = .ok (.aload_n 0, 1) := by decide +kernel
theorem dX1_reverse_24 : decode cX1_reverse 24 = .ok (.iload_n 2, 1) := by decide +kernel
theorem dX1_reverse_25 : decode cX1_reverse 25 = .ok (.iload_n 1, 1) := by decide +kernel
theorem dX1_reverse_26 : decode cX1_reverse 26 = .ok (.invokevirtual 73, 3) := by decide +kernel
theorem dX1_reverse_29 : decode cX1_reverse 29 = .ok (.if_icmp .eq 15, 3) := by decide +kernel
theorem dX1_reverse_32 : decode cX1_reverse 32 = .ok (.aload_n 0, 1) := by decide +kernel
theorem dX1_reverse_33 : decode cX1_reverse 33 = .ok (.iload_n 1, 1) := by decide +kernel
theorem dX1_reverse_34 : decode cX1_reverse 34 = .ok (.iload_n 2, 1) := by decide +kernel
theorem dX1_reverse_35 : decode cX1_reverse 35 = .ok (.invokevirtual 90, 3) := by decide +kernel
theorem dX1_reverse_38 : decode cX1_reverse 38 = .ok (.aload_n 0, 1) := by decide +kernel
theorem dX1_reverse_39 : decode cX1_reverse 39 = .ok (.iload_n 2, 1) := by decide +kernel
theorem dX1_reverse_40 : decode cX1_reverse 40 = .ok (.iload_n 1, 1) := by decide +kernel
theorem dX1_reverse_41 : decode cX1_reverse 41 = .ok (.invokevirtual 90, 3) := by decide +kernel
theorem dX1_reverse_44 : decode cX1_reverse 44 = .ok (.iinc 2 1, 3) := by decide +kernel
theorem dX1_reverse_47 : decode cX1_reverse 47 = .ok (.goto (-35), 3) := by decide +kernel
theorem dX1_reverse_50 : decode cX1_reverse 50 = .ok (.iinc 1 1, 3) := by decide +kernel
theorem dX1_reverse_53 : decode cX1_reverse 53 = .ok (.goto (-51), 3) := by decide +kernel
theorem dX1_reverse_56 : decode cX1_reverse 56 = .ok (.return_, 1) := by decide +kernel
theorem dX1_swapPair_0 : decode cX1_swapPair 0 = .ok (.aload_n 0, 1) := by decide +kernel
theorem dX1_swapPair_1 : decode cX1_swapPair 1 = .ok (.iload_n 1, 1) := by decide +kernel
theorem dX1_swapPair_2 : decode cX1_swapPair 2 = .ok (.aload_n 0, 1) := by decide +kernel
theorem dX1_swapPair_3 : decode cX1_swapPair 3 = .ok (.iload_n 1, 1) := by decide +kernel
theorem dX1_swapPair_4 : decode cX1_swapPair 4 = .ok (.invokevirtual 36, 3) := by decide +kernel
theorem dX1_swapPair_7 : decode cX1_swapPair 7 = .ok (.iload_n 2, 1) := by decide +kernel
theorem dX1_swapPair_8 : decode cX1_swapPair 8 = .ok (.iload_n 2, 1) := by decide +kernel
theorem dX1_swapPair_9 : decode cX1_swapPair 9 = .ok (.iconst 1, 1) := by decide +kernel
theorem dX1_swapPair_10 : decode cX1_swapPair 10 = .ok (.iadd, 1) := by decide +kernel
theorem dX1_swapPair_11 : decode cX1_swapPair 11 = .ok (.invokestatic 52, 3) := by decide +kernel
theorem dX1_swapPair_14 : decode cX1_swapPair 14 = .ok (.lxor, 1) := by decide +kernel
theorem dX1_swapPair_15 : decode cX1_swapPair 15 = .ok (.aload_n 0, 1) := by decide +kernel
theorem dX1_swapPair_16 : decode cX1_swapPair 16 = .ok (.iload_n 1, 1) := by decide +kernel
theorem dX1_swapPair_17 : decode cX1_swapPair 17 = .ok (.invokevirtual 43, 3) := by decide +kernel
theorem dX1_swapPair_20 : decode cX1_swapPair 20 = .ok (.iload_n 2, 1) := by decide +kernel
theorem dX1_swapPair_21 : decode cX1_swapPair 21 = .ok (.iload_n 2, 1) := by decide +kernel
theorem dX1_swapPair_22 : decode cX1_swapPair 22 = .ok (.iconst 1, 1) := by decide +kernel
theorem dX1_swapPair_23 : decode cX1_swapPair 23 = .ok (.iadd, 1) := by decide +kernel
theorem dX1_swapPair_24 : decode cX1_swapPair 24 = .ok (.invokestatic 56, 3) := by decide +kernel
theorem dX1_swapPair_27 : decode cX1_swapPair 27 = .ok (.lxor, 1) := by decide +kernel
theorem dX1_swapPair_28 : decode cX1_swapPair 28 = .ok (.invokevirtual 48, 3) := by decide +kernel
theorem dX1_swapPair_31 : decode cX1_swapPair 31 = .ok (.return_, 1) := by decide +kernel
theorem dX1_invert_0 : decode cX1_invert 0 = .ok (.iconst 0, 1) := by decide +kernel
theorem dX1_invert_1 : decode cX1_invert 1 = .ok (.istore_n 1, 1) := by decide +kernel
theorem dX1_invert_2 : decode cX1_invert 2 = .ok (.iload_n 1, 1) := by decide +kernel
theorem dX1_invert_3 : decode cX1_invert 3 = .ok (.aload_n 0, 1) := by decide +kernel
theorem dX1_invert_4 : decode cX1_invert 4 = .ok (.getfield 9, 3) := by decide +kernel
theorem dX1_invert_7 : decode cX1_invert 7 = .ok (.if_icmp .ge 39, 3) := by decide +kernel
theorem dX1_invert_10 : decode cX1_invert 10 = .ok (.aload_n 0, 1) := by decide +kernel
theorem dX1_invert_11 : decode cX1_invert 11 = .ok (.iload_n 1, 1) := by decide +kernel
theorem dX1_invert_12 : decode cX1_invert 12 = .ok (.aload_n 0, 1) := by decide +kernel
theorem dX1_invert_13 : decode cX1_invert 13 = .ok (.getfield 25, 3) := by decide +kernel
theorem dX1_invert_16 : decode cX1_invert 16 = .ok (.invokevirtual 83, 3) := by decide +kernel
theorem dX1_invert_19 : decode cX1_invert 19 = .ok (.aload_n 0, 1) := by decide +kernel
theorem dX1_invert_20 : decode cX1_invert 20 = .ok (.getfield 25, 3) := by decide +kernel
theorem dX1_invert_23 : decode cX1_invert 23 = .ok (.iconst 0, 1) := by decide +kernel
theorem dX1_invert_24 : decode cX1_invert 24 = .ok (.aload_n 0, 1) := by decide +kernel
theorem dX1_invert_25 : decode cX1_invert 25 = .ok (.getfield 9, 3) := by decide +kernel
theorem dX1_invert_28 : decode cX1_invert 28 = .ok (.invokevirtual 93, 3) := by decide +kernel
theorem dX1_invert_31 : decode cX1_invert 31 = .ok (.aload_n 0, 1) := by decide +kernel
theorem dX1_invert_32 : decode cX1_invert 32 = .ok (.iload_n 1, 1) := by decide +kernel
theorem dX1_invert_33 : decode cX1_invert 33 = .ok (.aload_n 0, 1) := by decide +kernel
theorem dX1_invert_34 : decode cX1_invert 34 = .ok (.getfield 25, 3) := by decide +kernel
theorem dX1_invert_37 : decode cX1_invert 37 = .ok (.invokevirtual 32, 3) := by decide +kernel
theorem dX1_invert_40 : decode cX1_invert 40 = .ok (.iinc 1 1, 3) := by decide +kernel
theorem dX1_invert_43 : decode cX1_invert 43 = .ok (.goto (-41), 3) := by decide +kernel
theorem dX1_invert_46 : decode cX1_invert 46 = .ok (.return_, 1) := by decide +kernel
theorem dX1_closeUp_0 : decode cX1_closeUp 0 = .ok (.iconst 0, 1) := by decide +kernel
theorem dX1_closeUp_1 : decode cX1_closeUp 1 = .ok (.istore_n 1, 1) := by decide +kernel
theorem dX1_closeUp_2 : decode cX1_closeUp 2 = .ok (.iload_n 1, 1) := by decide +kernel
theorem dX1_closeUp_3 : decode cX1_closeUp 3 = .ok (.aload_n 0, 1) := by decide +kernel
theorem dX1_closeUp_4 : decode cX1_closeUp 4 = .ok (.getfield 9, 3) := by decide +kernel
theorem dX1_closeUp_7 : decode cX1_closeUp 7 = .ok (.if_icmp .ge 73, 3) := by decide +kernel
theorem dX1_closeUp_10 : decode cX1_closeUp 10 = .ok (.aload_n 0, 1) := by decide +kernel
theorem dX1_closeUp_11 : decode cX1_closeUp 11 = .ok (.iload_n 1, 1) := by decide +kernel
theorem dX1_closeUp_12 : decode cX1_closeUp 12 = .ok (.invokevirtual 36, 3) := by decide +kernel
theorem dX1_closeUp_15 : decode cX1_closeUp 15 = .ok (.lstore_n 2, 1) := by decide +kernel
theorem dX1_closeUp_16 : decode cX1_closeUp 16 = .ok (.aload_n 0, 1) := by decide +kernel
theorem dX1_closeUp_17 : decode cX1_closeUp 17 = .ok (.iload_n 1, 1) := by decide +kernel
theorem dX1_closeUp_18 : decode cX1_closeUp 18 = .ok (.invokevirtual 43, 3) := by decide +kernel
theorem dX1_closeUp_21 : decode cX1_closeUp 21 = .ok (.lstore 4, 2) := by decide +kernel
theorem dX1_closeUp_23 : decode cX1_closeUp 23 = .ok (.iconst 0, 1) := by decide +kernel
theorem dX1_closeUp_24 : decode cX1_closeUp 24 = .ok (.istore 6, 2) := by decide +kernel
theorem dX1_closeUp_26 : decode cX1_closeUp 26 = .ok (.iload 6, 2) := by decide +kernel
theorem dX1_closeUp_28 : decode cX1_closeUp 28 = .ok (.aload_n 0, 1) := by decide +kernel
theorem dX1_closeUp_29 : decode cX1_closeUp 29 = .ok (.getfield 9, 3) := by decide +kernel
theorem dX1_closeUp_32 : decode cX1_closeUp 32 = .ok (.if_icmp .ge 42, 3) := by decide +kernel
theorem dX1_closeUp_35 : decode cX1_closeUp 35 = .ok (.aload_n 0, 1) := by decide +kernel
theorem dX1_closeUp_36 : decode cX1_closeUp 36 = .ok (.iload 6, 2) := by decide +kernel
theorem dX1_closeUp_38 : decode cX1_closeUp 38 = .ok (.iload_n 1, 1) := by decide +kernel
theorem dX1_closeUp_39 : decode cX1_closeUp 39 = .ok (.invokevirtual 73, 3) := by decide +kernel
theorem dX1_closeUp_42 : decode cX1_closeUp 42 = .ok (.ifCond .eq 26, 3) := by decide +kernel
theorem dX1_closeUp_45 : decode cX1_closeUp 45 = .ok (.aload_n 0, 1) := by decide +kernel
theorem dX1_closeUp_46 : decode cX1_closeUp 46 = .ok (.iload 6, 2) := by decide +kernel
theorem dX1_closeUp_48 : decode cX1_closeUp 48 = .ok (.aload_n 0, 1) := by decide +kernel
theorem dX1_closeUp_49 : decode cX1_closeUp 49 = .ok (.iload 6, 2) := by decide +kernel
theorem dX1_closeUp_51 : decode cX1_closeUp 51 = .ok (.invokevirtual 36, 3) := by decide +kernel
theorem dX1_closeUp_54 : decode cX1_closeUp 54 = .ok (.lload_n 2, 1) := by decide +kernel
theorem dX1_closeUp_55 : decode cX1_closeUp 55 = .ok (.lor, 1) := by decide +kernel
theorem dX1_closeUp_56 : decode cX1_closeUp 56 = .ok (.aload_n 0, 1) := by decide +kernel
theorem dX1_closeUp_57 : decode cX1_closeUp 57 = .ok (.iload 6, 2) := by decide +kernel
theorem dX1_closeUp_59 : decode cX1_closeUp 59 = .ok (.invokevirtual 43, 3) := by decide +kernel
theorem dX1_closeUp_62 : decode cX1_closeUp 62 = .ok (.lload 4, 2) := by decide +kernel
theorem dX1_closeUp_64 : decode cX1_closeUp 64 = .ok (.lor, 1) := by decide +kernel
theorem dX1_closeUp_65 : decode cX1_closeUp 65 = .ok (.invokevirtual 48, 3) := by decide +kernel
theorem dX1_closeUp_68 : decode cX1_closeUp 68 = .ok (.iinc 6 1, 3) := by decide +kernel
theorem dX1_closeUp_71 : decode cX1_closeUp 71 = .ok (.goto (-45), 3) := by decide +kernel
theorem dX1_closeUp_74 : decode cX1_closeUp 74 = .ok (.iinc 1 1, 3) := by decide +kernel
theorem dX1_closeUp_77 : decode cX1_closeUp 77 = .ok (.goto (-75), 3) := by decide +kernel
theorem dX1_closeUp_80 : decode cX1_closeUp 80 = .ok (.return_, 1) := by decide +kernel
theorem dX1_imageOf_0 : decode cX1_imageOf 0 = .ok (.lconst 0, 1) := by decide +kernel
theorem dX1_imageOf_1 : decode cX1_imageOf 1 = .ok (.lstore_n 3, 1) := by decide +kernel
theorem dX1_imageOf_2 : decode cX1_imageOf 2 = .ok (.lconst 0, 1) := by decide +kernel
theorem dX1_imageOf_3 : decode cX1_imageOf 3 = .ok (.lstore 5, 2) := by decide +kernel
theorem dX1_imageOf_5 : decode cX1_imageOf 5 = .ok (.aload_n 1, 1) := by decide +kernel
theorem dX1_imageOf_6 : decode cX1_imageOf 6 = .ok (.iconst 0, 1) := by decide +kernel
theorem dX1_imageOf_7 : decode cX1_imageOf 7 = .ok (.invokevirtual 96, 3) := by decide +kernel
theorem dX1_imageOf_10 : decode cX1_imageOf 10 = .ok (.istore 7, 2) := by decide +kernel
theorem dX1_imageOf_12 : decode cX1_imageOf 12 = .ok (.iconst 0, 1) := by decide +kernel
theorem dX1_imageOf_13 : decode cX1_imageOf 13 = .ok (.istore 8, 2) := by decide +kernel
theorem dX1_imageOf_15 : decode cX1_imageOf 15 = .ok (.iload 8, 2) := by decide +kernel
theorem dX1_imageOf_17 : decode cX1_imageOf 17 = .ok (.aload_n 0, 1) := by decide +kernel
theorem dX1_imageOf_18 : decode cX1_imageOf 18 = .ok (.getfield 9, 3) := by decide +kernel
theorem dX1_imageOf_21 : decode cX1_imageOf 21 = .ok (.if_icmp .ge 45, 3) := by decide +kernel
theorem dX1_imageOf_24 : decode cX1_imageOf 24 = .ok (.iload 7, 2) := by decide +kernel
theorem dX1_imageOf_26 : decode cX1_imageOf 26 = .ok (.iconst (-1), 1) := by decide +kernel
theorem dX1_imageOf_27 : decode cX1_imageOf 27 = .ok (.if_icmp .eq 39, 3) := by decide +kernel
theorem dX1_imageOf_30 : decode cX1_imageOf 30 = .ok (.lload_n 3, 1) := by decide +kernel
theorem dX1_imageOf_31 : decode cX1_imageOf 31 = .ok (.aload_n 0, 1) := by decide +kernel
theorem dX1_imageOf_32 : decode cX1_imageOf 32 = .ok (.iload 7, 2) := by decide +kernel
theorem dX1_imageOf_34 : decode cX1_imageOf 34 = .ok (.invokevirtual 36, 3) := by decide +kernel
theorem dX1_imageOf_37 : decode cX1_imageOf 37 = .ok (.lor, 1) := by decide +kernel
theorem dX1_imageOf_38 : decode cX1_imageOf 38 = .ok (.lstore_n 3, 1) := by decide +kernel
theorem dX1_imageOf_39 : decode cX1_imageOf 39 = .ok (.lload 5, 2) := by decide +kernel
theorem dX1_imageOf_41 : decode cX1_imageOf 41 = .ok (.aload_n 0, 1) := by decide +kernel
theorem dX1_imageOf_42 : decode cX1_imageOf 42 = .ok (.iload 7, 2) := by decide +kernel
theorem dX1_imageOf_44 : decode cX1_imageOf 44 = .ok (.invokevirtual 43, 3) := by decide +kernel
theorem dX1_imageOf_47 : decode cX1_imageOf 47 = .ok (.lor, 1) := by decide +kernel
theorem dX1_imageOf_48 : decode cX1_imageOf 48 = .ok (.lstore 5, 2) := by decide +kernel
theorem dX1_imageOf_50 : decode cX1_imageOf 50 = .ok (.aload_n 1, 1) := by decide +kernel
theorem dX1_imageOf_51 : decode cX1_imageOf 51 = .ok (.iload 7, 2) := by decide +kernel
theorem dX1_imageOf_53 : decode cX1_imageOf 53 = .ok (.iconst 1, 1) := by decide +kernel
theorem dX1_imageOf_54 : decode cX1_imageOf 54 = .ok (.iadd, 1) := by decide +kernel
theorem dX1_imageOf_55 : decode cX1_imageOf 55 = .ok (.invokevirtual 96, 3) := by decide +kernel
theorem dX1_imageOf_58 : decode cX1_imageOf 58 = .ok (.istore 7, 2) := by decide +kernel
theorem dX1_imageOf_60 : decode cX1_imageOf 60 = .ok (.iinc 8 1, 3) := by decide +kernel
theorem dX1_imageOf_63 : decode cX1_imageOf 63 = .ok (.goto (-48), 3) := by decide +kernel
theorem dX1_imageOf_66 : decode cX1_imageOf 66 = .ok (.aload_n 2, 1) := by decide +kernel
theorem dX1_imageOf_67 : decode cX1_imageOf 67 = .ok (.lload_n 3, 1) := by decide +kernel
theorem dX1_imageOf_68 : decode cX1_imageOf 68 = .ok (.putfield 40, 3) := by decide +kernel
theorem dX1_imageOf_71 : decode cX1_imageOf 71 = .ok (.aload_n 2, 1) := by decide +kernel
theorem dX1_imageOf_72 : decode cX1_imageOf 72 = .ok (.lload 5, 2) := by decide +kernel
theorem dX1_imageOf_74 : decode cX1_imageOf 74 = .ok (.putfield 46, 3) := by decide +kernel
theorem dX1_imageOf_77 : decode cX1_imageOf 77 = .ok (.return_, 1) := by decide +kernel
theorem dX1_hasAllOf_0 : decode cX1_hasAllOf 0 = .ok (.iconst 0, 1) := by decide +kernel
theorem dX1_hasAllOf_1 : decode cX1_hasAllOf 1 = .ok (.istore_n 2, 1) := by decide +kernel
theorem dX1_hasAllOf_2 : decode cX1_hasAllOf 2 = .ok (.iload_n 2, 1) := by decide +kernel
theorem dX1_hasAllOf_3 : decode cX1_hasAllOf 3 = .ok (.aload_n 0, 1) := by decide +kernel
theorem dX1_hasAllOf_4 : decode cX1_hasAllOf 4 = .ok (.getfield 9, 3) := by decide +kernel
theorem dX1_hasAllOf_7 : decode cX1_hasAllOf 7 = .ok (.if_icmp .ge 51, 3) := by decide +kernel
theorem dX1_hasAllOf_10 : decode cX1_hasAllOf 10 = .ok (.aload_n 1, 1) := by decide +kernel
theorem dX1_hasAllOf_11 : decode cX1_hasAllOf 11 = .ok (.iload_n 2, 1) := by decide +kernel
theorem dX1_hasAllOf_12 : decode cX1_hasAllOf 12 = .ok (.invokevirtual 36, 3) := by decide +kernel
theorem dX1_hasAllOf_15 : decode cX1_hasAllOf 15 = .ok (.aload_n 0, 1) := by decide +kernel
theorem dX1_hasAllOf_16 : decode cX1_hasAllOf 16 = .ok (.iload_n 2, 1) := by decide +kernel
theorem dX1_hasAllOf_17 : decode cX1_hasAllOf 17 = .ok (.invokevirtual 36, 3) := by decide +kernel
theorem dX1_hasAllOf_20 : decode cX1_hasAllOf 20 = .ok (.ldc2_w 81, 3) := by decide +kernel
theorem dX1_hasAllOf_23 : decode cX1_hasAllOf 23 = .ok (.lxor, 1) := by decide +kernel
theorem dX1_hasAllOf_24 : decode cX1_hasAllOf 24 = .ok (.land, 1) := by decide +kernel
theorem dX1_hasAllOf_25 : decode cX1_hasAllOf 25 = .ok (.lconst 0, 1) := by decide +kernel
theorem dX1_hasAllOf_26 : decode cX1_hasAllOf 26 = .ok (.lcmp, 1) := by decide +kernel
theorem dX1_hasAllOf_27 : decode cX1_hasAllOf 27 = .ok (.ifCond .ne 23, 3) := by decide +kernel
theorem dX1_hasAllOf_30 : decode cX1_hasAllOf 30 = .ok (.aload_n 1, 1) := by decide +kernel
theorem dX1_hasAllOf_31 : decode cX1_hasAllOf 31 = .ok (.iload_n 2, 1) := by decide +kernel
theorem dX1_hasAllOf_32 : decode cX1_hasAllOf 32 = .ok (.invokevirtual 43, 3) := by decide +kernel
theorem dX1_hasAllOf_35 : decode cX1_hasAllOf 35 = .ok (.aload_n 0, 1) := by decide +kernel
theorem dX1_hasAllOf_36 : decode cX1_hasAllOf 36 = .ok (.iload_n 2, 1) := by decide +kernel
theorem dX1_hasAllOf_37 : decode cX1_hasAllOf 37 = .ok (.invokevirtual 43, 3) := by decide +kernel
theorem dX1_hasAllOf_40 : decode cX1_hasAllOf 40 = .ok (.ldc2_w 81, 3) := by decide +kernel
theorem dX1_hasAllOf_43 : decode cX1_hasAllOf 43 = .ok (.lxor, 1) := by decide +kernel
theorem dX1_hasAllOf_44 : decode cX1_hasAllOf 44 = .ok (.land, 1) := by decide +kernel
theorem dX1_hasAllOf_45 : decode cX1_hasAllOf 45 = .ok (.lconst 0, 1) := by decide +kernel
theorem dX1_hasAllOf_46 : decode cX1_hasAllOf 46 = .ok (.lcmp, 1) := by decide +kernel
theorem dX1_hasAllOf_47 : decode cX1_hasAllOf 47 = .ok (.ifCond .eq 5, 3) := by decide +kernel
theorem dX1_hasAllOf_50 : decode cX1_hasAllOf 50 = .ok (.iconst 0, 1) := by decide +kernel
theorem dX1_hasAllOf_51 : decode cX1_hasAllOf 51 = .ok (.ireturn, 1) := by decide +kernel
theorem dX1_hasAllOf_52 : decode cX1_hasAllOf 52 = .ok (.iinc 2 1, 3) := by decide +kernel
theorem dX1_hasAllOf_55 : decode cX1_hasAllOf 55 = .ok (.goto (-53), 3) := by decide +kernel
theorem dX1_hasAllOf_58 : decode cX1_hasAllOf 58 = .ok (.iconst 1, 1) := by decide +kernel
theorem dX1_hasAllOf_59 : decode cX1_hasAllOf 59 = .ok (.ireturn, 1) := by decide +kernel
theorem dX1_isLike_0 : decode cX1_isLike 0 = .ok (.aload_n 0, 1) := by decide +kernel
theorem dX1_isLike_1 : decode cX1_isLike 1 = .ok (.aload_n 1, 1) := by decide +kernel
theorem dX1_isLike_2 : decode cX1_isLike 2 = .ok (.invokevirtual 99, 3) := by decide +kernel
theorem dX1_isLike_5 : decode cX1_isLike 5 = .ok (.ifCond .eq 15, 3) := by decide +kernel
theorem dX1_isLike_8 : decode cX1_isLike 8 = .ok (.aload_n 1, 1) := by decide +kernel
theorem dX1_isLike_9 : decode cX1_isLike 9 = .ok (.aload_n 0, 1) := by decide +kernel
theorem dX1_isLike_10 : decode cX1_isLike 10 = .ok (.invokevirtual 99, 3) := by decide +kernel
theorem dX1_isLike_13 : decode cX1_isLike 13 = .ok (.ifCond .eq 7, 3) := by decide +kernel
theorem dX1_isLike_16 : decode cX1_isLike 16 = .ok (.iconst 1, 1) := by decide +kernel
theorem dX1_isLike_17 : decode cX1_isLike 17 = .ok (.goto 4, 3) := by decide +kernel
theorem dX1_isLike_20 : decode cX1_isLike 20 = .ok (.iconst 0, 1) := by decide +kernel
theorem dX1_isLike_21 : decode cX1_isLike 21 = .ok (.ireturn, 1) := by decide +kernel
theorem dX1_isTransitive_0 : decode cX1_isTransitive 0 = .ok (.iconst 0, 1) := by decide +kernel
theorem dX1_isTransitive_1 : decode cX1_isTransitive 1 = .ok (.istore_n 1, 1) := by decide +kernel
theorem dX1_isTransitive_2 : decode cX1_isTransitive 2 = .ok (.iload_n 1, 1) := by decide +kernel
theorem dX1_isTransitive_3 : decode cX1_isTransitive 3 = .ok (.aload_n 0, 1) := by decide +kernel
theorem dX1_isTransitive_4 : decode cX1_isTransitive 4 = .ok (.getfield 9, 3) := by decide +kernel
theorem dX1_isTransitive_7 : decode cX1_isTransitive 7 = .ok (.if_icmp .ge 76, 3) := by decide +kernel
theorem dX1_isTransitive_10 : decode cX1_isTransitive 10 = .ok (.aload_n 0, 1) := by decide +kernel
theorem dX1_isTransitive_11 : decode cX1_isTransitive 11 = .ok (.iload_n 1, 1) := by decide +kernel
theorem dX1_isTransitive_12 : decode cX1_isTransitive 12 = .ok (.aload_n 0, 1) := by decide +kernel
theorem dX1_isTransitive_13 : decode cX1_isTransitive 13 = .ok (.getfield 25, 3) := by decide +kernel
theorem dX1_isTransitive_16 : decode cX1_isTransitive 16 = .ok (.invokevirtual 83, 3) := by decide +kernel
theorem dX1_isTransitive_19 : decode cX1_isTransitive 19 = .ok (.aload_n 0, 1) := by decide +kernel
theorem dX1_isTransitive_20 : decode cX1_isTransitive 20 = .ok (.aload_n 0, 1) := by decide +kernel
theorem dX1_isTransitive_21 : decode cX1_isTransitive 21 = .ok (.getfield 25, 3) := by decide +kernel
theorem dX1_isTransitive_24 : decode cX1_isTransitive 24 = .ok (.aload_n 0, 1) := by decide +kernel
theorem dX1_isTransitive_25 : decode cX1_isTransitive 25 = .ok (.getfield 25, 3) := by decide +kernel
theorem dX1_isTransitive_28 : decode cX1_isTransitive 28 = .ok (.invokevirtual 86, 3) := by decide +kernel
theorem dX1_isTransitive_31 : decode cX1_isTransitive 31 = .ok (.aload_n 0, 1) := by decide +kernel
theorem dX1_isTransitive_32 : decode cX1_isTransitive 32 = .ok (.getfield 25, 3) := by decide +kernel
theorem dX1_isTransitive_35 : decode cX1_isTransitive 35 = .ok (.getfield 40, 3) := by decide +kernel
theorem dX1_isTransitive_38 : decode cX1_isTransitive 38 = .ok (.aload_n 0, 1) := by decide +kernel
theorem dX1_isTransitive_39 : decode cX1_isTransitive 39 = .ok (.iload_n 1, 1) := by decide +kernel
theorem dX1_isTransitive_40 : decode cX1_isTransitive 40 = .ok (.invokevirtual 36, 3) := by decide +kernel
theorem dX1_isTransitive_43 : decode cX1_isTransitive 43 = .ok (.ldc2_w 81, 3) := by decide +kernel
theorem dX1_isTransitive_46 : decode cX1_isTransitive 46 = .ok (.lxor, 1) := by decide +kernel
theorem dX1_isTransitive_47 : decode cX1_isTransitive 47 = .ok (.land, 1) := by decide +kernel
theorem dX1_isTransitive_48 : decode cX1_isTransitive 48 = .ok (.lconst 0, 1) := by decide +kernel
theorem dX1_isTransitive_49 : decode cX1_isTransitive 49 = .ok (.lcmp, 1) := by decide +kernel
theorem dX1_isTransitive_50 : decode cX1_isTransitive 50 = .ok (.ifCond .ne 25, 3) := by decide +kernel
theorem dX1_isTransitive_53 : decode cX1_isTransitive 53 = .ok (.aload_n 0, 1) := by decide +kernel
theorem dX1_isTransitive_54 : decode cX1_isTransitive 54 = .ok (.getfield 25, 3) := by decide +kernel
theorem dX1_isTransitive_57 : decode cX1_isTransitive 57 = .ok (.getfield 46, 3) := by decide +kernel
theorem dX1_isTransitive_60 : decode cX1_isTransitive 60 = .ok (.aload_n 0, 1) := by decide +kernel
theorem dX1_isTransitive_61 : decode cX1_isTransitive 61 = .ok (.iload_n 1, 1) := by decide +kernel
theorem dX1_isTransitive_62 : decode cX1_isTransitive 62 = .ok (.invokevirtual 43, 3) := by decide +kernel
theorem dX1_isTransitive_65 : decode cX1_isTransitive 65 = .ok (.ldc2_w 81, 3) := by decide +kernel
theorem dX1_isTransitive_68 : decode cX1_isTransitive 68 = .ok (.lxor, 1) := by decide +kernel
theorem dX1_isTransitive_69 : decode cX1_isTransitive 69 = .ok (.land, 1) := by decide +kernel
theorem dX1_isTransitive_70 : decode cX1_isTransitive 70 = .ok (.lconst 0, 1) := by decide +kernel
theorem dX1_isTransitive_71 : decode cX1_isTransitive 71 = .ok (.lcmp, 1) := by decide +kernel
theorem dX1_isTransitive_72 : decode cX1_isTransitive 72 = .ok (.ifCond .eq 5, 3) := by decide +kernel
theorem dX1_isTransitive_75 : decode cX1_isTransitive 75 = .ok (.iconst 0, 1) := by decide +kernel
theorem dX1_isTransitive_76 : decode cX1_isTransitive 76 = .ok (.ireturn, 1) := by decide +kernel
theorem dX1_isTransitive_77 : decode cX1_isTransitive 77 = .ok (.iinc 1 1, 3) := by decide +kernel
theorem dX1_isTransitive_80 : decode cX1_isTransitive 80 = .ok (.goto (-78), 3) := by decide +kernel
theorem dX1_isTransitive_83 : decode cX1_isTransitive 83 = .ok (.iconst 1, 1) := by decide +kernel
theorem dX1_isTransitive_84 : decode cX1_isTransitive 84 = .ok (.ireturn, 1) := by decide +kernel
theorem dX1_everyTwoAre_0 : decode cX1_everyTwoAre 0 = .ok (.iconst 1, 1) := by decide +kernel
theorem dX1_everyTwoAre_1 : decode cX1_everyTwoAre 1 = .ok (.istore_n 2, 1) := by decide +kernel
theorem dX1_everyTwoAre_2 : decode cX1_everyTwoAre 2 = .ok (.iload_n 2, 1) := by decide +kernel
theorem dX1_everyTwoAre_3 : decode cX1_everyTwoAre 3 = .ok (.aload_n 0, 1) := by decide +kernel
theorem dX1_everyTwoAre_4 : decode cX1_everyTwoAre 4 = .ok (.getfield 9, 3) := by decide +kernel
theorem dX1_everyTwoAre_7 : decode cX1_everyTwoAre 7 = .ok (.if_icmp .ge 43, 3) := by decide +kernel
theorem dX1_everyTwoAre_10 : decode cX1_everyTwoAre 10 = .ok (.iconst 0, 1) := by decide +kernel
theorem dX1_everyTwoAre_11 : decode cX1_everyTwoAre 11 = .ok (.istore_n 3, 1) := by decide +kernel
theorem dX1_everyTwoAre_12 : decode cX1_everyTwoAre 12 = .ok (.iload_n 3, 1) := by decide +kernel
theorem dX1_everyTwoAre_13 : decode cX1_everyTwoAre 13 = .ok (.iload_n 2, 1) := by decide +kernel
theorem dX1_everyTwoAre_14 : decode cX1_everyTwoAre 14 = .ok (.if_icmp .ge 30, 3) := by decide +kernel
theorem dX1_everyTwoAre_17 : decode cX1_everyTwoAre 17 = .ok (.iload_n 1, 1) := by decide +kernel
theorem dX1_everyTwoAre_18 : decode cX1_everyTwoAre 18 = .ok (.aload_n 0, 1) := by decide +kernel
theorem dX1_everyTwoAre_19 : decode cX1_everyTwoAre 19 = .ok (.iload_n 2, 1) := by decide +kernel
theorem dX1_everyTwoAre_20 : decode cX1_everyTwoAre 20 = .ok (.iload_n 3, 1) := by decide +kernel
theorem dX1_everyTwoAre_21 : decode cX1_everyTwoAre 21 = .ok (.invokevirtual 73, 3) := by decide +kernel
theorem dX1_everyTwoAre_24 : decode cX1_everyTwoAre 24 = .ok (.aload_n 0, 1) := by decide +kernel
theorem dX1_everyTwoAre_25 : decode cX1_everyTwoAre 25 = .ok (.iload_n 3, 1) := by decide +kernel
theorem dX1_everyTwoAre_26 : decode cX1_everyTwoAre 26 = .ok (.iload_n 2, 1) := by decide +kernel
theorem dX1_everyTwoAre_27 : decode cX1_everyTwoAre 27 = .ok (.invokevirtual 73, 3) := by decide +kernel
theorem dX1_everyTwoAre_30 : decode cX1_everyTwoAre 30 = .ok (.invokestatic 103, 3) := by decide +kernel
theorem dX1_everyTwoAre_33 : decode cX1_everyTwoAre 33 = .ok (.ifCond .ne 5, 3) := by decide +kernel
theorem dX1_everyTwoAre_36 : decode cX1_everyTwoAre 36 = .ok (.iconst 0, 1) := by decide +kernel
theorem dX1_everyTwoAre_37 : decode cX1_everyTwoAre 37 = .ok (.ireturn, 1) := by decide +kernel
theorem dX1_everyTwoAre_38 : decode cX1_everyTwoAre 38 = .ok (.iinc 3 1, 3) := by decide +kernel
theorem dX1_everyTwoAre_41 : decode cX1_everyTwoAre 41 = .ok (.goto (-29), 3) := by decide +kernel
theorem dX1_everyTwoAre_44 : decode cX1_everyTwoAre 44 = .ok (.iinc 2 1, 3) := by decide +kernel
theorem dX1_everyTwoAre_47 : decode cX1_everyTwoAre 47 = .ok (.goto (-45), 3) := by decide +kernel
theorem dX1_everyTwoAre_50 : decode cX1_everyTwoAre 50 = .ok (.iconst 1, 1) := by decide +kernel
theorem dX1_everyTwoAre_51 : decode cX1_everyTwoAre 51 = .ok (.ireturn, 1) := by decide +kernel
theorem dX1_fits_0 : decode cX1_fits 0 = .ok (.iload_n 0, 1) := by decide +kernel
theorem dX1_fits_1 : decode cX1_fits 1 = .ok (.lookupswitch 52 #[(2, 27), (3, 38)], 27) := by decide +kernel
theorem dX1_fits_28 : decode cX1_fits 28 = .ok (.iload_n 1, 1) := by decide +kernel
theorem dX1_fits_29 : decode cX1_fits 29 = .ok (.iload_n 2, 1) := by decide +kernel
theorem dX1_fits_30 : decode cX1_fits 30 = .ok (.if_icmp .ne 7, 3) := by decide +kernel
theorem dX1_fits_33 : decode cX1_fits 33 = .ok (.iconst 1, 1) := by decide +kernel
theorem dX1_fits_34 : decode cX1_fits 34 = .ok (.goto 4, 3) := by decide +kernel
theorem dX1_fits_37 : decode cX1_fits 37 = .ok (.iconst 0, 1) := by decide +kernel
theorem dX1_fits_38 : decode cX1_fits 38 = .ok (.ireturn, 1) := by decide +kernel
theorem dX1_fits_39 : decode cX1_fits 39 = .ok (.iload_n 1, 1) := by decide +kernel
theorem dX1_fits_40 : decode cX1_fits 40 = .ok (.ifCond .eq 7, 3) := by decide +kernel
theorem dX1_fits_43 : decode cX1_fits 43 = .ok (.iload_n 2, 1) := by decide +kernel
theorem dX1_fits_44 : decode cX1_fits 44 = .ok (.ifCond .ne 7, 3) := by decide +kernel
theorem dX1_fits_47 : decode cX1_fits 47 = .ok (.iconst 1, 1) := by decide +kernel
theorem dX1_fits_48 : decode cX1_fits 48 = .ok (.goto 4, 3) := by decide +kernel
theorem dX1_fits_51 : decode cX1_fits 51 = .ok (.iconst 0, 1) := by decide +kernel
theorem dX1_fits_52 : decode cX1_fits 52 = .ok (.ireturn, 1) := by decide +kernel
theorem dX1_fits_53 : decode cX1_fits 53 = .ok (.iload_n 1, 1) := by decide +kernel
theorem dX1_fits_54 : decode cX1_fits 54 = .ok (.ifCond .ne 7, 3) := by decide +kernel
theorem dX1_fits_57 : decode cX1_fits 57 = .ok (.iload_n 2, 1) := by decide +kernel
theorem dX1_fits_58 : decode cX1_fits 58 = .ok (.ifCond .eq 7, 3) := by decide +kernel
theorem dX1_fits_61 : decode cX1_fits 61 = .ok (.iconst 1, 1) := by decide +kernel
theorem dX1_fits_62 : decode cX1_fits 62 = .ok (.goto 4, 3) := by decide +kernel
theorem dX1_fits_65 : decode cX1_fits 65 = .ok (.iconst 0, 1) := by decide +kernel
theorem dX1_fits_66 : decode cX1_fits 66 = .ok (.ireturn, 1) := by decide +kernel
theorem dX1_inOneClass_0 : decode cX1_inOneClass 0 = .ok (.iload_n 1, 1) := by decide +kernel
theorem dX1_inOneClass_1 : decode cX1_inOneClass 1 = .ok (.iload_n 2, 1) := by decide +kernel
theorem dX1_inOneClass_2 : decode cX1_inOneClass 2 = .ok (.if_icmp .eq 21, 3) := by decide +kernel
theorem dX1_inOneClass_5 : decode cX1_inOneClass 5 = .ok (.aload_n 0, 1) := by decide +kernel
theorem dX1_inOneClass_6 : decode cX1_inOneClass 6 = .ok (.iload_n 1, 1) := by decide +kernel
theorem dX1_inOneClass_7 : decode cX1_inOneClass 7 = .ok (.iload_n 2, 1) := by decide +kernel
theorem dX1_inOneClass_8 : decode cX1_inOneClass 8 = .ok (.invokevirtual 73, 3) := by decide +kernel
theorem dX1_inOneClass_11 : decode cX1_inOneClass 11 = .ok (.ifCond .eq 16, 3) := by decide +kernel
theorem dX1_inOneClass_14 : decode cX1_inOneClass 14 = .ok (.aload_n 0, 1) := by decide +kernel
theorem dX1_inOneClass_15 : decode cX1_inOneClass 15 = .ok (.iload_n 2, 1) := by decide +kernel
theorem dX1_inOneClass_16 : decode cX1_inOneClass 16 = .ok (.iload_n 1, 1) := by decide +kernel
theorem dX1_inOneClass_17 : decode cX1_inOneClass 17 = .ok (.invokevirtual 73, 3) := by decide +kernel
theorem dX1_inOneClass_20 : decode cX1_inOneClass 20 = .ok (.ifCond .eq 7, 3) := by decide +kernel
theorem dX1_inOneClass_23 : decode cX1_inOneClass 23 = .ok (.iconst 1, 1) := by decide +kernel
theorem dX1_inOneClass_24 : decode cX1_inOneClass 24 = .ok (.goto 4, 3) := by decide +kernel
theorem dX1_inOneClass_27 : decode cX1_inOneClass 27 = .ok (.iconst 0, 1) := by decide +kernel
theorem dX1_inOneClass_28 : decode cX1_inOneClass 28 = .ok (.ireturn, 1) := by decide +kernel
theorem dX1_leastOfClass_0 : decode cX1_leastOfClass 0 = .ok (.iconst 0, 1) := by decide +kernel
theorem dX1_leastOfClass_1 : decode cX1_leastOfClass 1 = .ok (.istore_n 2, 1) := by decide +kernel
theorem dX1_leastOfClass_2 : decode cX1_leastOfClass 2 = .ok (.iload_n 2, 1) := by decide +kernel
theorem dX1_leastOfClass_3 : decode cX1_leastOfClass 3 = .ok (.iload_n 1, 1) := by decide +kernel
theorem dX1_leastOfClass_4 : decode cX1_leastOfClass 4 = .ok (.if_icmp .ge 20, 3) := by decide +kernel
theorem dX1_leastOfClass_7 : decode cX1_leastOfClass 7 = .ok (.aload_n 0, 1) := by decide +kernel
theorem dX1_leastOfClass_8 : decode cX1_leastOfClass 8 = .ok (.iload_n 2, 1) := by decide +kernel
theorem dX1_leastOfClass_9 : decode cX1_leastOfClass 9 = .ok (.iload_n 1, 1) := by decide +kernel
theorem dX1_leastOfClass_10 : decode cX1_leastOfClass 10 = .ok (.invokevirtual 107, 3) := by decide +kernel
theorem dX1_leastOfClass_13 : decode cX1_leastOfClass 13 = .ok (.ifCond .eq 5, 3) := by decide +kernel
theorem dX1_leastOfClass_16 : decode cX1_leastOfClass 16 = .ok (.iload_n 2, 1) := by decide +kernel
theorem dX1_leastOfClass_17 : decode cX1_leastOfClass 17 = .ok (.ireturn, 1) := by decide +kernel
theorem dX1_leastOfClass_18 : decode cX1_leastOfClass 18 = .ok (.iinc 2 1, 3) := by decide +kernel
theorem dX1_leastOfClass_21 : decode cX1_leastOfClass 21 = .ok (.goto (-19), 3) := by decide +kernel
theorem dX1_leastOfClass_24 : decode cX1_leastOfClass 24 = .ok (.iload_n 1, 1) := by decide +kernel
theorem dX1_leastOfClass_25 : decode cX1_leastOfClass 25 = .ok (.ireturn, 1) := by decide +kernel
theorem dX1_classesInside_0 : decode cX1_classesInside 0 = .ok (.iconst 0, 1) := by decide +kernel
theorem dX1_classesInside_1 : decode cX1_classesInside 1 = .ok (.istore_n 1, 1) := by decide +kernel
theorem dX1_classesInside_2 : decode cX1_classesInside 2 = .ok (.iconst 0, 1) := by decide +kernel
theorem dX1_classesInside_3 : decode cX1_classesInside 3 = .ok (.istore_n 2, 1) := by decide +kernel
theorem dX1_classesInside_4 : decode cX1_classesInside 4 = .ok (.iload_n 2, 1) := by decide +kernel
theorem dX1_classesInside_5 : decode cX1_classesInside 5 = .ok (.aload_n 0, 1) := by decide +kernel
theorem dX1_classesInside_6 : decode cX1_classesInside 6 = .ok (.getfield 9, 3) := by decide +kernel
theorem dX1_classesInside_9 : decode cX1_classesInside 9 = .ok (.if_icmp .ge 21, 3) := by decide +kernel
theorem dX1_classesInside_12 : decode cX1_classesInside 12 = .ok (.aload_n 0, 1) := by decide +kernel
theorem dX1_classesInside_13 : decode cX1_classesInside 13 = .ok (.iload_n 2, 1) := by decide +kernel
theorem dX1_classesInside_14 : decode cX1_classesInside 14 = .ok (.invokevirtual 110, 3) := by decide +kernel
theorem dX1_classesInside_17 : decode cX1_classesInside 17 = .ok (.iload_n 2, 1) := by decide +kernel
theorem dX1_classesInside_18 : decode cX1_classesInside 18 = .ok (.if_icmp .ne 6, 3) := by decide +kernel
theorem dX1_classesInside_21 : decode cX1_classesInside 21 = .ok (.iinc 1 1, 3) := by decide +kernel
theorem dX1_classesInside_24 : decode cX1_classesInside 24 = .ok (.iinc 2 1, 3) := by decide +kernel
theorem dX1_classesInside_27 : decode cX1_classesInside 27 = .ok (.goto (-23), 3) := by decide +kernel
theorem dX1_classesInside_30 : decode cX1_classesInside 30 = .ok (.iload_n 1, 1) := by decide +kernel
theorem dX1_classesInside_31 : decode cX1_classesInside 31 = .ok (.ireturn, 1) := by decide +kernel
theorem dX2_init_0 : decode cX2_init 0 = .ok (.aload_n 0, 1) := by decide +kernel
theorem dX2_init_1 : decode cX2_init 1 = .ok (.invokespecial 3, 3) := by decide +kernel
theorem dX2_init_4 : decode cX2_init 4 = .ok (.aload_n 0, 1) := by decide +kernel
theorem dX2_init_5 : decode cX2_init 5 = .ok (.new 9, 3) := by decide +kernel
theorem dX2_init_8 : decode cX2_init 8 = .ok (.dup, 1) := by decide +kernel
theorem dX2_init_9 : decode cX2_init 9 = .ok (.invokespecial 11, 3) := by decide +kernel
theorem dX2_init_12 : decode cX2_init 12 = .ok (.putfield 12, 3) := by decide +kernel
theorem dX2_init_15 : decode cX2_init 15 = .ok (.aload_n 0, 1) := by decide +kernel
theorem dX2_init_16 : decode cX2_init 16 = .ok (.new 18, 3) := by decide +kernel
theorem dX2_init_19 : decode cX2_init 19 = .ok (.dup, 1) := by decide +kernel
theorem dX2_init_20 : decode cX2_init 20 = .ok (.invokespecial 20, 3) := by decide +kernel
theorem dX2_init_23 : decode cX2_init 23 = .ok (.putfield 21, 3) := by decide +kernel
theorem dX2_init_26 : decode cX2_init 26 = .ok (.aload_n 0, 1) := by decide +kernel
theorem dX2_init_27 : decode cX2_init 27 = .ok (.new 18, 3) := by decide +kernel
theorem dX2_init_30 : decode cX2_init 30 = .ok (.dup, 1) := by decide +kernel
theorem dX2_init_31 : decode cX2_init 31 = .ok (.invokespecial 20, 3) := by decide +kernel
theorem dX2_init_34 : decode cX2_init 34 = .ok (.putfield 25, 3) := by decide +kernel
theorem dX2_init_37 : decode cX2_init 37 = .ok (.aload_n 0, 1) := by decide +kernel
theorem dX2_init_38 : decode cX2_init 38 = .ok (.new 18, 3) := by decide +kernel
theorem dX2_init_41 : decode cX2_init 41 = .ok (.dup, 1) := by decide +kernel
theorem dX2_init_42 : decode cX2_init 42 = .ok (.invokespecial 20, 3) := by decide +kernel
theorem dX2_init_45 : decode cX2_init 45 = .ok (.putfield 28, 3) := by decide +kernel
theorem dX2_init_48 : decode cX2_init 48 = .ok (.aload_n 0, 1) := by decide +kernel
theorem dX2_init_49 : decode cX2_init 49 = .ok (.new 31, 3) := by decide +kernel
theorem dX2_init_52 : decode cX2_init 52 = .ok (.dup, 1) := by decide +kernel
theorem dX2_init_53 : decode cX2_init 53 = .ok (.invokespecial 33, 3) := by decide +kernel
theorem dX2_init_56 : decode cX2_init 56 = .ok (.putfield 34, 3) := by decide +kernel
theorem dX2_init_59 : decode cX2_init 59 = .ok (.aload_n 0, 1) := by decide +kernel
theorem dX2_init_60 : decode cX2_init 60 = .ok (.new 31, 3) := by decide +kernel
theorem dX2_init_63 : decode cX2_init 63 = .ok (.dup, 1) := by decide +kernel
theorem dX2_init_64 : decode cX2_init 64 = .ok (.invokespecial 33, 3) := by decide +kernel
theorem dX2_init_67 : decode cX2_init 67 = .ok (.putfield 38, 3) := by decide +kernel
theorem dX2_init_70 : decode cX2_init 70 = .ok (.aload_n 0, 1) := by decide +kernel
theorem dX2_init_71 : decode cX2_init 71 = .ok (.bipush 80, 2) := by decide +kernel
theorem dX2_init_73 : decode cX2_init 73 = .ok (.newarray .int, 2) := by decide +kernel
theorem dX2_init_75 : decode cX2_init 75 = .ok (.putfield 41, 3) := by decide +kernel
theorem dX2_init_78 : decode cX2_init 78 = .ok (.return_, 1) := by decide +kernel
theorem dX2_wrongOfOne_0 : decode cX2_wrongOfOne 0 = .ok (.aload_n 0, 1) := by decide +kernel
theorem dX2_wrongOfOne_1 : decode cX2_wrongOfOne 1 = .ok (.getfield 21, 3) := by decide +kernel
theorem dX2_wrongOfOne_4 : decode cX2_wrongOfOne 4 = .ok (.aload_n 1, 1) := by decide +kernel
theorem dX2_wrongOfOne_5 : decode cX2_wrongOfOne 5 = .ok (.invokevirtual 45, 3) := by decide +kernel
theorem dX2_wrongOfOne_8 : decode cX2_wrongOfOne 8 = .ok (.aload_n 0, 1) := by decide +kernel
theorem dX2_wrongOfOne_9 : decode cX2_wrongOfOne 9 = .ok (.getfield 21, 3) := by decide +kernel
theorem dX2_wrongOfOne_12 : decode cX2_wrongOfOne 12 = .ok (.invokevirtual 49, 3) := by decide +kernel
theorem dX2_wrongOfOne_15 : decode cX2_wrongOfOne 15 = .ok (.aload_n 0, 1) := by decide +kernel
theorem dX2_wrongOfOne_16 : decode cX2_wrongOfOne 16 = .ok (.aload_n 1, 1) := by decide +kernel
theorem dX2_wrongOfOne_17 : decode cX2_wrongOfOne 17 = .ok (.invokevirtual 52, 3) := by decide +kernel
theorem dX2_wrongOfOne_20 : decode cX2_wrongOfOne 20 = .ok (.invokestatic 56, 3) := by decide +kernel
theorem dX2_wrongOfOne_23 : decode cX2_wrongOfOne 23 = .ok (.aload_n 0, 1) := by decide +kernel
theorem dX2_wrongOfOne_24 : decode cX2_wrongOfOne 24 = .ok (.invokevirtual 60, 3) := by decide +kernel
theorem dX2_wrongOfOne_27 : decode cX2_wrongOfOne 27 = .ok (.invokestatic 56, 3) := by decide +kernel
theorem dX2_wrongOfOne_30 : decode cX2_wrongOfOne 30 = .ok (.iadd, 1) := by decide +kernel
theorem dX2_wrongOfOne_31 : decode cX2_wrongOfOne 31 = .ok (.aload_n 0, 1) := by decide +kernel
theorem dX2_wrongOfOne_32 : decode cX2_wrongOfOne 32 = .ok (.aload_n 1, 1) := by decide +kernel
theorem dX2_wrongOfOne_33 : decode cX2_wrongOfOne 33 = .ok (.invokevirtual 64, 3) := by decide +kernel
theorem dX2_wrongOfOne_36 : decode cX2_wrongOfOne 36 = .ok (.invokestatic 56, 3) := by decide +kernel
theorem dX2_wrongOfOne_39 : decode cX2_wrongOfOne 39 = .ok (.iadd, 1) := by decide +kernel
theorem dX2_wrongOfOne_40 : decode cX2_wrongOfOne 40 = .ok (.aload_n 0, 1) := by decide +kernel
theorem dX2_wrongOfOne_41 : decode cX2_wrongOfOne 41 = .ok (.invokevirtual 67, 3) := by decide +kernel
theorem dX2_wrongOfOne_44 : decode cX2_wrongOfOne 44 = .ok (.invokestatic 56, 3) := by decide +kernel
theorem dX2_wrongOfOne_47 : decode cX2_wrongOfOne 47 = .ok (.iadd, 1) := by decide +kernel
theorem dX2_wrongOfOne_48 : decode cX2_wrongOfOne 48 = .ok (.ireturn, 1) := by decide +kernel
theorem dX2_wrongOfThree_0 : decode cX2_wrongOfThree 0 = .ok (.aload_n 0, 1) := by decide +kernel
theorem dX2_wrongOfThree_1 : decode cX2_wrongOfThree 1 = .ok (.aload_n 1, 1) := by decide +kernel
theorem dX2_wrongOfThree_2 : decode cX2_wrongOfThree 2 = .ok (.aload_n 2, 1) := by decide +kernel
theorem dX2_wrongOfThree_3 : decode cX2_wrongOfThree 3 = .ok (.aload_n 3, 1) := by decide +kernel
theorem dX2_wrongOfThree_4 : decode cX2_wrongOfThree 4 = .ok (.invokevirtual 70, 3) := by decide +kernel
theorem dX2_wrongOfThree_7 : decode cX2_wrongOfThree 7 = .ok (.invokestatic 56, 3) := by decide +kernel
theorem dX2_wrongOfThree_10 : decode cX2_wrongOfThree 10 = .ok (.aload_n 0, 1) := by decide +kernel
theorem dX2_wrongOfThree_11 : decode cX2_wrongOfThree 11 = .ok (.aload_n 1, 1) := by decide +kernel
theorem dX2_wrongOfThree_12 : decode cX2_wrongOfThree 12 = .ok (.aload_n 2, 1) := by decide +kernel
theorem dX2_wrongOfThree_13 : decode cX2_wrongOfThree 13 = .ok (.aload_n 3, 1) := by decide +kernel
theorem dX2_wrongOfThree_14 : decode cX2_wrongOfThree 14 = .ok (.invokevirtual 74, 3) := by decide +kernel
theorem dX2_wrongOfThree_17 : decode cX2_wrongOfThree 17 = .ok (.invokestatic 56, 3) := by decide +kernel
theorem dX2_wrongOfThree_20 : decode cX2_wrongOfThree 20 = .ok (.iadd, 1) := by decide +kernel
theorem dX2_wrongOfThree_21 : decode cX2_wrongOfThree 21 = .ok (.aload_n 0, 1) := by decide +kernel
theorem dX2_wrongOfThree_22 : decode cX2_wrongOfThree 22 = .ok (.aload_n 1, 1) := by decide +kernel
theorem dX2_wrongOfThree_23 : decode cX2_wrongOfThree 23 = .ok (.aload_n 2, 1) := by decide +kernel
theorem dX2_wrongOfThree_24 : decode cX2_wrongOfThree 24 = .ok (.aload_n 3, 1) := by decide +kernel
theorem dX2_wrongOfThree_25 : decode cX2_wrongOfThree 25 = .ok (.invokevirtual 77, 3) := by decide +kernel
theorem dX2_wrongOfThree_28 : decode cX2_wrongOfThree 28 = .ok (.invokestatic 56, 3) := by decide +kernel
theorem dX2_wrongOfThree_31 : decode cX2_wrongOfThree 31 = .ok (.iadd, 1) := by decide +kernel
theorem dX2_wrongOfThree_32 : decode cX2_wrongOfThree 32 = .ok (.ireturn, 1) := by decide +kernel
theorem dX2_wrongUnless_0 : decode cX2_wrongUnless 0 = .ok (.iload_n 0, 1) := by decide +kernel
theorem dX2_wrongUnless_1 : decode cX2_wrongUnless 1 = .ok (.ifCond .eq 7, 3) := by decide +kernel
theorem dX2_wrongUnless_4 : decode cX2_wrongUnless 4 = .ok (.iconst 0, 1) := by decide +kernel
theorem dX2_wrongUnless_5 : decode cX2_wrongUnless 5 = .ok (.goto 4, 3) := by decide +kernel
theorem dX2_wrongUnless_8 : decode cX2_wrongUnless 8 = .ok (.iconst 1, 1) := by decide +kernel
theorem dX2_wrongUnless_9 : decode cX2_wrongUnless 9 = .ok (.ireturn, 1) := by decide +kernel
theorem dX2_closureTellsWalks_0 : decode cX2_closureTellsWalks 0 = .ok (.aload_n 1, 1) := by decide +kernel
theorem dX2_closureTellsWalks_1 : decode cX2_closureTellsWalks 1 = .ok (.invokevirtual 80, 3) := by decide +kernel
theorem dX2_closureTellsWalks_4 : decode cX2_closureTellsWalks 4 = .ok (.istore_n 2, 1) := by decide +kernel
theorem dX2_closureTellsWalks_5 : decode cX2_closureTellsWalks 5 = .ok (.iconst 0, 1) := by decide +kernel
theorem dX2_closureTellsWalks_6 : decode cX2_closureTellsWalks 6 = .ok (.istore_n 3, 1) := by decide +kernel
theorem dX2_closureTellsWalks_7 : decode cX2_closureTellsWalks 7 = .ok (.iload_n 3, 1) := by decide +kernel
theorem dX2_closureTellsWalks_8 : decode cX2_closureTellsWalks 8 = .ok (.iload_n 2, 1) := by decide +kernel
theorem dX2_closureTellsWalks_9 : decode cX2_closureTellsWalks 9 = .ok (.if_icmp .ge 50, 3) := by decide +kernel
theorem dX2_closureTellsWalks_12 : decode cX2_closureTellsWalks 12 = .ok (.aload_n 0, 1) := by decide +kernel
theorem dX2_closureTellsWalks_13 : decode cX2_closureTellsWalks 13 = .ok (.getfield 21, 3) := by decide +kernel
theorem dX2_closureTellsWalks_16 : decode cX2_closureTellsWalks 16 = .ok (.iload_n 3, 1) := by decide +kernel
theorem dX2_closureTellsWalks_17 : decode cX2_closureTellsWalks 17 = .ok (.aload_n 0, 1) := by decide +kernel
theorem dX2_closureTellsWalks_18 : decode cX2_closureTellsWalks 18 = .ok (.getfield 34, 3) := by decide +kernel
theorem dX2_closureTellsWalks_21 : decode cX2_closureTellsWalks 21 = .ok (.invokevirtual 84, 3) := by decide +kernel
theorem dX2_closureTellsWalks_24 : decode cX2_closureTellsWalks 24 = .ok (.aload_n 0, 1) := by decide +kernel
theorem dX2_closureTellsWalks_25 : decode cX2_closureTellsWalks 25 = .ok (.getfield 12, 3) := by decide +kernel
theorem dX2_closureTellsWalks_28 : decode cX2_closureTellsWalks 28 = .ok (.aload_n 1, 1) := by decide +kernel
theorem dX2_closureTellsWalks_29 : decode cX2_closureTellsWalks 29 = .ok (.iload_n 3, 1) := by decide +kernel
theorem dX2_closureTellsWalks_30 : decode cX2_closureTellsWalks 30 = .ok (.aload_n 0, 1) := by decide +kernel
theorem dX2_closureTellsWalks_31 : decode cX2_closureTellsWalks 31 = .ok (.getfield 38, 3) := by decide +kernel
theorem dX2_closureTellsWalks_34 : decode cX2_closureTellsWalks 34 = .ok (.invokevirtual 88, 3) := by decide +kernel
theorem dX2_closureTellsWalks_37 : decode cX2_closureTellsWalks 37 = .ok (.aload_n 0, 1) := by decide +kernel
theorem dX2_closureTellsWalks_38 : decode cX2_closureTellsWalks 38 = .ok (.getfield 34, 3) := by decide +kernel
theorem dX2_closureTellsWalks_41 : decode cX2_closureTellsWalks 41 = .ok (.aload_n 0, 1) := by decide +kernel
theorem dX2_closureTellsWalks_42 : decode cX2_closureTellsWalks 42 = .ok (.getfield 38, 3) := by decide +kernel
theorem dX2_closureTellsWalks_45 : decode cX2_closureTellsWalks 45 = .ok (.invokevirtual 92, 3) := by decide +kernel
theorem dX2_closureTellsWalks_48 : decode cX2_closureTellsWalks 48 = .ok (.ifCond .ne 5, 3) := by decide +kernel
theorem dX2_closureTellsWalks_51 : decode cX2_closureTellsWalks 51 = .ok (.iconst 0, 1) := by decide +kernel
theorem dX2_closureTellsWalks_52 : decode cX2_closureTellsWalks 52 = .ok (.ireturn, 1) := by decide +kernel
theorem dX2_closureTellsWalks_53 : decode cX2_closureTellsWalks 53 = .ok (.iinc 3 1, 3) := by decide +kernel
theorem dX2_closureTellsWalks_56 : decode cX2_closureTellsWalks 56 = .ok (.goto (-49), 3) := by decide +kernel
theorem dX2_closureTellsWalks_59 : decode cX2_closureTellsWalks 59 = .ok (.iconst 1, 1) := by decide +kernel
theorem dX2_closureTellsWalks_60 : decode cX2_closureTellsWalks 60 = .ok (.ireturn, 1) := by decide +kernel
theorem dX2_classesPartElements_0 : decode cX2_classesPartElements 0 = .ok (.aload_n 0, 1) := by decide +kernel
theorem dX2_classesPartElements_1 : decode cX2_classesPartElements 1 = .ok (.getfield 21, 3) := by decide +kernel
theorem dX2_classesPartElements_4 : decode cX2_classesPartElements 4 = .ok (.invokevirtual 80, 3) := by decide +kernel
theorem dX2_classesPartElements_7 : decode cX2_classesPartElements 7 = .ok (.aload_n 0, 1) := by decide +kernel
theorem dX2_classesPartElements_8 : decode cX2_classesPartElements 8 = .ok (.getfield 41, 3) := by decide +kernel
theorem dX2_classesPartElements_11 : decode cX2_classesPartElements 11 = .ok (.arraylength, 1) := by decide +kernel
theorem dX2_classesPartElements_12 : decode cX2_classesPartElements 12 = .ok (.invokestatic 96, 3) := by decide +kernel
theorem dX2_classesPartElements_15 : decode cX2_classesPartElements 15 = .ok (.istore_n 1, 1) := by decide +kernel
theorem dX2_classesPartElements_16 : decode cX2_classesPartElements 16 = .ok (.iconst 0, 1) := by decide +kernel
theorem dX2_classesPartElements_17 : decode cX2_classesPartElements 17 = .ok (.istore_n 2, 1) := by decide +kernel
theorem dX2_classesPartElements_18 : decode cX2_classesPartElements 18 = .ok (.iconst 0, 1) := by decide +kernel
theorem dX2_classesPartElements_19 : decode cX2_classesPartElements 19 = .ok (.istore_n 3, 1) := by decide +kernel
theorem dX2_classesPartElements_20 : decode cX2_classesPartElements 20 = .ok (.iload_n 3, 1) := by decide +kernel
theorem dX2_classesPartElements_21 : decode cX2_classesPartElements 21 = .ok (.iload_n 1, 1) := by decide +kernel
theorem dX2_classesPartElements_22 : decode cX2_classesPartElements 22 = .ok (.if_icmp .ge 96, 3) := by decide +kernel
theorem dX2_classesPartElements_25 : decode cX2_classesPartElements 25 = .ok (.aload_n 0, 1) := by decide +kernel
theorem dX2_classesPartElements_26 : decode cX2_classesPartElements 26 = .ok (.getfield 41, 3) := by decide +kernel
theorem dX2_classesPartElements_29 : decode cX2_classesPartElements 29 = .ok (.iload_n 3, 1) := by decide +kernel
theorem dX2_classesPartElements_30 : decode cX2_classesPartElements 30 = .ok (.aload_n 0, 1) := by decide +kernel
theorem dX2_classesPartElements_31 : decode cX2_classesPartElements 31 = .ok (.getfield 21, 3) := by decide +kernel
theorem dX2_classesPartElements_34 : decode cX2_classesPartElements 34 = .ok (.iload_n 3, 1) := by decide +kernel
theorem dX2_classesPartElements_35 : decode cX2_classesPartElements 35 = .ok (.invokevirtual 102, 3) := by decide +kernel
theorem dX2_classesPartElements_38 : decode cX2_classesPartElements 38 = .ok (.iastore, 1) := by decide +kernel
theorem dX2_classesPartElements_39 : decode cX2_classesPartElements 39 = .ok (.iload_n 2, 1) := by decide +kernel
theorem dX2_classesPartElements_40 : decode cX2_classesPartElements 40 = .ok (.aload_n 0, 1) := by decide +kernel
theorem dX2_classesPartElements_41 : decode cX2_classesPartElements 41 = .ok (.getfield 41, 3) := by decide +kernel
theorem dX2_classesPartElements_44 : decode cX2_classesPartElements 44 = .ok (.iload_n 3, 1) := by decide +kernel
theorem dX2_classesPartElements_45 : decode cX2_classesPartElements 45 = .ok (.iaload, 1) := by decide +kernel
theorem dX2_classesPartElements_46 : decode cX2_classesPartElements 46 = .ok (.iload_n 3, 1) := by decide +kernel
theorem dX2_classesPartElements_47 : decode cX2_classesPartElements 47 = .ok (.if_icmp .ne 7, 3) := by decide +kernel
theorem dX2_classesPartElements_50 : decode cX2_classesPartElements 50 = .ok (.iconst 1, 1) := by decide +kernel
theorem dX2_classesPartElements_51 : decode cX2_classesPartElements 51 = .ok (.goto 4, 3) := by decide +kernel
theorem dX2_classesPartElements_54 : decode cX2_classesPartElements 54 = .ok (.iconst 0, 1) := by decide +kernel
theorem dX2_classesPartElements_55 : decode cX2_classesPartElements 55 = .ok (.iadd, 1) := by decide +kernel
theorem dX2_classesPartElements_56 : decode cX2_classesPartElements 56 = .ok (.istore_n 2, 1) := by decide +kernel
theorem dX2_classesPartElements_57 : decode cX2_classesPartElements 57 = .ok (.iconst 0, 1) := by decide +kernel
theorem dX2_classesPartElements_58 : decode cX2_classesPartElements 58 = .ok (.istore 4, 2) := by decide +kernel
theorem dX2_classesPartElements_60 : decode cX2_classesPartElements 60 = .ok (.iload 4, 2) := by decide +kernel
theorem dX2_classesPartElements_62 : decode cX2_classesPartElements 62 = .ok (.iload_n 3, 1) := by decide +kernel
theorem dX2_classesPartElements_63 : decode cX2_classesPartElements 63 = .ok (.if_icmp .ge 49, 3) := by decide +kernel
theorem dX2_classesPartElements_66 : decode cX2_classesPartElements 66 = .ok (.aload_n 0, 1) := by decide +kernel
theorem dX2_classesPartElements_67 : decode cX2_classesPartElements 67 = .ok (.getfield 41, 3) := by decide +kernel
theorem dX2_classesPartElements_70 : decode cX2_classesPartElements 70 = .ok (.iload 4, 2) := by decide +kernel
theorem dX2_classesPartElements_72 : decode cX2_classesPartElements 72 = .ok (.iaload, 1) := by decide +kernel
theorem dX2_classesPartElements_73 : decode cX2_classesPartElements 73 = .ok (.aload_n 0, 1) := by decide +kernel
theorem dX2_classesPartElements_74 : decode cX2_classesPartElements 74 = .ok (.getfield 41, 3) := by decide +kernel
theorem dX2_classesPartElements_77 : decode cX2_classesPartElements 77 = .ok (.iload_n 3, 1) := by decide +kernel
theorem dX2_classesPartElements_78 : decode cX2_classesPartElements 78 = .ok (.iaload, 1) := by decide +kernel
theorem dX2_classesPartElements_79 : decode cX2_classesPartElements 79 = .ok (.if_icmp .ne 7, 3) := by decide +kernel
theorem dX2_classesPartElements_82 : decode cX2_classesPartElements 82 = .ok (.iconst 1, 1) := by decide +kernel
theorem dX2_classesPartElements_83 : decode cX2_classesPartElements 83 = .ok (.goto 4, 3) := by decide +kernel
theorem dX2_classesPartElements_86 : decode cX2_classesPartElements 86 = .ok (.iconst 0, 1) := by decide +kernel
theorem dX2_classesPartElements_87 : decode cX2_classesPartElements 87 = .ok (.istore 5, 2) := by decide +kernel
theorem dX2_classesPartElements_89 : decode cX2_classesPartElements 89 = .ok (.iload 5, 2) := by decide +kernel
theorem dX2_classesPartElements_91 : decode cX2_classesPartElements 91 = .ok (.aload_n 0, 1) := by decide +kernel
theorem dX2_classesPartElements_92 : decode cX2_classesPartElements 92 = .ok (.getfield 21, 3) := by decide +kernel
theorem dX2_classesPartElements_95 : decode cX2_classesPartElements 95 = .ok (.iload 4, 2) := by decide +kernel
theorem dX2_classesPartElements_97 : decode cX2_classesPartElements 97 = .ok (.iload_n 3, 1) := by decide +kernel
theorem dX2_classesPartElements_98 : decode cX2_classesPartElements 98 = .ok (.invokevirtual 106, 3) := by decide +kernel
theorem dX2_classesPartElements_101 : decode cX2_classesPartElements 101 = .ok (.if_icmp .eq 5, 3) := by decide +kernel
theorem dX2_classesPartElements_104 : decode cX2_classesPartElements 104 = .ok (.iconst 0, 1) := by decide +kernel
theorem dX2_classesPartElements_105 : decode cX2_classesPartElements 105 = .ok (.ireturn, 1) := by decide +kernel
theorem dX2_classesPartElements_106 : decode cX2_classesPartElements 106 = .ok (.iinc 4 1, 3) := by decide +kernel
theorem dX2_classesPartElements_109 : decode cX2_classesPartElements 109 = .ok (.goto (-49), 3) := by decide +kernel
theorem dX2_classesPartElements_112 : decode cX2_classesPartElements 112 = .ok (.iinc 3 1, 3) := by decide +kernel
theorem dX2_classesPartElements_115 : decode cX2_classesPartElements 115 = .ok (.goto (-95), 3) := by decide +kernel
theorem dX2_classesPartElements_118 : decode cX2_classesPartElements 118 = .ok (.iload_n 2, 1) := by decide +kernel
theorem dX2_classesPartElements_119 : decode cX2_classesPartElements 119 = .ok (.aload_n 0, 1) := by decide +kernel
theorem dX2_classesPartElements_120 : decode cX2_classesPartElements 120 = .ok (.getfield 21, 3) := by decide +kernel
theorem dX2_classesPartElements_123 : decode cX2_classesPartElements 123 = .ok (.invokevirtual 110, 3) := by decide +kernel
theorem dX2_classesPartElements_126 : decode cX2_classesPartElements 126 = .ok (.if_icmp .ne 7, 3) := by decide +kernel
theorem dX2_classesPartElements_129 : decode cX2_classesPartElements 129 = .ok (.iconst 1, 1) := by decide +kernel
theorem dX2_classesPartElements_130 : decode cX2_classesPartElements 130 = .ok (.goto 4, 3) := by decide +kernel
theorem dX2_classesPartElements_133 : decode cX2_classesPartElements 133 = .ok (.iconst 0, 1) := by decide +kernel
theorem dX2_classesPartElements_134 : decode cX2_classesPartElements 134 = .ok (.ireturn, 1) := by decide +kernel
theorem dX2_orderKeeps_0 : decode cX2_orderKeeps 0 = .ok (.aload_n 0, 1) := by decide +kernel
theorem dX2_orderKeeps_1 : decode cX2_orderKeeps 1 = .ok (.getfield 21, 3) := by decide +kernel
theorem dX2_orderKeeps_4 : decode cX2_orderKeeps 4 = .ok (.invokevirtual 113, 3) := by decide +kernel
theorem dX2_orderKeeps_7 : decode cX2_orderKeeps 7 = .ok (.ifCond .ne 7, 3) := by decide +kernel
theorem dX2_orderKeeps_10 : decode cX2_orderKeeps 10 = .ok (.iconst 1, 1) := by decide +kernel
theorem dX2_orderKeeps_11 : decode cX2_orderKeeps 11 = .ok (.goto 4, 3) := by decide +kernel
theorem dX2_orderKeeps_14 : decode cX2_orderKeeps 14 = .ok (.iconst 0, 1) := by decide +kernel
theorem dX2_orderKeeps_15 : decode cX2_orderKeeps 15 = .ok (.istore_n 2, 1) := by decide +kernel
theorem dX2_orderKeeps_16 : decode cX2_orderKeeps 16 = .ok (.aload_n 0, 1) := by decide +kernel
theorem dX2_orderKeeps_17 : decode cX2_orderKeeps 17 = .ok (.getfield 12, 3) := by decide +kernel
theorem dX2_orderKeeps_20 : decode cX2_orderKeeps 20 = .ok (.aload_n 1, 1) := by decide +kernel
theorem dX2_orderKeeps_21 : decode cX2_orderKeeps 21 = .ok (.invokevirtual 116, 3) := by decide +kernel
theorem dX2_orderKeeps_24 : decode cX2_orderKeeps 24 = .ok (.ifCond .ne 13, 3) := by decide +kernel
theorem dX2_orderKeeps_27 : decode cX2_orderKeeps 27 = .ok (.iload_n 2, 1) := by decide +kernel
theorem dX2_orderKeeps_28 : decode cX2_orderKeeps 28 = .ok (.ifCond .ne 7, 3) := by decide +kernel
theorem dX2_orderKeeps_31 : decode cX2_orderKeeps 31 = .ok (.iconst 1, 1) := by decide +kernel
theorem dX2_orderKeeps_32 : decode cX2_orderKeeps 32 = .ok (.goto 4, 3) := by decide +kernel
theorem dX2_orderKeeps_35 : decode cX2_orderKeeps 35 = .ok (.iconst 0, 1) := by decide +kernel
theorem dX2_orderKeeps_36 : decode cX2_orderKeeps 36 = .ok (.ireturn, 1) := by decide +kernel
theorem dX2_orderKeeps_37 : decode cX2_orderKeeps 37 = .ok (.aload_n 0, 1) := by decide +kernel
theorem dX2_orderKeeps_38 : decode cX2_orderKeeps 38 = .ok (.getfield 38, 3) := by decide +kernel
theorem dX2_orderKeeps_41 : decode cX2_orderKeeps 41 = .ok (.astore_n 3, 1) := by decide +kernel
theorem dX2_orderKeeps_42 : decode cX2_orderKeeps 42 = .ok (.aload_n 3, 1) := by decide +kernel
theorem dX2_orderKeeps_43 : decode cX2_orderKeeps 43 = .ok (.invokevirtual 119, 3) := by decide +kernel
theorem dX2_orderKeeps_46 : decode cX2_orderKeeps 46 = .ok (.aload_n 1, 1) := by decide +kernel
theorem dX2_orderKeeps_47 : decode cX2_orderKeeps 47 = .ok (.invokevirtual 80, 3) := by decide +kernel
theorem dX2_orderKeeps_50 : decode cX2_orderKeeps 50 = .ok (.istore 4, 2) := by decide +kernel
theorem dX2_orderKeeps_52 : decode cX2_orderKeeps 52 = .ok (.iconst 0, 1) := by decide +kernel
theorem dX2_orderKeeps_53 : decode cX2_orderKeeps 53 = .ok (.istore 5, 2) := by decide +kernel
theorem dX2_orderKeeps_55 : decode cX2_orderKeeps 55 = .ok (.iload 5, 2) := by decide +kernel
theorem dX2_orderKeeps_57 : decode cX2_orderKeeps 57 = .ok (.iload 4, 2) := by decide +kernel
theorem dX2_orderKeeps_59 : decode cX2_orderKeeps 59 = .ok (.if_icmp .ge 54, 3) := by decide +kernel
theorem dX2_orderKeeps_62 : decode cX2_orderKeeps 62 = .ok (.aload_n 0, 1) := by decide +kernel
theorem dX2_orderKeeps_63 : decode cX2_orderKeeps 63 = .ok (.getfield 12, 3) := by decide +kernel
theorem dX2_orderKeeps_66 : decode cX2_orderKeeps 66 = .ok (.iload 5, 2) := by decide +kernel
theorem dX2_orderKeeps_68 : decode cX2_orderKeeps 68 = .ok (.invokevirtual 122, 3) := by decide +kernel
theorem dX2_orderKeeps_71 : decode cX2_orderKeeps 71 = .ok (.istore 6, 2) := by decide +kernel
theorem dX2_orderKeeps_73 : decode cX2_orderKeeps 73 = .ok (.aload_n 3, 1) := by decide +kernel
theorem dX2_orderKeeps_74 : decode cX2_orderKeeps 74 = .ok (.iload 6, 2) := by decide +kernel
theorem dX2_orderKeeps_76 : decode cX2_orderKeeps 76 = .ok (.iload 6, 2) := by decide +kernel
theorem dX2_orderKeeps_78 : decode cX2_orderKeeps 78 = .ok (.iconst 1, 1) := by decide +kernel
theorem dX2_orderKeeps_79 : decode cX2_orderKeeps 79 = .ok (.iadd, 1) := by decide +kernel
theorem dX2_orderKeeps_80 : decode cX2_orderKeeps 80 = .ok (.iconst 1, 1) := by decide +kernel
theorem dX2_orderKeeps_81 : decode cX2_orderKeeps 81 = .ok (.invokevirtual 125, 3) := by decide +kernel
theorem dX2_orderKeeps_84 : decode cX2_orderKeeps 84 = .ok (.aload_n 1, 1) := by decide +kernel
theorem dX2_orderKeeps_85 : decode cX2_orderKeeps 85 = .ok (.iload 6, 2) := by decide +kernel
theorem dX2_orderKeeps_87 : decode cX2_orderKeeps 87 = .ok (.aload_n 0, 1) := by decide +kernel
theorem dX2_orderKeeps_88 : decode cX2_orderKeeps 88 = .ok (.getfield 34, 3) := by decide +kernel
theorem dX2_orderKeeps_91 : decode cX2_orderKeeps 91 = .ok (.invokevirtual 84, 3) := by decide +kernel
theorem dX2_orderKeeps_94 : decode cX2_orderKeeps 94 = .ok (.aload_n 0, 1) := by decide +kernel
theorem dX2_orderKeeps_95 : decode cX2_orderKeeps 95 = .ok (.getfield 34, 3) := by decide +kernel
theorem dX2_orderKeeps_98 : decode cX2_orderKeeps 98 = .ok (.aload_n 3, 1) := by decide +kernel
theorem dX2_orderKeeps_99 : decode cX2_orderKeeps 99 = .ok (.invokevirtual 129, 3) := by decide +kernel
theorem dX2_orderKeeps_102 : decode cX2_orderKeeps 102 = .ok (.ifCond .eq 5, 3) := by decide +kernel
theorem dX2_orderKeeps_105 : decode cX2_orderKeeps 105 = .ok (.iconst 0, 1) := by decide +kernel
theorem dX2_orderKeeps_106 : decode cX2_orderKeeps 106 = .ok (.ireturn, 1) := by decide +kernel
theorem dX2_orderKeeps_107 : decode cX2_orderKeeps 107 = .ok (.iinc 5 1, 3) := by decide +kernel
theorem dX2_orderKeeps_110 : decode cX2_orderKeeps 110 = .ok (.goto (-55), 3) := by decide +kernel
theorem dX2_orderKeeps_113 : decode cX2_orderKeeps 113 = .ok (.iload_n 2, 1) := by decide +kernel
theorem dX2_orderKeeps_114 : decode cX2_orderKeeps 114 = .ok (.ifCond .eq 16, 3) := by decide +kernel
theorem dX2_orderKeeps_117 : decode cX2_orderKeeps 117 = .ok (.aload_n 3, 1) := by decide +kernel
theorem dX2_orderKeeps_118 : decode cX2_orderKeeps 118 = .ok (.invokevirtual 132, 3) := by decide +kernel
theorem dX2_orderKeeps_121 : decode cX2_orderKeeps 121 = .ok (.iload 4, 2) := by decide +kernel
theorem dX2_orderKeeps_123 : decode cX2_orderKeeps 123 = .ok (.if_icmp .ne 7, 3) := by decide +kernel
theorem dX2_orderKeeps_126 : decode cX2_orderKeeps 126 = .ok (.iconst 1, 1) := by decide +kernel
theorem dX2_orderKeeps_127 : decode cX2_orderKeeps 127 = .ok (.goto 4, 3) := by decide +kernel
theorem dX2_orderKeeps_130 : decode cX2_orderKeeps 130 = .ok (.iconst 0, 1) := by decide +kernel
theorem dX2_orderKeeps_131 : decode cX2_orderKeeps 131 = .ok (.ireturn, 1) := by decide +kernel
theorem dX2_coversGiveClosure_0 : decode cX2_coversGiveClosure 0 = .ok (.aload_n 0, 1) := by decide +kernel
theorem dX2_coversGiveClosure_1 : decode cX2_coversGiveClosure 1 = .ok (.getfield 21, 3) := by decide +kernel
theorem dX2_coversGiveClosure_4 : decode cX2_coversGiveClosure 4 = .ok (.invokevirtual 113, 3) := by decide +kernel
theorem dX2_coversGiveClosure_7 : decode cX2_coversGiveClosure 7 = .ok (.ifCond .eq 5, 3) := by decide +kernel
theorem dX2_coversGiveClosure_10 : decode cX2_coversGiveClosure 10 = .ok (.iconst 1, 1) := by decide +kernel
theorem dX2_coversGiveClosure_11 : decode cX2_coversGiveClosure 11 = .ok (.ireturn, 1) := by decide +kernel
theorem dX2_coversGiveClosure_12 : decode cX2_coversGiveClosure 12 = .ok (.aload_n 0, 1) := by decide +kernel
theorem dX2_coversGiveClosure_13 : decode cX2_coversGiveClosure 13 = .ok (.getfield 25, 3) := by decide +kernel
theorem dX2_coversGiveClosure_16 : decode cX2_coversGiveClosure 16 = .ok (.aload_n 0, 1) := by decide +kernel
theorem dX2_coversGiveClosure_17 : decode cX2_coversGiveClosure 17 = .ok (.getfield 21, 3) := by decide +kernel
theorem dX2_coversGiveClosure_20 : decode cX2_coversGiveClosure 20 = .ok (.invokevirtual 135, 3) := by decide +kernel
theorem dX2_coversGiveClosure_23 : decode cX2_coversGiveClosure 23 = .ok (.aload_n 0, 1) := by decide +kernel
theorem dX2_coversGiveClosure_24 : decode cX2_coversGiveClosure 24 = .ok (.getfield 25, 3) := by decide +kernel
theorem dX2_coversGiveClosure_27 : decode cX2_coversGiveClosure 27 = .ok (.invokevirtual 49, 3) := by decide +kernel
theorem dX2_coversGiveClosure_30 : decode cX2_coversGiveClosure 30 = .ok (.aload_n 0, 1) := by decide +kernel
theorem dX2_coversGiveClosure_31 : decode cX2_coversGiveClosure 31 = .ok (.getfield 25, 3) := by decide +kernel
theorem dX2_coversGiveClosure_34 : decode cX2_coversGiveClosure 34 = .ok (.aload_n 0, 1) := by decide +kernel
theorem dX2_coversGiveClosure_35 : decode cX2_coversGiveClosure 35 = .ok (.getfield 21, 3) := by decide +kernel
theorem dX2_coversGiveClosure_38 : decode cX2_coversGiveClosure 38 = .ok (.invokevirtual 138, 3) := by decide +kernel
theorem dX2_coversGiveClosure_41 : decode cX2_coversGiveClosure 41 = .ok (.ireturn, 1) := by decide +kernel
theorem dX2_isAssociative_0 : decode cX2_isAssociative 0 = .ok (.aload_n 0, 1) := by decide +kernel
theorem dX2_isAssociative_1 : decode cX2_isAssociative 1 = .ok (.getfield 28, 3) := by decide +kernel
theorem dX2_isAssociative_4 : decode cX2_isAssociative 4 = .ok (.aload_n 1, 1) := by decide +kernel
theorem dX2_isAssociative_5 : decode cX2_isAssociative 5 = .ok (.aload_n 2, 1) := by decide +kernel
theorem dX2_isAssociative_6 : decode cX2_isAssociative 6 = .ok (.invokevirtual 140, 3) := by decide +kernel
theorem dX2_isAssociative_9 : decode cX2_isAssociative 9 = .ok (.aload_n 0, 1) := by decide +kernel
theorem dX2_isAssociative_10 : decode cX2_isAssociative 10 = .ok (.getfield 21, 3) := by decide +kernel
theorem dX2_isAssociative_13 : decode cX2_isAssociative 13 = .ok (.aload_n 0, 1) := by decide +kernel
theorem dX2_isAssociative_14 : decode cX2_isAssociative 14 = .ok (.getfield 28, 3) := by decide +kernel
theorem dX2_isAssociative_17 : decode cX2_isAssociative 17 = .ok (.aload_n 3, 1) := by decide +kernel
theorem dX2_isAssociative_18 : decode cX2_isAssociative 18 = .ok (.invokevirtual 140, 3) := by decide +kernel
theorem dX2_isAssociative_21 : decode cX2_isAssociative 21 = .ok (.aload_n 0, 1) := by decide +kernel
theorem dX2_isAssociative_22 : decode cX2_isAssociative 22 = .ok (.getfield 28, 3) := by decide +kernel
theorem dX2_isAssociative_25 : decode cX2_isAssociative 25 = .ok (.aload_n 2, 1) := by decide +kernel
theorem dX2_isAssociative_26 : decode cX2_isAssociative 26 = .ok (.aload_n 3, 1) := by decide +kernel
theorem dX2_isAssociative_27 : decode cX2_isAssociative 27 = .ok (.invokevirtual 140, 3) := by decide +kernel
theorem dX2_isAssociative_30 : decode cX2_isAssociative 30 = .ok (.aload_n 0, 1) := by decide +kernel
theorem dX2_isAssociative_31 : decode cX2_isAssociative 31 = .ok (.getfield 25, 3) := by decide +kernel
theorem dX2_isAssociative_34 : decode cX2_isAssociative 34 = .ok (.aload_n 1, 1) := by decide +kernel
theorem dX2_isAssociative_35 : decode cX2_isAssociative 35 = .ok (.aload_n 0, 1) := by decide +kernel
theorem dX2_isAssociative_36 : decode cX2_isAssociative 36 = .ok (.getfield 28, 3) := by decide +kernel
theorem dX2_isAssociative_39 : decode cX2_isAssociative 39 = .ok (.invokevirtual 140, 3) := by decide +kernel
theorem dX2_isAssociative_42 : decode cX2_isAssociative 42 = .ok (.aload_n 0, 1) := by decide +kernel
theorem dX2_isAssociative_43 : decode cX2_isAssociative 43 = .ok (.getfield 21, 3) := by decide +kernel
theorem dX2_isAssociative_46 : decode cX2_isAssociative 46 = .ok (.aload_n 0, 1) := by decide +kernel
theorem dX2_isAssociative_47 : decode cX2_isAssociative 47 = .ok (.getfield 25, 3) := by decide +kernel
theorem dX2_isAssociative_50 : decode cX2_isAssociative 50 = .ok (.invokevirtual 138, 3) := by decide +kernel
theorem dX2_isAssociative_53 : decode cX2_isAssociative 53 = .ok (.ireturn, 1) := by decide +kernel
theorem dX2_distributesBefore_0 : decode cX2_distributesBefore 0 = .ok (.aload_n 0, 1) := by decide +kernel
theorem dX2_distributesBefore_1 : decode cX2_distributesBefore 1 = .ok (.getfield 28, 3) := by decide +kernel
theorem dX2_distributesBefore_4 : decode cX2_distributesBefore 4 = .ok (.aload_n 2, 1) := by decide +kernel
theorem dX2_distributesBefore_5 : decode cX2_distributesBefore 5 = .ok (.invokevirtual 45, 3) := by decide +kernel
theorem dX2_distributesBefore_8 : decode cX2_distributesBefore 8 = .ok (.aload_n 0, 1) := by decide +kernel
theorem dX2_distributesBefore_9 : decode cX2_distributesBefore 9 = .ok (.getfield 28, 3) := by decide +kernel
theorem dX2_distributesBefore_12 : decode cX2_distributesBefore 12 = .ok (.aload_n 3, 1) := by decide +kernel
theorem dX2_distributesBefore_13 : decode cX2_distributesBefore 13 = .ok (.iconst 0, 1) := by decide +kernel
theorem dX2_distributesBefore_14 : decode cX2_distributesBefore 14 = .ok (.invokevirtual 144, 3) := by decide +kernel
theorem dX2_distributesBefore_17 : decode cX2_distributesBefore 17 = .ok (.aload_n 0, 1) := by decide +kernel
theorem dX2_distributesBefore_18 : decode cX2_distributesBefore 18 = .ok (.getfield 21, 3) := by decide +kernel
theorem dX2_distributesBefore_21 : decode cX2_distributesBefore 21 = .ok (.aload_n 1, 1) := by decide +kernel
theorem dX2_distributesBefore_22 : decode cX2_distributesBefore 22 = .ok (.aload_n 0, 1) := by decide +kernel
theorem dX2_distributesBefore_23 : decode cX2_distributesBefore 23 = .ok (.getfield 28, 3) := by decide +kernel
theorem dX2_distributesBefore_26 : decode cX2_distributesBefore 26 = .ok (.invokevirtual 140, 3) := by decide +kernel
theorem dX2_distributesBefore_29 : decode cX2_distributesBefore 29 = .ok (.aload_n 0, 1) := by decide +kernel
theorem dX2_distributesBefore_30 : decode cX2_distributesBefore 30 = .ok (.getfield 28, 3) := by decide +kernel
theorem dX2_distributesBefore_33 : decode cX2_distributesBefore 33 = .ok (.aload_n 1, 1) := by decide +kernel
theorem dX2_distributesBefore_34 : decode cX2_distributesBefore 34 = .ok (.aload_n 2, 1) := by decide +kernel
theorem dX2_distributesBefore_35 : decode cX2_distributesBefore 35 = .ok (.invokevirtual 140, 3) := by decide +kernel
theorem dX2_distributesBefore_38 : decode cX2_distributesBefore 38 = .ok (.aload_n 0, 1) := by decide +kernel
theorem dX2_distributesBefore_39 : decode cX2_distributesBefore 39 = .ok (.getfield 25, 3) := by decide +kernel
theorem dX2_distributesBefore_42 : decode cX2_distributesBefore 42 = .ok (.aload_n 1, 1) := by decide +kernel
theorem dX2_distributesBefore_43 : decode cX2_distributesBefore 43 = .ok (.aload_n 3, 1) := by decide +kernel
theorem dX2_distributesBefore_44 : decode cX2_distributesBefore 44 = .ok (.invokevirtual 140, 3) := by decide +kernel
theorem dX2_distributesBefore_47 : decode cX2_distributesBefore 47 = .ok (.aload_n 0, 1) := by decide +kernel
theorem dX2_distributesBefore_48 : decode cX2_distributesBefore 48 = .ok (.getfield 25, 3) := by decide +kernel
theorem dX2_distributesBefore_51 : decode cX2_distributesBefore 51 = .ok (.aload_n 0, 1) := by decide +kernel
theorem dX2_distributesBefore_52 : decode cX2_distributesBefore 52 = .ok (.getfield 28, 3) := by decide +kernel
theorem dX2_distributesBefore_55 : decode cX2_distributesBefore 55 = .ok (.iconst 0, 1) := by decide +kernel
theorem dX2_distributesBefore_56 : decode cX2_distributesBefore 56 = .ok (.invokevirtual 144, 3) := by decide +kernel
theorem dX2_distributesBefore_59 : decode cX2_distributesBefore 59 = .ok (.aload_n 0, 1) := by decide +kernel
theorem dX2_distributesBefore_60 : decode cX2_distributesBefore 60 = .ok (.getfield 21, 3) := by decide +kernel
theorem dX2_distributesBefore_63 : decode cX2_distributesBefore 63 = .ok (.aload_n 0, 1) := by decide +kernel
theorem dX2_distributesBefore_64 : decode cX2_distributesBefore 64 = .ok (.getfield 25, 3) := by decide +kernel
theorem dX2_distributesBefore_67 : decode cX2_distributesBefore 67 = .ok (.invokevirtual 138, 3) := by decide +kernel
theorem dX2_distributesBefore_70 : decode cX2_distributesBefore 70 = .ok (.ireturn, 1) := by decide +kernel
theorem dX2_distributesBehind_0 : decode cX2_distributesBehind 0 = .ok (.aload_n 0, 1) := by decide +kernel
theorem dX2_distributesBehind_1 : decode cX2_distributesBehind 1 = .ok (.getfield 28, 3) := by decide +kernel
theorem dX2_distributesBehind_4 : decode cX2_distributesBehind 4 = .ok (.aload_n 1, 1) := by decide +kernel
theorem dX2_distributesBehind_5 : decode cX2_distributesBehind 5 = .ok (.invokevirtual 45, 3) := by decide +kernel
theorem dX2_distributesBehind_8 : decode cX2_distributesBehind 8 = .ok (.aload_n 0, 1) := by decide +kernel
theorem dX2_distributesBehind_9 : decode cX2_distributesBehind 9 = .ok (.getfield 28, 3) := by decide +kernel
theorem dX2_distributesBehind_12 : decode cX2_distributesBehind 12 = .ok (.aload_n 2, 1) := by decide +kernel
theorem dX2_distributesBehind_13 : decode cX2_distributesBehind 13 = .ok (.iconst 0, 1) := by decide +kernel
theorem dX2_distributesBehind_14 : decode cX2_distributesBehind 14 = .ok (.invokevirtual 144, 3) := by decide +kernel
theorem dX2_distributesBehind_17 : decode cX2_distributesBehind 17 = .ok (.aload_n 0, 1) := by decide +kernel
theorem dX2_distributesBehind_18 : decode cX2_distributesBehind 18 = .ok (.getfield 21, 3) := by decide +kernel
theorem dX2_distributesBehind_21 : decode cX2_distributesBehind 21 = .ok (.aload_n 0, 1) := by decide +kernel
theorem dX2_distributesBehind_22 : decode cX2_distributesBehind 22 = .ok (.getfield 28, 3) := by decide +kernel
theorem dX2_distributesBehind_25 : decode cX2_distributesBehind 25 = .ok (.aload_n 3, 1) := by decide +kernel
theorem dX2_distributesBehind_26 : decode cX2_distributesBehind 26 = .ok (.invokevirtual 140, 3) := by decide +kernel
theorem dX2_distributesBehind_29 : decode cX2_distributesBehind 29 = .ok (.aload_n 0, 1) := by decide +kernel
theorem dX2_distributesBehind_30 : decode cX2_distributesBehind 30 = .ok (.getfield 28, 3) := by decide +kernel
theorem dX2_distributesBehind_33 : decode cX2_distributesBehind 33 = .ok (.aload_n 1, 1) := by decide +kernel
theorem dX2_distributesBehind_34 : decode cX2_distributesBehind 34 = .ok (.aload_n 3, 1) := by decide +kernel
theorem dX2_distributesBehind_35 : decode cX2_distributesBehind 35 = .ok (.invokevirtual 140, 3) := by decide +kernel
theorem dX2_distributesBehind_38 : decode cX2_distributesBehind 38 = .ok (.aload_n 0, 1) := by decide +kernel
theorem dX2_distributesBehind_39 : decode cX2_distributesBehind 39 = .ok (.getfield 25, 3) := by decide +kernel
theorem dX2_distributesBehind_42 : decode cX2_distributesBehind 42 = .ok (.aload_n 2, 1) := by decide +kernel
theorem dX2_distributesBehind_43 : decode cX2_distributesBehind 43 = .ok (.aload_n 3, 1) := by decide +kernel
theorem dX2_distributesBehind_44 : decode cX2_distributesBehind 44 = .ok (.invokevirtual 140, 3) := by decide +kernel
theorem dX2_distributesBehind_47 : decode cX2_distributesBehind 47 = .ok (.aload_n 0, 1) := by decide +kernel
theorem dX2_distributesBehind_48 : decode cX2_distributesBehind 48 = .ok (.getfield 25, 3) := by decide +kernel
theorem dX2_distributesBehind_51 : decode cX2_distributesBehind 51 = .ok (.aload_n 0, 1) := by decide +kernel
theorem dX2_distributesBehind_52 : decode cX2_distributesBehind 52 = .ok (.getfield 28, 3) := by decide +kernel
theorem dX2_distributesBehind_55 : decode cX2_distributesBehind 55 = .ok (.iconst 0, 1) := by decide +kernel
theorem dX2_distributesBehind_56 : decode cX2_distributesBehind 56 = .ok (.invokevirtual 144, 3) := by decide +kernel
theorem dX2_distributesBehind_59 : decode cX2_distributesBehind 59 = .ok (.aload_n 0, 1) := by decide +kernel
theorem dX2_distributesBehind_60 : decode cX2_distributesBehind 60 = .ok (.getfield 21, 3) := by decide +kernel
theorem dX2_distributesBehind_63 : decode cX2_distributesBehind 63 = .ok (.aload_n 0, 1) := by decide +kernel
theorem dX2_distributesBehind_64 : decode cX2_distributesBehind 64 = .ok (.getfield 25, 3) := by decide +kernel
theorem dX2_distributesBehind_67 : decode cX2_distributesBehind 67 = .ok (.invokevirtual 138, 3) := by decide +kernel
theorem dX2_distributesBehind_70 : decode cX2_distributesBehind 70 = .ok (.ireturn, 1) := by decide +kernel
theorem dX3_init_0 : decode cX3_init 0 = .ok (.aload_n 0, 1) := by decide +kernel
theorem dX3_init_1 : decode cX3_init 1 = .ok (.invokespecial 3, 3) := by decide +kernel
theorem dX3_init_4 : decode cX3_init 4 = .ok (.aload_n 0, 1) := by decide +kernel
theorem dX3_init_5 : decode cX3_init 5 = .ok (.new 9, 3) := by decide +kernel
theorem dX3_init_8 : decode cX3_init 8 = .ok (.dup, 1) := by decide +kernel
theorem dX3_init_9 : decode cX3_init 9 = .ok (.invokespecial 11, 3) := by decide +kernel
theorem dX3_init_12 : decode cX3_init 12 = .ok (.putfield 12, 3) := by decide +kernel
theorem dX3_init_15 : decode cX3_init 15 = .ok (.aload_n 0, 1) := by decide +kernel
theorem dX3_init_16 : decode cX3_init 16 = .ok (.new 9, 3) := by decide +kernel
theorem dX3_init_19 : decode cX3_init 19 = .ok (.dup, 1) := by decide +kernel
theorem dX3_init_20 : decode cX3_init 20 = .ok (.invokespecial 11, 3) := by decide +kernel
theorem dX3_init_23 : decode cX3_init 23 = .ok (.putfield 18, 3) := by decide +kernel
theorem dX3_init_26 : decode cX3_init 26 = .ok (.aload_n 0, 1) := by decide +kernel
theorem dX3_init_27 : decode cX3_init 27 = .ok (.new 9, 3) := by decide +kernel
theorem dX3_init_30 : decode cX3_init 30 = .ok (.dup, 1) := by decide +kernel
theorem dX3_init_31 : decode cX3_init 31 = .ok (.invokespecial 11, 3) := by decide +kernel
theorem dX3_init_34 : decode cX3_init 34 = .ok (.putfield 21, 3) := by decide +kernel
theorem dX3_init_37 : decode cX3_init 37 = .ok (.aload_n 0, 1) := by decide +kernel
theorem dX3_init_38 : decode cX3_init 38 = .ok (.new 9, 3) := by decide +kernel
theorem dX3_init_41 : decode cX3_init 41 = .ok (.dup, 1) := by decide +kernel
theorem dX3_init_42 : decode cX3_init 42 = .ok (.invokespecial 11, 3) := by decide +kernel
theorem dX3_init_45 : decode cX3_init 45 = .ok (.putfield 24, 3) := by decide +kernel
theorem dX3_init_48 : decode cX3_init 48 = .ok (.aload_n 0, 1) := by decide +kernel
theorem dX3_init_49 : decode cX3_init 49 = .ok (.new 9, 3) := by decide +kernel
theorem dX3_init_52 : decode cX3_init 52 = .ok (.dup, 1) := by decide +kernel
theorem dX3_init_53 : decode cX3_init 53 = .ok (.invokespecial 11, 3) := by decide +kernel
theorem dX3_init_56 : decode cX3_init 56 = .ok (.putfield 27, 3) := by decide +kernel
theorem dX3_init_59 : decode cX3_init 59 = .ok (.aload_n 0, 1) := by decide +kernel
theorem dX3_init_60 : decode cX3_init 60 = .ok (.bipush 80, 2) := by decide +kernel
theorem dX3_init_62 : decode cX3_init 62 = .ok (.newarray .int, 2) := by decide +kernel
theorem dX3_init_64 : decode cX3_init 64 = .ok (.putfield 30, 3) := by decide +kernel
theorem dX3_init_67 : decode cX3_init 67 = .ok (.return_, 1) := by decide +kernel
theorem dX3_stepsBetween_0 : decode cX3_stepsBetween 0 = .ok (.aload_n 1, 1) := by decide +kernel
theorem dX3_stepsBetween_1 : decode cX3_stepsBetween 1 = .ok (.invokevirtual 34, 3) := by decide +kernel
theorem dX3_stepsBetween_4 : decode cX3_stepsBetween 4 = .ok (.istore 4, 2) := by decide +kernel
theorem dX3_stepsBetween_6 : decode cX3_stepsBetween 6 = .ok (.aload_n 0, 1) := by decide +kernel
theorem dX3_stepsBetween_7 : decode cX3_stepsBetween 7 = .ok (.aload_n 1, 1) := by decide +kernel
theorem dX3_stepsBetween_8 : decode cX3_stepsBetween 8 = .ok (.iload_n 2, 1) := by decide +kernel
theorem dX3_stepsBetween_9 : decode cX3_stepsBetween 9 = .ok (.invokevirtual 40, 3) := by decide +kernel
theorem dX3_stepsBetween_12 : decode cX3_stepsBetween 12 = .ok (.iconst 1, 1) := by decide +kernel
theorem dX3_stepsBetween_13 : decode cX3_stepsBetween 13 = .ok (.istore 5, 2) := by decide +kernel
theorem dX3_stepsBetween_15 : decode cX3_stepsBetween 15 = .ok (.iload 5, 2) := by decide +kernel
theorem dX3_stepsBetween_17 : decode cX3_stepsBetween 17 = .ok (.iload 4, 2) := by decide +kernel
theorem dX3_stepsBetween_19 : decode cX3_stepsBetween 19 = .ok (.if_icmp .gt 28, 3) := by decide +kernel
theorem dX3_stepsBetween_22 : decode cX3_stepsBetween 22 = .ok (.aload_n 0, 1) := by decide +kernel
theorem dX3_stepsBetween_23 : decode cX3_stepsBetween 23 = .ok (.getfield 18, 3) := by decide +kernel
theorem dX3_stepsBetween_26 : decode cX3_stepsBetween 26 = .ok (.iload_n 3, 1) := by decide +kernel
theorem dX3_stepsBetween_27 : decode cX3_stepsBetween 27 = .ok (.invokevirtual 44, 3) := by decide +kernel
theorem dX3_stepsBetween_30 : decode cX3_stepsBetween 30 = .ok (.ifCond .eq 6, 3) := by decide +kernel
theorem dX3_stepsBetween_33 : decode cX3_stepsBetween 33 = .ok (.iload 5, 2) := by decide +kernel
theorem dX3_stepsBetween_35 : decode cX3_stepsBetween 35 = .ok (.ireturn, 1) := by decide +kernel
theorem dX3_stepsBetween_36 : decode cX3_stepsBetween 36 = .ok (.aload_n 0, 1) := by decide +kernel
theorem dX3_stepsBetween_37 : decode cX3_stepsBetween 37 = .ok (.aload_n 1, 1) := by decide +kernel
theorem dX3_stepsBetween_38 : decode cX3_stepsBetween 38 = .ok (.invokevirtual 48, 3) := by decide +kernel
theorem dX3_stepsBetween_41 : decode cX3_stepsBetween 41 = .ok (.iinc 5 1, 3) := by decide +kernel
theorem dX3_stepsBetween_44 : decode cX3_stepsBetween 44 = .ok (.goto (-29), 3) := by decide +kernel
theorem dX3_stepsBetween_47 : decode cX3_stepsBetween 47 = .ok (.iconst (-1), 1) := by decide +kernel
theorem dX3_stepsBetween_48 : decode cX3_stepsBetween 48 = .ok (.ireturn, 1) := by decide +kernel
theorem dX3_reachFrom_0 : decode cX3_reachFrom 0 = .ok (.aload_n 1, 1) := by decide +kernel
theorem dX3_reachFrom_1 : decode cX3_reachFrom 1 = .ok (.invokevirtual 34, 3) := by decide +kernel
theorem dX3_reachFrom_4 : decode cX3_reachFrom 4 = .ok (.istore 4, 2) := by decide +kernel
theorem dX3_reachFrom_6 : decode cX3_reachFrom 6 = .ok (.aload_n 0, 1) := by decide +kernel
theorem dX3_reachFrom_7 : decode cX3_reachFrom 7 = .ok (.aload_n 1, 1) := by decide +kernel
theorem dX3_reachFrom_8 : decode cX3_reachFrom 8 = .ok (.iload_n 2, 1) := by decide +kernel
theorem dX3_reachFrom_9 : decode cX3_reachFrom 9 = .ok (.invokevirtual 40, 3) := by decide +kernel
theorem dX3_reachFrom_12 : decode cX3_reachFrom 12 = .ok (.iconst 1, 1) := by decide +kernel
theorem dX3_reachFrom_13 : decode cX3_reachFrom 13 = .ok (.istore 5, 2) := by decide +kernel
theorem dX3_reachFrom_15 : decode cX3_reachFrom 15 = .ok (.iload 5, 2) := by decide +kernel
theorem dX3_reachFrom_17 : decode cX3_reachFrom 17 = .ok (.iload 4, 2) := by decide +kernel
theorem dX3_reachFrom_19 : decode cX3_reachFrom 19 = .ok (.if_icmp .gt 24, 3) := by decide +kernel
theorem dX3_reachFrom_22 : decode cX3_reachFrom 22 = .ok (.aload_n 0, 1) := by decide +kernel
theorem dX3_reachFrom_23 : decode cX3_reachFrom 23 = .ok (.getfield 18, 3) := by decide +kernel
theorem dX3_reachFrom_26 : decode cX3_reachFrom 26 = .ok (.invokevirtual 52, 3) := by decide +kernel
theorem dX3_reachFrom_29 : decode cX3_reachFrom 29 = .ok (.ifCond .ne 14, 3) := by decide +kernel
theorem dX3_reachFrom_32 : decode cX3_reachFrom 32 = .ok (.aload_n 0, 1) := by decide +kernel
theorem dX3_reachFrom_33 : decode cX3_reachFrom 33 = .ok (.aload_n 1, 1) := by decide +kernel
theorem dX3_reachFrom_34 : decode cX3_reachFrom 34 = .ok (.invokevirtual 48, 3) := by decide +kernel
theorem dX3_reachFrom_37 : decode cX3_reachFrom 37 = .ok (.iinc 5 1, 3) := by decide +kernel
theorem dX3_reachFrom_40 : decode cX3_reachFrom 40 = .ok (.goto (-25), 3) := by decide +kernel
theorem dX3_reachFrom_43 : decode cX3_reachFrom 43 = .ok (.aload_n 3, 1) := by decide +kernel
theorem dX3_reachFrom_44 : decode cX3_reachFrom 44 = .ok (.aload_n 0, 1) := by decide +kernel
theorem dX3_reachFrom_45 : decode cX3_reachFrom 45 = .ok (.getfield 12, 3) := by decide +kernel
theorem dX3_reachFrom_48 : decode cX3_reachFrom 48 = .ok (.invokevirtual 56, 3) := by decide +kernel
theorem dX3_reachFrom_51 : decode cX3_reachFrom 51 = .ok (.return_, 1) := by decide +kernel
theorem dX3_leave_0 : decode cX3_leave 0 = .ok (.aload_n 1, 1) := by decide +kernel
theorem dX3_leave_1 : decode cX3_leave 1 = .ok (.iload_n 2, 1) := by decide +kernel
theorem dX3_leave_2 : decode cX3_leave 2 = .ok (.aload_n 0, 1) := by decide +kernel
theorem dX3_leave_3 : decode cX3_leave 3 = .ok (.getfield 18, 3) := by decide +kernel
theorem dX3_leave_6 : decode cX3_leave 6 = .ok (.invokevirtual 60, 3) := by decide +kernel
theorem dX3_leave_9 : decode cX3_leave 9 = .ok (.aload_n 0, 1) := by decide +kernel
theorem dX3_leave_10 : decode cX3_leave 10 = .ok (.getfield 12, 3) := by decide +kernel
theorem dX3_leave_13 : decode cX3_leave 13 = .ok (.aload_n 0, 1) := by decide +kernel
theorem dX3_leave_14 : decode cX3_leave 14 = .ok (.getfield 18, 3) := by decide +kernel
theorem dX3_leave_17 : decode cX3_leave 17 = .ok (.invokevirtual 56, 3) := by decide +kernel
theorem dX3_leave_20 : decode cX3_leave 20 = .ok (.return_, 1) := by decide +kernel
theorem dX3_goOn_0 : decode cX3_goOn 0 = .ok (.aload_n 1, 1) := by decide +kernel
theorem dX3_goOn_1 : decode cX3_goOn 1 = .ok (.aload_n 0, 1) := by decide +kernel
theorem dX3_goOn_2 : decode cX3_goOn 2 = .ok (.getfield 18, 3) := by decide +kernel
theorem dX3_goOn_5 : decode cX3_goOn 5 = .ok (.aload_n 0, 1) := by decide +kernel
theorem dX3_goOn_6 : decode cX3_goOn 6 = .ok (.getfield 18, 3) := by decide +kernel
theorem dX3_goOn_9 : decode cX3_goOn 9 = .ok (.invokevirtual 64, 3) := by decide +kernel
theorem dX3_goOn_12 : decode cX3_goOn 12 = .ok (.aload_n 0, 1) := by decide +kernel
theorem dX3_goOn_13 : decode cX3_goOn 13 = .ok (.getfield 18, 3) := by decide +kernel
theorem dX3_goOn_16 : decode cX3_goOn 16 = .ok (.aload_n 0, 1) := by decide +kernel
theorem dX3_goOn_17 : decode cX3_goOn 17 = .ok (.getfield 12, 3) := by decide +kernel
theorem dX3_goOn_20 : decode cX3_goOn 20 = .ok (.invokevirtual 68, 3) := by decide +kernel
theorem dX3_goOn_23 : decode cX3_goOn 23 = .ok (.aload_n 0, 1) := by decide +kernel
theorem dX3_goOn_24 : decode cX3_goOn 24 = .ok (.getfield 12, 3) := by decide +kernel
theorem dX3_goOn_27 : decode cX3_goOn 27 = .ok (.aload_n 0, 1) := by decide +kernel
theorem dX3_goOn_28 : decode cX3_goOn 28 = .ok (.getfield 18, 3) := by decide +kernel
theorem dX3_goOn_31 : decode cX3_goOn 31 = .ok (.invokevirtual 71, 3) := by decide +kernel
theorem dX3_goOn_34 : decode cX3_goOn 34 = .ok (.return_, 1) := by decide +kernel
theorem dX3_longest_0 : decode cX3_longest 0 = .ok (.aload_n 1, 1) := by decide +kernel
theorem dX3_longest_1 : decode cX3_longest 1 = .ok (.invokevirtual 34, 3) := by decide +kernel
theorem dX3_longest_4 : decode cX3_longest 4 = .ok (.istore_n 2, 1) := by decide +kernel
theorem dX3_longest_5 : decode cX3_longest 5 = .ok (.aload_n 0, 1) := by decide +kernel
theorem dX3_longest_6 : decode cX3_longest 6 = .ok (.getfield 18, 3) := by decide +kernel
theorem dX3_longest_9 : decode cX3_longest 9 = .ok (.invokevirtual 74, 3) := by decide +kernel
theorem dX3_longest_12 : decode cX3_longest 12 = .ok (.aload_n 0, 1) := by decide +kernel
theorem dX3_longest_13 : decode cX3_longest 13 = .ok (.getfield 18, 3) := by decide +kernel
theorem dX3_longest_16 : decode cX3_longest 16 = .ok (.iconst 0, 1) := by decide +kernel
theorem dX3_longest_17 : decode cX3_longest 17 = .ok (.iload_n 2, 1) := by decide +kernel
theorem dX3_longest_18 : decode cX3_longest 18 = .ok (.iconst 1, 1) := by decide +kernel
theorem dX3_longest_19 : decode cX3_longest 19 = .ok (.invokevirtual 77, 3) := by decide +kernel
theorem dX3_longest_22 : decode cX3_longest 22 = .ok (.iconst 0, 1) := by decide +kernel
theorem dX3_longest_23 : decode cX3_longest 23 = .ok (.istore_n 3, 1) := by decide +kernel
theorem dX3_longest_24 : decode cX3_longest 24 = .ok (.iload_n 3, 1) := by decide +kernel
theorem dX3_longest_25 : decode cX3_longest 25 = .ok (.iload_n 2, 1) := by decide +kernel
theorem dX3_longest_26 : decode cX3_longest 26 = .ok (.if_icmp .ge 33, 3) := by decide +kernel
theorem dX3_longest_29 : decode cX3_longest 29 = .ok (.aload_n 1, 1) := by decide +kernel
theorem dX3_longest_30 : decode cX3_longest 30 = .ok (.aload_n 0, 1) := by decide +kernel
theorem dX3_longest_31 : decode cX3_longest 31 = .ok (.getfield 18, 3) := by decide +kernel
theorem dX3_longest_34 : decode cX3_longest 34 = .ok (.aload_n 0, 1) := by decide +kernel
theorem dX3_longest_35 : decode cX3_longest 35 = .ok (.getfield 18, 3) := by decide +kernel
theorem dX3_longest_38 : decode cX3_longest 38 = .ok (.invokevirtual 64, 3) := by decide +kernel
theorem dX3_longest_41 : decode cX3_longest 41 = .ok (.aload_n 0, 1) := by decide +kernel
theorem dX3_longest_42 : decode cX3_longest 42 = .ok (.getfield 18, 3) := by decide +kernel
theorem dX3_longest_45 : decode cX3_longest 45 = .ok (.invokevirtual 52, 3) := by decide +kernel
theorem dX3_longest_48 : decode cX3_longest 48 = .ok (.ifCond .eq 5, 3) := by decide +kernel
theorem dX3_longest_51 : decode cX3_longest 51 = .ok (.iload_n 3, 1) := by decide +kernel
theorem dX3_longest_52 : decode cX3_longest 52 = .ok (.ireturn, 1) := by decide +kernel
theorem dX3_longest_53 : decode cX3_longest 53 = .ok (.iinc 3 1, 3) := by decide +kernel
theorem dX3_longest_56 : decode cX3_longest 56 = .ok (.goto (-32), 3) := by decide +kernel
theorem dX3_longest_59 : decode cX3_longest 59 = .ok (.iconst (-1), 1) := by decide +kernel
theorem dX3_longest_60 : decode cX3_longest 60 = .ok (.ireturn, 1) := by decide +kernel
theorem dX3_findOrder_0 : decode cX3_findOrder 0 = .ok (.aload_n 1, 1) := by decide +kernel
theorem dX3_findOrder_1 : decode cX3_findOrder 1 = .ok (.invokevirtual 34, 3) := by decide +kernel
theorem dX3_findOrder_4 : decode cX3_findOrder 4 = .ok (.istore_n 2, 1) := by decide +kernel
theorem dX3_findOrder_5 : decode cX3_findOrder 5 = .ok (.aload_n 0, 1) := by decide +kernel
theorem dX3_findOrder_6 : decode cX3_findOrder 6 = .ok (.getfield 21, 3) := by decide +kernel
theorem dX3_findOrder_9 : decode cX3_findOrder 9 = .ok (.invokevirtual 74, 3) := by decide +kernel
theorem dX3_findOrder_12 : decode cX3_findOrder 12 = .ok (.aload_n 0, 1) := by decide +kernel
theorem dX3_findOrder_13 : decode cX3_findOrder 13 = .ok (.getfield 21, 3) := by decide +kernel
theorem dX3_findOrder_16 : decode cX3_findOrder 16 = .ok (.iconst 0, 1) := by decide +kernel
theorem dX3_findOrder_17 : decode cX3_findOrder 17 = .ok (.iload_n 2, 1) := by decide +kernel
theorem dX3_findOrder_18 : decode cX3_findOrder 18 = .ok (.iconst 1, 1) := by decide +kernel
theorem dX3_findOrder_19 : decode cX3_findOrder 19 = .ok (.invokevirtual 77, 3) := by decide +kernel
theorem dX3_findOrder_22 : decode cX3_findOrder 22 = .ok (.iconst 0, 1) := by decide +kernel
theorem dX3_findOrder_23 : decode cX3_findOrder 23 = .ok (.istore_n 3, 1) := by decide +kernel
theorem dX3_findOrder_24 : decode cX3_findOrder 24 = .ok (.iload_n 3, 1) := by decide +kernel
theorem dX3_findOrder_25 : decode cX3_findOrder 25 = .ok (.iload_n 2, 1) := by decide +kernel
theorem dX3_findOrder_26 : decode cX3_findOrder 26 = .ok (.if_icmp .ge 92, 3) := by decide +kernel
theorem dX3_findOrder_29 : decode cX3_findOrder 29 = .ok (.iload_n 3, 1) := by decide +kernel
theorem dX3_findOrder_30 : decode cX3_findOrder 30 = .ok (.aload_n 0, 1) := by decide +kernel
theorem dX3_findOrder_31 : decode cX3_findOrder 31 = .ok (.getfield 30, 3) := by decide +kernel
theorem dX3_findOrder_34 : decode cX3_findOrder 34 = .ok (.arraylength, 1) := by decide +kernel
theorem dX3_findOrder_35 : decode cX3_findOrder 35 = .ok (.if_icmp .ge 83, 3) := by decide +kernel
theorem dX3_findOrder_38 : decode cX3_findOrder 38 = .ok (.aload_n 1, 1) := by decide +kernel
theorem dX3_findOrder_39 : decode cX3_findOrder 39 = .ok (.aload_n 0, 1) := by decide +kernel
theorem dX3_findOrder_40 : decode cX3_findOrder 40 = .ok (.getfield 21, 3) := by decide +kernel
theorem dX3_findOrder_43 : decode cX3_findOrder 43 = .ok (.aload_n 0, 1) := by decide +kernel
theorem dX3_findOrder_44 : decode cX3_findOrder 44 = .ok (.getfield 24, 3) := by decide +kernel
theorem dX3_findOrder_47 : decode cX3_findOrder 47 = .ok (.invokevirtual 64, 3) := by decide +kernel
theorem dX3_findOrder_50 : decode cX3_findOrder 50 = .ok (.aload_n 0, 1) := by decide +kernel
theorem dX3_findOrder_51 : decode cX3_findOrder 51 = .ok (.getfield 27, 3) := by decide +kernel
theorem dX3_findOrder_54 : decode cX3_findOrder 54 = .ok (.aload_n 0, 1) := by decide +kernel
theorem dX3_findOrder_55 : decode cX3_findOrder 55 = .ok (.getfield 21, 3) := by decide +kernel
theorem dX3_findOrder_58 : decode cX3_findOrder 58 = .ok (.invokevirtual 56, 3) := by decide +kernel
theorem dX3_findOrder_61 : decode cX3_findOrder 61 = .ok (.aload_n 0, 1) := by decide +kernel
theorem dX3_findOrder_62 : decode cX3_findOrder 62 = .ok (.getfield 27, 3) := by decide +kernel
theorem dX3_findOrder_65 : decode cX3_findOrder 65 = .ok (.aload_n 0, 1) := by decide +kernel
theorem dX3_findOrder_66 : decode cX3_findOrder 66 = .ok (.getfield 24, 3) := by decide +kernel
theorem dX3_findOrder_69 : decode cX3_findOrder 69 = .ok (.invokevirtual 68, 3) := by decide +kernel
theorem dX3_findOrder_72 : decode cX3_findOrder 72 = .ok (.aload_n 0, 1) := by decide +kernel
theorem dX3_findOrder_73 : decode cX3_findOrder 73 = .ok (.getfield 27, 3) := by decide +kernel
theorem dX3_findOrder_76 : decode cX3_findOrder 76 = .ok (.iconst 0, 1) := by decide +kernel
theorem dX3_findOrder_77 : decode cX3_findOrder 77 = .ok (.invokevirtual 81, 3) := by decide +kernel
theorem dX3_findOrder_80 : decode cX3_findOrder 80 = .ok (.istore 4, 2) := by decide +kernel
theorem dX3_findOrder_82 : decode cX3_findOrder 82 = .ok (.iload 4, 2) := by decide +kernel
theorem dX3_findOrder_84 : decode cX3_findOrder 84 = .ok (.iconst (-1), 1) := by decide +kernel
theorem dX3_findOrder_85 : decode cX3_findOrder 85 = .ok (.if_icmp .ne 5, 3) := by decide +kernel
theorem dX3_findOrder_88 : decode cX3_findOrder 88 = .ok (.iconst 0, 1) := by decide +kernel
theorem dX3_findOrder_89 : decode cX3_findOrder 89 = .ok (.ireturn, 1) := by decide +kernel
theorem dX3_findOrder_90 : decode cX3_findOrder 90 = .ok (.aload_n 0, 1) := by decide +kernel
theorem dX3_findOrder_91 : decode cX3_findOrder 91 = .ok (.getfield 30, 3) := by decide +kernel
theorem dX3_findOrder_94 : decode cX3_findOrder 94 = .ok (.iload_n 3, 1) := by decide +kernel
theorem dX3_findOrder_95 : decode cX3_findOrder 95 = .ok (.iload 4, 2) := by decide +kernel
theorem dX3_findOrder_97 : decode cX3_findOrder 97 = .ok (.iastore, 1) := by decide +kernel
theorem dX3_findOrder_98 : decode cX3_findOrder 98 = .ok (.aload_n 0, 1) := by decide +kernel
theorem dX3_findOrder_99 : decode cX3_findOrder 99 = .ok (.getfield 21, 3) := by decide +kernel
theorem dX3_findOrder_102 : decode cX3_findOrder 102 = .ok (.iload 4, 2) := by decide +kernel
theorem dX3_findOrder_104 : decode cX3_findOrder 104 = .ok (.iload 4, 2) := by decide +kernel
theorem dX3_findOrder_106 : decode cX3_findOrder 106 = .ok (.iconst 1, 1) := by decide +kernel
theorem dX3_findOrder_107 : decode cX3_findOrder 107 = .ok (.iadd, 1) := by decide +kernel
theorem dX3_findOrder_108 : decode cX3_findOrder 108 = .ok (.iconst 0, 1) := by decide +kernel
theorem dX3_findOrder_109 : decode cX3_findOrder 109 = .ok (.invokevirtual 77, 3) := by decide +kernel
theorem dX3_findOrder_112 : decode cX3_findOrder 112 = .ok (.iinc 3 1, 3) := by decide +kernel
theorem dX3_findOrder_115 : decode cX3_findOrder 115 = .ok (.goto (-91), 3) := by decide +kernel
theorem dX3_findOrder_118 : decode cX3_findOrder 118 = .ok (.iconst 1, 1) := by decide +kernel
theorem dX3_findOrder_119 : decode cX3_findOrder 119 = .ok (.ireturn, 1) := by decide +kernel
theorem dX3_orderedAt_0 : decode cX3_orderedAt 0 = .ok (.iload_n 1, 1) := by decide +kernel
theorem dX3_orderedAt_1 : decode cX3_orderedAt 1 = .ok (.ifCond .lt 12, 3) := by decide +kernel
theorem dX3_orderedAt_4 : decode cX3_orderedAt 4 = .ok (.iload_n 1, 1) := by decide +kernel
theorem dX3_orderedAt_5 : decode cX3_orderedAt 5 = .ok (.aload_n 0, 1) := by decide +kernel
theorem dX3_orderedAt_6 : decode cX3_orderedAt 6 = .ok (.getfield 30, 3) := by decide +kernel
theorem dX3_orderedAt_9 : decode cX3_orderedAt 9 = .ok (.arraylength, 1) := by decide +kernel
theorem dX3_orderedAt_10 : decode cX3_orderedAt 10 = .ok (.if_icmp .lt 7, 3) := by decide +kernel
theorem dX3_orderedAt_13 : decode cX3_orderedAt 13 = .ok (.iconst (-1), 1) := by decide +kernel
theorem dX3_orderedAt_14 : decode cX3_orderedAt 14 = .ok (.goto 9, 3) := by decide +kernel
theorem dX3_orderedAt_17 : decode cX3_orderedAt 17 = .ok (.aload_n 0, 1) := by decide +kernel
theorem dX3_orderedAt_18 : decode cX3_orderedAt 18 = .ok (.getfield 30, 3) := by decide +kernel
theorem dX3_orderedAt_21 : decode cX3_orderedAt 21 = .ok (.iload_n 1, 1) := by decide +kernel
theorem dX3_orderedAt_22 : decode cX3_orderedAt 22 = .ok (.iaload, 1) := by decide +kernel
theorem dX3_orderedAt_23 : decode cX3_orderedAt 23 = .ok (.ireturn, 1) := by decide +kernel
theorem dX4_init_0 : decode cX4_init 0 = .ok (.aload_n 0, 1) := by decide +kernel
theorem dX4_init_1 : decode cX4_init 1 = .ok (.invokespecial 1, 3) := by decide +kernel
theorem dX4_init_4 : decode cX4_init 4 = .ok (.aload_n 0, 1) := by decide +kernel
theorem dX4_init_5 : decode cX4_init 5 = .ok (.bipush 12, 2) := by decide +kernel
theorem dX4_init_7 : decode cX4_init 7 = .ok (.putfield 9, 3) := by decide +kernel
theorem dX4_init_10 : decode cX4_init 10 = .ok (.aload_n 0, 1) := by decide +kernel
theorem dX4_init_11 : decode cX4_init 11 = .ok (.iconst 4, 1) := by decide +kernel
theorem dX4_init_12 : decode cX4_init 12 = .ok (.anewarray 13, 3) := by decide +kernel
theorem dX4_init_15 : decode cX4_init 15 = .ok (.putfield 15, 3) := by decide +kernel
theorem dX4_init_18 : decode cX4_init 18 = .ok (.iconst 0, 1) := by decide +kernel
theorem dX4_init_19 : decode cX4_init 19 = .ok (.istore_n 1, 1) := by decide +kernel
theorem dX4_init_20 : decode cX4_init 20 = .ok (.iload_n 1, 1) := by decide +kernel
theorem dX4_init_21 : decode cX4_init 21 = .ok (.aload_n 0, 1) := by decide +kernel
theorem dX4_init_22 : decode cX4_init 22 = .ok (.getfield 15, 3) := by decide +kernel
theorem dX4_init_25 : decode cX4_init 25 = .ok (.arraylength, 1) := by decide +kernel
theorem dX4_init_26 : decode cX4_init 26 = .ok (.if_icmp .ge 22, 3) := by decide +kernel
theorem dX4_init_29 : decode cX4_init 29 = .ok (.aload_n 0, 1) := by decide +kernel
theorem dX4_init_30 : decode cX4_init 30 = .ok (.getfield 15, 3) := by decide +kernel
theorem dX4_init_33 : decode cX4_init 33 = .ok (.iload_n 1, 1) := by decide +kernel
theorem dX4_init_34 : decode cX4_init 34 = .ok (.new 13, 3) := by decide +kernel
theorem dX4_init_37 : decode cX4_init 37 = .ok (.dup, 1) := by decide +kernel
theorem dX4_init_38 : decode cX4_init 38 = .ok (.invokespecial 19, 3) := by decide +kernel
theorem dX4_init_41 : decode cX4_init 41 = .ok (.aastore, 1) := by decide +kernel
theorem dX4_init_42 : decode cX4_init 42 = .ok (.iinc 1 1, 3) := by decide +kernel
theorem dX4_init_45 : decode cX4_init 45 = .ok (.goto (-25), 3) := by decide +kernel
theorem dX4_init_48 : decode cX4_init 48 = .ok (.aload_n 0, 1) := by decide +kernel
theorem dX4_init_49 : decode cX4_init 49 = .ok (.new 20, 3) := by decide +kernel
theorem dX4_init_52 : decode cX4_init 52 = .ok (.dup, 1) := by decide +kernel
theorem dX4_init_53 : decode cX4_init 53 = .ok (.invokespecial 22, 3) := by decide +kernel
theorem dX4_init_56 : decode cX4_init 56 = .ok (.putfield 23, 3) := by decide +kernel
theorem dX4_init_59 : decode cX4_init 59 = .ok (.aload_n 0, 1) := by decide +kernel
theorem dX4_init_60 : decode cX4_init 60 = .ok (.new 20, 3) := by decide +kernel
theorem dX4_init_63 : decode cX4_init 63 = .ok (.dup, 1) := by decide +kernel
theorem dX4_init_64 : decode cX4_init 64 = .ok (.invokespecial 22, 3) := by decide +kernel
theorem dX4_init_67 : decode cX4_init 67 = .ok (.putfield 27, 3) := by decide +kernel
theorem dX4_init_70 : decode cX4_init 70 = .ok (.aload_n 0, 1) := by decide +kernel
theorem dX4_init_71 : decode cX4_init 71 = .ok (.new 13, 3) := by decide +kernel
theorem dX4_init_74 : decode cX4_init 74 = .ok (.dup, 1) := by decide +kernel
theorem dX4_init_75 : decode cX4_init 75 = .ok (.invokespecial 19, 3) := by decide +kernel
theorem dX4_init_78 : decode cX4_init 78 = .ok (.putfield 30, 3) := by decide +kernel
theorem dX4_init_81 : decode cX4_init 81 = .ok (.aload_n 0, 1) := by decide +kernel
theorem dX4_init_82 : decode cX4_init 82 = .ok (.new 34, 3) := by decide +kernel
theorem dX4_init_85 : decode cX4_init 85 = .ok (.dup, 1) := by decide +kernel
theorem dX4_init_86 : decode cX4_init 86 = .ok (.invokespecial 36, 3) := by decide +kernel
theorem dX4_init_89 : decode cX4_init 89 = .ok (.putfield 37, 3) := by decide +kernel
theorem dX4_init_92 : decode cX4_init 92 = .ok (.aload_n 0, 1) := by decide +kernel
theorem dX4_init_93 : decode cX4_init 93 = .ok (.new 41, 3) := by decide +kernel
theorem dX4_init_96 : decode cX4_init 96 = .ok (.dup, 1) := by decide +kernel
theorem dX4_init_97 : decode cX4_init 97 = .ok (.invokespecial 43, 3) := by decide +kernel
theorem dX4_init_100 : decode cX4_init 100 = .ok (.putfield 44, 3) := by decide +kernel
theorem dX4_init_103 : decode cX4_init 103 = .ok (.return_, 1) := by decide +kernel
theorem dX4_begin_0 : decode cX4_begin 0 = .ok (.iload_n 1, 1) := by decide +kernel
theorem dX4_begin_1 : decode cX4_begin 1 = .ok (.iconst 1, 1) := by decide +kernel
theorem dX4_begin_2 : decode cX4_begin 2 = .ok (.if_icmp .lt 9, 3) := by decide +kernel
theorem dX4_begin_5 : decode cX4_begin 5 = .ok (.iload_n 1, 1) := by decide +kernel
theorem dX4_begin_6 : decode cX4_begin 6 = .ok (.bipush 80, 2) := by decide +kernel
theorem dX4_begin_8 : decode cX4_begin 8 = .ok (.if_icmp .le 13, 3) := by decide +kernel
theorem dX4_begin_11 : decode cX4_begin 11 = .ok (.new 48, 3) := by decide +kernel
theorem dX4_begin_14 : decode cX4_begin 14 = .ok (.dup, 1) := by decide +kernel
theorem dX4_begin_15 : decode cX4_begin 15 = .ok (.ldc 50, 2) := by decide +kernel
theorem dX4_begin_17 : decode cX4_begin 17 = .ok (.invokespecial 52, 3) := by decide +kernel
theorem dX4_begin_20 : decode cX4_begin 20 = .ok (.athrow, 1) := by decide +kernel
theorem dX4_begin_21 : decode cX4_begin 21 = .ok (.aload_n 0, 1) := by decide +kernel
theorem dX4_begin_22 : decode cX4_begin 22 = .ok (.getfield 9, 3) := by decide +kernel
theorem dX4_begin_25 : decode cX4_begin 25 = .ok (.istore_n 2, 1) := by decide +kernel
theorem dX4_begin_26 : decode cX4_begin 26 = .ok (.aload_n 0, 1) := by decide +kernel
theorem dX4_begin_27 : decode cX4_begin 27 = .ok (.iload_n 1, 1) := by decide +kernel
theorem dX4_begin_28 : decode cX4_begin 28 = .ok (.putfield 9, 3) := by decide +kernel
theorem dX4_begin_31 : decode cX4_begin 31 = .ok (.iconst 0, 1) := by decide +kernel
theorem dX4_begin_32 : decode cX4_begin 32 = .ok (.istore_n 3, 1) := by decide +kernel
theorem dX4_begin_33 : decode cX4_begin 33 = .ok (.iload_n 3, 1) := by decide +kernel
theorem dX4_begin_34 : decode cX4_begin 34 = .ok (.iconst 4, 1) := by decide +kernel
theorem dX4_begin_35 : decode cX4_begin 35 = .ok (.if_icmp .ge 18, 3) := by decide +kernel
theorem dX4_begin_38 : decode cX4_begin 38 = .ok (.aload_n 0, 1) := by decide +kernel
theorem dX4_begin_39 : decode cX4_begin 39 = .ok (.iload_n 3, 1) := by decide +kernel
theorem dX4_begin_40 : decode cX4_begin 40 = .ok (.invokevirtual 55, 3) := by decide +kernel
theorem dX4_begin_43 : decode cX4_begin 43 = .ok (.iload_n 1, 1) := by decide +kernel
theorem dX4_begin_44 : decode cX4_begin 44 = .ok (.invokevirtual 59, 3) := by decide +kernel
theorem dX4_begin_47 : decode cX4_begin 47 = .ok (.iinc 3 1, 3) := by decide +kernel
theorem dX4_begin_50 : decode cX4_begin 50 = .ok (.goto (-17), 3) := by decide +kernel
theorem dX4_begin_53 : decode cX4_begin 53 = .ok (.aload_n 0, 1) := by decide +kernel
theorem dX4_begin_54 : decode cX4_begin 54 = .ok (.getfield 23, 3) := by decide +kernel
theorem dX4_begin_57 : decode cX4_begin 57 = .ok (.invokevirtual 63, 3) := by decide +kernel
theorem dX4_begin_60 : decode cX4_begin 60 = .ok (.iload_n 2, 1) := by decide +kernel
theorem dX4_begin_61 : decode cX4_begin 61 = .ok (.ireturn, 1) := by decide +kernel
theorem dX4_set_0 : decode cX4_set 0 = .ok (.aload_n 0, 1) := by decide +kernel
theorem dX4_set_1 : decode cX4_set 1 = .ok (.iload_n 1, 1) := by decide +kernel
theorem dX4_set_2 : decode cX4_set 2 = .ok (.invokevirtual 55, 3) := by decide +kernel
theorem dX4_set_5 : decode cX4_set 5 = .ok (.astore 5, 2) := by decide +kernel
theorem dX4_set_7 : decode cX4_set 7 = .ok (.aload_n 0, 1) := by decide +kernel
theorem dX4_set_8 : decode cX4_set 8 = .ok (.iload_n 2, 1) := by decide +kernel
theorem dX4_set_9 : decode cX4_set 9 = .ok (.invokevirtual 66, 3) := by decide +kernel
theorem dX4_set_12 : decode cX4_set 12 = .ok (.aload_n 0, 1) := by decide +kernel
theorem dX4_set_13 : decode cX4_set 13 = .ok (.iload_n 3, 1) := by decide +kernel
theorem dX4_set_14 : decode cX4_set 14 = .ok (.invokevirtual 66, 3) := by decide +kernel
theorem dX4_set_17 : decode cX4_set 17 = .ok (.aload 5, 2) := by decide +kernel
theorem dX4_set_19 : decode cX4_set 19 = .ok (.iload_n 2, 1) := by decide +kernel
theorem dX4_set_20 : decode cX4_set 20 = .ok (.iload_n 3, 1) := by decide +kernel
theorem dX4_set_21 : decode cX4_set 21 = .ok (.invokevirtual 69, 3) := by decide +kernel
theorem dX4_set_24 : decode cX4_set 24 = .ok (.istore 6, 2) := by decide +kernel
theorem dX4_set_26 : decode cX4_set 26 = .ok (.aload 5, 2) := by decide +kernel
theorem dX4_set_28 : decode cX4_set 28 = .ok (.iload_n 2, 1) := by decide +kernel
theorem dX4_set_29 : decode cX4_set 29 = .ok (.aload_n 0, 1) := by decide +kernel
theorem dX4_set_30 : decode cX4_set 30 = .ok (.getfield 27, 3) := by decide +kernel
theorem dX4_set_33 : decode cX4_set 33 = .ok (.invokevirtual 73, 3) := by decide +kernel
theorem dX4_set_36 : decode cX4_set 36 = .ok (.aload_n 0, 1) := by decide +kernel
theorem dX4_set_37 : decode cX4_set 37 = .ok (.getfield 27, 3) := by decide +kernel
theorem dX4_set_40 : decode cX4_set 40 = .ok (.iload_n 3, 1) := by decide +kernel
theorem dX4_set_41 : decode cX4_set 41 = .ok (.iload_n 3, 1) := by decide +kernel
theorem dX4_set_42 : decode cX4_set 42 = .ok (.iconst 1, 1) := by decide +kernel
theorem dX4_set_43 : decode cX4_set 43 = .ok (.iadd, 1) := by decide +kernel
theorem dX4_set_44 : decode cX4_set 44 = .ok (.iload 4, 2) := by decide +kernel
theorem dX4_set_46 : decode cX4_set 46 = .ok (.invokevirtual 77, 3) := by decide +kernel
theorem dX4_set_49 : decode cX4_set 49 = .ok (.aload 5, 2) := by decide +kernel
theorem dX4_set_51 : decode cX4_set 51 = .ok (.iload_n 2, 1) := by decide +kernel
theorem dX4_set_52 : decode cX4_set 52 = .ok (.aload_n 0, 1) := by decide +kernel
theorem dX4_set_53 : decode cX4_set 53 = .ok (.getfield 27, 3) := by decide +kernel
theorem dX4_set_56 : decode cX4_set 56 = .ok (.invokevirtual 81, 3) := by decide +kernel
theorem dX4_set_59 : decode cX4_set 59 = .ok (.iload 6, 2) := by decide +kernel
theorem dX4_set_61 : decode cX4_set 61 = .ok (.ireturn, 1) := by decide +kernel
theorem dX4_setRange_0 : decode cX4_setRange 0 = .ok (.aload_n 0, 1) := by decide +kernel
theorem dX4_setRange_1 : decode cX4_setRange 1 = .ok (.iload_n 1, 1) := by decide +kernel
theorem dX4_setRange_2 : decode cX4_setRange 2 = .ok (.invokevirtual 55, 3) := by decide +kernel
theorem dX4_setRange_5 : decode cX4_setRange 5 = .ok (.astore 6, 2) := by decide +kernel
theorem dX4_setRange_7 : decode cX4_setRange 7 = .ok (.aload_n 0, 1) := by decide +kernel
theorem dX4_setRange_8 : decode cX4_setRange 8 = .ok (.iload_n 2, 1) := by decide +kernel
theorem dX4_setRange_9 : decode cX4_setRange 9 = .ok (.invokevirtual 66, 3) := by decide +kernel
theorem dX4_setRange_12 : decode cX4_setRange 12 = .ok (.aload_n 0, 1) := by decide +kernel
theorem dX4_setRange_13 : decode cX4_setRange 13 = .ok (.iload_n 3, 1) := by decide +kernel
theorem dX4_setRange_14 : decode cX4_setRange 14 = .ok (.iload 4, 2) := by decide +kernel
theorem dX4_setRange_16 : decode cX4_setRange 16 = .ok (.invokevirtual 84, 3) := by decide +kernel
theorem dX4_setRange_19 : decode cX4_setRange 19 = .ok (.aload 6, 2) := by decide +kernel
theorem dX4_setRange_21 : decode cX4_setRange 21 = .ok (.iload_n 2, 1) := by decide +kernel
theorem dX4_setRange_22 : decode cX4_setRange 22 = .ok (.aload_n 0, 1) := by decide +kernel
theorem dX4_setRange_23 : decode cX4_setRange 23 = .ok (.getfield 27, 3) := by decide +kernel
theorem dX4_setRange_26 : decode cX4_setRange 26 = .ok (.invokevirtual 73, 3) := by decide +kernel
theorem dX4_setRange_29 : decode cX4_setRange 29 = .ok (.aload_n 0, 1) := by decide +kernel
theorem dX4_setRange_30 : decode cX4_setRange 30 = .ok (.getfield 27, 3) := by decide +kernel
theorem dX4_setRange_33 : decode cX4_setRange 33 = .ok (.iload_n 3, 1) := by decide +kernel
theorem dX4_setRange_34 : decode cX4_setRange 34 = .ok (.iload 4, 2) := by decide +kernel
theorem dX4_setRange_36 : decode cX4_setRange 36 = .ok (.iload 5, 2) := by decide +kernel
theorem dX4_setRange_38 : decode cX4_setRange 38 = .ok (.invokevirtual 77, 3) := by decide +kernel
theorem dX4_setRange_41 : decode cX4_setRange 41 = .ok (.aload 6, 2) := by decide +kernel
theorem dX4_setRange_43 : decode cX4_setRange 43 = .ok (.iload_n 2, 1) := by decide +kernel
theorem dX4_setRange_44 : decode cX4_setRange 44 = .ok (.aload_n 0, 1) := by decide +kernel
theorem dX4_setRange_45 : decode cX4_setRange 45 = .ok (.getfield 27, 3) := by decide +kernel
theorem dX4_setRange_48 : decode cX4_setRange 48 = .ok (.invokevirtual 81, 3) := by decide +kernel
theorem dX4_setRange_51 : decode cX4_setRange 51 = .ok (.aload 6, 2) := by decide +kernel
theorem dX4_setRange_53 : decode cX4_setRange 53 = .ok (.iload_n 2, 1) := by decide +kernel
theorem dX4_setRange_54 : decode cX4_setRange 54 = .ok (.invokevirtual 88, 3) := by decide +kernel
theorem dX4_setRange_57 : decode cX4_setRange 57 = .ok (.ireturn, 1) := by decide +kernel
theorem dX4_flipRange_0 : decode cX4_flipRange 0 = .ok (.aload_n 0, 1) := by decide +kernel
theorem dX4_flipRange_1 : decode cX4_flipRange 1 = .ok (.iload_n 1, 1) := by decide +kernel
theorem dX4_flipRange_2 : decode cX4_flipRange 2 = .ok (.invokevirtual 55, 3) := by decide +kernel
theorem dX4_flipRange_5 : decode cX4_flipRange 5 = .ok (.astore 5, 2) := by decide +kernel
theorem dX4_flipRange_7 : decode cX4_flipRange 7 = .ok (.aload_n 0, 1) := by decide +kernel
theorem dX4_flipRange_8 : decode cX4_flipRange 8 = .ok (.iload_n 2, 1) := by decide +kernel
theorem dX4_flipRange_9 : decode cX4_flipRange 9 = .ok (.invokevirtual 66, 3) := by decide +kernel
theorem dX4_flipRange_12 : decode cX4_flipRange 12 = .ok (.aload_n 0, 1) := by decide +kernel
theorem dX4_flipRange_13 : decode cX4_flipRange 13 = .ok (.iload_n 3, 1) := by decide +kernel
theorem dX4_flipRange_14 : decode cX4_flipRange 14 = .ok (.iload 4, 2) := by decide +kernel
theorem dX4_flipRange_16 : decode cX4_flipRange 16 = .ok (.invokevirtual 84, 3) := by decide +kernel
theorem dX4_flipRange_19 : decode cX4_flipRange 19 = .ok (.aload 5, 2) := by decide +kernel
theorem dX4_flipRange_21 : decode cX4_flipRange 21 = .ok (.iload_n 2, 1) := by decide +kernel
theorem dX4_flipRange_22 : decode cX4_flipRange 22 = .ok (.aload_n 0, 1) := by decide +kernel
theorem dX4_flipRange_23 : decode cX4_flipRange 23 = .ok (.getfield 27, 3) := by decide +kernel
theorem dX4_flipRange_26 : decode cX4_flipRange 26 = .ok (.invokevirtual 73, 3) := by decide +kernel
theorem dX4_flipRange_29 : decode cX4_flipRange 29 = .ok (.aload_n 0, 1) := by decide +kernel
theorem dX4_flipRange_30 : decode cX4_flipRange 30 = .ok (.getfield 27, 3) := by decide +kernel
theorem dX4_flipRange_33 : decode cX4_flipRange 33 = .ok (.iload_n 3, 1) := by decide +kernel
theorem dX4_flipRange_34 : decode cX4_flipRange 34 = .ok (.iload 4, 2) := by decide +kernel
theorem dX4_flipRange_36 : decode cX4_flipRange 36 = .ok (.invokevirtual 92, 3) := by decide +kernel
theorem dX4_flipRange_39 : decode cX4_flipRange 39 = .ok (.aload 5, 2) := by decide +kernel
theorem dX4_flipRange_41 : decode cX4_flipRange 41 = .ok (.iload_n 2, 1) := by decide +kernel
theorem dX4_flipRange_42 : decode cX4_flipRange 42 = .ok (.aload_n 0, 1) := by decide +kernel
theorem dX4_flipRange_43 : decode cX4_flipRange 43 = .ok (.getfield 27, 3) := by decide +kernel
theorem dX4_flipRange_46 : decode cX4_flipRange 46 = .ok (.invokevirtual 81, 3) := by decide +kernel
theorem dX4_flipRange_49 : decode cX4_flipRange 49 = .ok (.aload 5, 2) := by decide +kernel
theorem dX4_flipRange_51 : decode cX4_flipRange 51 = .ok (.iload_n 2, 1) := by decide +kernel
theorem dX4_flipRange_52 : decode cX4_flipRange 52 = .ok (.invokevirtual 88, 3) := by decide +kernel
theorem dX4_flipRange_55 : decode cX4_flipRange 55 = .ok (.ireturn, 1) := by decide +kernel
theorem dX4_setRow_0 : decode cX4_setRow 0 = .ok (.aload_n 0, 1) := by decide +kernel
theorem dX4_setRow_1 : decode cX4_setRow 1 = .ok (.iload_n 1, 1) := by decide +kernel
theorem dX4_setRow_2 : decode cX4_setRow 2 = .ok (.invokevirtual 55, 3) := by decide +kernel
theorem dX4_setRow_5 : decode cX4_setRow 5 = .ok (.astore 5, 2) := by decide +kernel
theorem dX4_setRow_7 : decode cX4_setRow 7 = .ok (.aload_n 0, 1) := by decide +kernel
theorem dX4_setRow_8 : decode cX4_setRow 8 = .ok (.iload_n 2, 1) := by decide +kernel
theorem dX4_setRow_9 : decode cX4_setRow 9 = .ok (.invokevirtual 66, 3) := by decide +kernel
theorem dX4_setRow_12 : decode cX4_setRow 12 = .ok (.aload_n 0, 1) := by decide +kernel
theorem dX4_setRow_13 : decode cX4_setRow 13 = .ok (.getfield 27, 3) := by decide +kernel
theorem dX4_setRow_16 : decode cX4_setRow 16 = .ok (.invokevirtual 63, 3) := by decide +kernel
theorem dX4_setRow_19 : decode cX4_setRow 19 = .ok (.aload_n 0, 1) := by decide +kernel
theorem dX4_setRow_20 : decode cX4_setRow 20 = .ok (.getfield 27, 3) := by decide +kernel
theorem dX4_setRow_23 : decode cX4_setRow 23 = .ok (.lload_n 3, 1) := by decide +kernel
theorem dX4_setRow_24 : decode cX4_setRow 24 = .ok (.iconst 0, 1) := by decide +kernel
theorem dX4_setRow_25 : decode cX4_setRow 25 = .ok (.aload_n 0, 1) := by decide +kernel
theorem dX4_setRow_26 : decode cX4_setRow 26 = .ok (.getfield 9, 3) := by decide +kernel
theorem dX4_setRow_29 : decode cX4_setRow 29 = .ok (.invokestatic 95, 3) := by decide +kernel
theorem dX4_setRow_32 : decode cX4_setRow 32 = .ok (.land, 1) := by decide +kernel
theorem dX4_setRow_33 : decode cX4_setRow 33 = .ok (.putfield 99, 3) := by decide +kernel
theorem dX4_setRow_36 : decode cX4_setRow 36 = .ok (.aload 5, 2) := by decide +kernel
theorem dX4_setRow_38 : decode cX4_setRow 38 = .ok (.iload_n 2, 1) := by decide +kernel
theorem dX4_setRow_39 : decode cX4_setRow 39 = .ok (.aload_n 0, 1) := by decide +kernel
theorem dX4_setRow_40 : decode cX4_setRow 40 = .ok (.getfield 27, 3) := by decide +kernel
theorem dX4_setRow_43 : decode cX4_setRow 43 = .ok (.invokevirtual 81, 3) := by decide +kernel
theorem dX4_setRow_46 : decode cX4_setRow 46 = .ok (.aload 5, 2) := by decide +kernel
theorem dX4_setRow_48 : decode cX4_setRow 48 = .ok (.iload_n 2, 1) := by decide +kernel
theorem dX4_setRow_49 : decode cX4_setRow 49 = .ok (.invokevirtual 88, 3) := by decide +kernel
theorem dX4_setRow_52 : decode cX4_setRow 52 = .ok (.ireturn, 1) := by decide +kernel
theorem dX4_chain_0 : decode cX4_chain 0 = .ok (.aload_n 0, 1) := by decide +kernel
theorem dX4_chain_1 : decode cX4_chain 1 = .ok (.iload_n 1, 1) := by decide +kernel
theorem dX4_chain_2 : decode cX4_chain 2 = .ok (.invokevirtual 55, 3) := by decide +kernel
theorem dX4_chain_5 : decode cX4_chain 5 = .ok (.astore_n 2, 1) := by decide +kernel
theorem dX4_chain_6 : decode cX4_chain 6 = .ok (.iconst 0, 1) := by decide +kernel
theorem dX4_chain_7 : decode cX4_chain 7 = .ok (.istore_n 3, 1) := by decide +kernel
theorem dX4_chain_8 : decode cX4_chain 8 = .ok (.iload_n 3, 1) := by decide +kernel
theorem dX4_chain_9 : decode cX4_chain 9 = .ok (.iconst 1, 1) := by decide +kernel
theorem dX4_chain_10 : decode cX4_chain 10 = .ok (.iadd, 1) := by decide +kernel
theorem dX4_chain_11 : decode cX4_chain 11 = .ok (.aload_n 0, 1) := by decide +kernel
theorem dX4_chain_12 : decode cX4_chain 12 = .ok (.getfield 9, 3) := by decide +kernel
theorem dX4_chain_15 : decode cX4_chain 15 = .ok (.if_icmp .ge 17, 3) := by decide +kernel
theorem dX4_chain_18 : decode cX4_chain 18 = .ok (.aload_n 2, 1) := by decide +kernel
theorem dX4_chain_19 : decode cX4_chain 19 = .ok (.iload_n 3, 1) := by decide +kernel
theorem dX4_chain_20 : decode cX4_chain 20 = .ok (.iload_n 3, 1) := by decide +kernel
theorem dX4_chain_21 : decode cX4_chain 21 = .ok (.iconst 1, 1) := by decide +kernel
theorem dX4_chain_22 : decode cX4_chain 22 = .ok (.iadd, 1) := by decide +kernel
theorem dX4_chain_23 : decode cX4_chain 23 = .ok (.invokevirtual 103, 3) := by decide +kernel
theorem dX4_chain_26 : decode cX4_chain 26 = .ok (.iinc 3 1, 3) := by decide +kernel
theorem dX4_chain_29 : decode cX4_chain 29 = .ok (.goto (-21), 3) := by decide +kernel
theorem dX4_chain_32 : decode cX4_chain 32 = .ok (.aload_n 2, 1) := by decide +kernel
theorem dX4_chain_33 : decode cX4_chain 33 = .ok (.invokevirtual 106, 3) := by decide +kernel
theorem dX4_chain_36 : decode cX4_chain 36 = .ok (.ireturn, 1) := by decide +kernel
theorem dX4_draw_0 : decode cX4_draw 0 = .ok (.aload_n 0, 1) := by decide +kernel
theorem dX4_draw_1 : decode cX4_draw 1 = .ok (.iload_n 1, 1) := by decide +kernel
theorem dX4_draw_2 : decode cX4_draw 2 = .ok (.invokevirtual 55, 3) := by decide +kernel
theorem dX4_draw_5 : decode cX4_draw 5 = .ok (.astore 4, 2) := by decide +kernel
theorem dX4_draw_7 : decode cX4_draw 7 = .ok (.iload_n 3, 1) := by decide +kernel
theorem dX4_draw_8 : decode cX4_draw 8 = .ok (.ifCond .lt 10, 3) := by decide +kernel
theorem dX4_draw_11 : decode cX4_draw 11 = .ok (.iload_n 3, 1) := by decide +kernel
theorem dX4_draw_12 : decode cX4_draw 12 = .ok (.sipush 200, 3) := by decide +kernel
theorem dX4_draw_15 : decode cX4_draw 15 = .ok (.if_icmp .le 13, 3) := by decide +kernel
theorem dX4_draw_18 : decode cX4_draw 18 = .ok (.new 48, 3) := by decide +kernel
theorem dX4_draw_21 : decode cX4_draw 21 = .ok (.dup, 1) := by decide +kernel
theorem dX4_draw_22 : decode cX4_draw 22 = .ok (.ldc 110, 2) := by decide +kernel
theorem dX4_draw_24 : decode cX4_draw 24 = .ok (.invokespecial 52, 3) := by decide +kernel
theorem dX4_draw_27 : decode cX4_draw 27 = .ok (.athrow, 1) := by decide +kernel
theorem dX4_draw_28 : decode cX4_draw 28 = .ok (.iload_n 2, 1) := by decide +kernel
theorem dX4_draw_29 : decode cX4_draw 29 = .ok (.istore 5, 2) := by decide +kernel
theorem dX4_draw_31 : decode cX4_draw 31 = .ok (.iconst 0, 1) := by decide +kernel
theorem dX4_draw_32 : decode cX4_draw 32 = .ok (.istore 6, 2) := by decide +kernel
theorem dX4_draw_34 : decode cX4_draw 34 = .ok (.iload 6, 2) := by decide +kernel
theorem dX4_draw_36 : decode cX4_draw 36 = .ok (.iload_n 3, 1) := by decide +kernel
theorem dX4_draw_37 : decode cX4_draw 37 = .ok (.if_icmp .ge 44, 3) := by decide +kernel
theorem dX4_draw_40 : decode cX4_draw 40 = .ok (.iload 5, 2) := by decide +kernel
theorem dX4_draw_42 : decode cX4_draw 42 = .ok (.invokestatic 112, 3) := by decide +kernel
theorem dX4_draw_45 : decode cX4_draw 45 = .ok (.istore 5, 2) := by decide +kernel
theorem dX4_draw_47 : decode cX4_draw 47 = .ok (.aload_n 0, 1) := by decide +kernel
theorem dX4_draw_48 : decode cX4_draw 48 = .ok (.iload 5, 2) := by decide +kernel
theorem dX4_draw_50 : decode cX4_draw 50 = .ok (.invokevirtual 115, 3) := by decide +kernel
theorem dX4_draw_53 : decode cX4_draw 53 = .ok (.istore 7, 2) := by decide +kernel
theorem dX4_draw_55 : decode cX4_draw 55 = .ok (.iload 5, 2) := by decide +kernel
theorem dX4_draw_57 : decode cX4_draw 57 = .ok (.invokestatic 112, 3) := by decide +kernel
theorem dX4_draw_60 : decode cX4_draw 60 = .ok (.istore 5, 2) := by decide +kernel
theorem dX4_draw_62 : decode cX4_draw 62 = .ok (.aload 4, 2) := by decide +kernel
theorem dX4_draw_64 : decode cX4_draw 64 = .ok (.iload 7, 2) := by decide +kernel
theorem dX4_draw_66 : decode cX4_draw 66 = .ok (.aload_n 0, 1) := by decide +kernel
theorem dX4_draw_67 : decode cX4_draw 67 = .ok (.iload 5, 2) := by decide +kernel
theorem dX4_draw_69 : decode cX4_draw 69 = .ok (.invokevirtual 115, 3) := by decide +kernel
theorem dX4_draw_72 : decode cX4_draw 72 = .ok (.invokevirtual 103, 3) := by decide +kernel
theorem dX4_draw_75 : decode cX4_draw 75 = .ok (.iinc 6 1, 3) := by decide +kernel
theorem dX4_draw_78 : decode cX4_draw 78 = .ok (.goto (-44), 3) := by decide +kernel
theorem dX4_draw_81 : decode cX4_draw 81 = .ok (.aload 4, 2) := by decide +kernel
theorem dX4_draw_83 : decode cX4_draw 83 = .ok (.invokevirtual 106, 3) := by decide +kernel
theorem dX4_draw_86 : decode cX4_draw 86 = .ok (.ireturn, 1) := by decide +kernel
theorem dX4_copy_0 : decode cX4_copy 0 = .ok (.aload_n 0, 1) := by decide +kernel
theorem dX4_copy_1 : decode cX4_copy 1 = .ok (.iload_n 1, 1) := by decide +kernel
theorem dX4_copy_2 : decode cX4_copy 2 = .ok (.invokevirtual 55, 3) := by decide +kernel
theorem dX4_copy_5 : decode cX4_copy 5 = .ok (.astore_n 3, 1) := by decide +kernel
theorem dX4_copy_6 : decode cX4_copy 6 = .ok (.aload_n 0, 1) := by decide +kernel
theorem dX4_copy_7 : decode cX4_copy 7 = .ok (.iload_n 2, 1) := by decide +kernel
theorem dX4_copy_8 : decode cX4_copy 8 = .ok (.invokevirtual 55, 3) := by decide +kernel
theorem dX4_copy_11 : decode cX4_copy 11 = .ok (.astore 4, 2) := by decide +kernel
theorem dX4_copy_13 : decode cX4_copy 13 = .ok (.aload 4, 2) := by decide +kernel
theorem dX4_copy_15 : decode cX4_copy 15 = .ok (.aload_n 3, 1) := by decide +kernel
theorem dX4_copy_16 : decode cX4_copy 16 = .ok (.invokevirtual 118, 3) := by decide +kernel
theorem dX4_copy_19 : decode cX4_copy 19 = .ok (.aload 4, 2) := by decide +kernel
theorem dX4_copy_21 : decode cX4_copy 21 = .ok (.invokevirtual 106, 3) := by decide +kernel
theorem dX4_copy_24 : decode cX4_copy 24 = .ok (.ireturn, 1) := by decide +kernel
theorem dX4_combine_0 : decode cX4_combine 0 = .ok (.aload_n 0, 1) := by decide +kernel
theorem dX4_combine_1 : decode cX4_combine 1 = .ok (.iload_n 1, 1) := by decide +kernel
theorem dX4_combine_2 : decode cX4_combine 2 = .ok (.invokevirtual 55, 3) := by decide +kernel
theorem dX4_combine_5 : decode cX4_combine 5 = .ok (.astore 4, 2) := by decide +kernel
theorem dX4_combine_7 : decode cX4_combine 7 = .ok (.aload_n 0, 1) := by decide +kernel
theorem dX4_combine_8 : decode cX4_combine 8 = .ok (.iload_n 2, 1) := by decide +kernel
theorem dX4_combine_9 : decode cX4_combine 9 = .ok (.invokevirtual 55, 3) := by decide +kernel
theorem dX4_combine_12 : decode cX4_combine 12 = .ok (.astore 5, 2) := by decide +kernel
theorem dX4_combine_14 : decode cX4_combine 14 = .ok (.iload_n 3, 1) := by decide +kernel
theorem dX4_combine_15 : decode cX4_combine 15 = .ok (.ifCond .lt 8, 3) := by decide +kernel
theorem dX4_combine_18 : decode cX4_combine 18 = .ok (.iload_n 3, 1) := by decide +kernel
theorem dX4_combine_19 : decode cX4_combine 19 = .ok (.iconst 3, 1) := by decide +kernel
theorem dX4_combine_20 : decode cX4_combine 20 = .ok (.if_icmp .le 13, 3) := by decide +kernel
theorem dX4_combine_23 : decode cX4_combine 23 = .ok (.new 48, 3) := by decide +kernel
theorem dX4_combine_26 : decode cX4_combine 26 = .ok (.dup, 1) := by decide +kernel
theorem dX4_combine_27 : decode cX4_combine 27 = .ok (.ldc 122, 2) := by decide +kernel
theorem dX4_combine_29 : decode cX4_combine 29 = .ok (.invokespecial 52, 3) := by decide +kernel
theorem dX4_combine_32 : decode cX4_combine 32 = .ok (.athrow, 1) := by decide +kernel
theorem dX4_combine_33 : decode cX4_combine 33 = .ok (.aload 4, 2) := by decide +kernel
theorem dX4_combine_35 : decode cX4_combine 35 = .ok (.aload 5, 2) := by decide +kernel
theorem dX4_combine_37 : decode cX4_combine 37 = .ok (.iload_n 3, 1) := by decide +kernel
theorem dX4_combine_38 : decode cX4_combine 38 = .ok (.invokevirtual 124, 3) := by decide +kernel
theorem dX4_combine_41 : decode cX4_combine 41 = .ok (.aload 4, 2) := by decide +kernel
theorem dX4_combine_43 : decode cX4_combine 43 = .ok (.invokevirtual 106, 3) := by decide +kernel
theorem dX4_combine_46 : decode cX4_combine 46 = .ok (.ireturn, 1) := by decide +kernel
theorem dX4_compose_0 : decode cX4_compose 0 = .ok (.aload_n 0, 1) := by decide +kernel
theorem dX4_compose_1 : decode cX4_compose 1 = .ok (.iload_n 1, 1) := by decide +kernel
theorem dX4_compose_2 : decode cX4_compose 2 = .ok (.invokevirtual 55, 3) := by decide +kernel
theorem dX4_compose_5 : decode cX4_compose 5 = .ok (.astore 4, 2) := by decide +kernel
theorem dX4_compose_7 : decode cX4_compose 7 = .ok (.aload_n 0, 1) := by decide +kernel
theorem dX4_compose_8 : decode cX4_compose 8 = .ok (.iload_n 2, 1) := by decide +kernel
theorem dX4_compose_9 : decode cX4_compose 9 = .ok (.invokevirtual 55, 3) := by decide +kernel
theorem dX4_compose_12 : decode cX4_compose 12 = .ok (.astore 5, 2) := by decide +kernel
theorem dX4_compose_14 : decode cX4_compose 14 = .ok (.aload_n 0, 1) := by decide +kernel
theorem dX4_compose_15 : decode cX4_compose 15 = .ok (.iload_n 3, 1) := by decide +kernel
theorem dX4_compose_16 : decode cX4_compose 16 = .ok (.invokevirtual 55, 3) := by decide +kernel
theorem dX4_compose_19 : decode cX4_compose 19 = .ok (.astore 6, 2) := by decide +kernel
theorem dX4_compose_21 : decode cX4_compose 21 = .ok (.aload_n 0, 1) := by decide +kernel
theorem dX4_compose_22 : decode cX4_compose 22 = .ok (.getfield 30, 3) := by decide +kernel
theorem dX4_compose_25 : decode cX4_compose 25 = .ok (.aload 4, 2) := by decide +kernel
theorem dX4_compose_27 : decode cX4_compose 27 = .ok (.aload 5, 2) := by decide +kernel
theorem dX4_compose_29 : decode cX4_compose 29 = .ok (.invokevirtual 128, 3) := by decide +kernel
theorem dX4_compose_32 : decode cX4_compose 32 = .ok (.aload 6, 2) := by decide +kernel
theorem dX4_compose_34 : decode cX4_compose 34 = .ok (.aload_n 0, 1) := by decide +kernel
theorem dX4_compose_35 : decode cX4_compose 35 = .ok (.getfield 30, 3) := by decide +kernel
theorem dX4_compose_38 : decode cX4_compose 38 = .ok (.invokevirtual 118, 3) := by decide +kernel
theorem dX4_compose_41 : decode cX4_compose 41 = .ok (.aload 6, 2) := by decide +kernel
theorem dX4_compose_43 : decode cX4_compose 43 = .ok (.invokevirtual 106, 3) := by decide +kernel
theorem dX4_compose_46 : decode cX4_compose 46 = .ok (.ireturn, 1) := by decide +kernel
theorem dX4_turn_0 : decode cX4_turn 0 = .ok (.aload_n 0, 1) := by decide +kernel
theorem dX4_turn_1 : decode cX4_turn 1 = .ok (.iload_n 1, 1) := by decide +kernel
theorem dX4_turn_2 : decode cX4_turn 2 = .ok (.invokevirtual 55, 3) := by decide +kernel
theorem dX4_turn_5 : decode cX4_turn 5 = .ok (.astore_n 2, 1) := by decide +kernel
theorem dX4_turn_6 : decode cX4_turn 6 = .ok (.aload_n 2, 1) := by decide +kernel
theorem dX4_turn_7 : decode cX4_turn 7 = .ok (.invokevirtual 132, 3) := by decide +kernel
theorem dX4_turn_10 : decode cX4_turn 10 = .ok (.aload_n 2, 1) := by decide +kernel
theorem dX4_turn_11 : decode cX4_turn 11 = .ok (.invokevirtual 106, 3) := by decide +kernel
theorem dX4_turn_14 : decode cX4_turn 14 = .ok (.ireturn, 1) := by decide +kernel
theorem dX4_oppose_0 : decode cX4_oppose 0 = .ok (.aload_n 0, 1) := by decide +kernel
theorem dX4_oppose_1 : decode cX4_oppose 1 = .ok (.iload_n 1, 1) := by decide +kernel
theorem dX4_oppose_2 : decode cX4_oppose 2 = .ok (.invokevirtual 55, 3) := by decide +kernel
theorem dX4_oppose_5 : decode cX4_oppose 5 = .ok (.astore_n 2, 1) := by decide +kernel
theorem dX4_oppose_6 : decode cX4_oppose 6 = .ok (.aload_n 2, 1) := by decide +kernel
theorem dX4_oppose_7 : decode cX4_oppose 7 = .ok (.invokevirtual 135, 3) := by decide +kernel
theorem dX4_oppose_10 : decode cX4_oppose 10 = .ok (.aload_n 2, 1) := by decide +kernel
theorem dX4_oppose_11 : decode cX4_oppose 11 = .ok (.invokevirtual 106, 3) := by decide +kernel
theorem dX4_oppose_14 : decode cX4_oppose 14 = .ok (.ireturn, 1) := by decide +kernel
theorem dX4_close_0 : decode cX4_close 0 = .ok (.aload_n 0, 1) := by decide +kernel
theorem dX4_close_1 : decode cX4_close 1 = .ok (.iload_n 1, 1) := by decide +kernel
theorem dX4_close_2 : decode cX4_close 2 = .ok (.invokevirtual 55, 3) := by decide +kernel
theorem dX4_close_5 : decode cX4_close 5 = .ok (.astore_n 3, 1) := by decide +kernel
theorem dX4_close_6 : decode cX4_close 6 = .ok (.aload_n 3, 1) := by decide +kernel
theorem dX4_close_7 : decode cX4_close 7 = .ok (.invokevirtual 137, 3) := by decide +kernel
theorem dX4_close_10 : decode cX4_close 10 = .ok (.iload_n 2, 1) := by decide +kernel
theorem dX4_close_11 : decode cX4_close 11 = .ok (.ifCond .eq 7, 3) := by decide +kernel
theorem dX4_close_14 : decode cX4_close 14 = .ok (.aload_n 3, 1) := by decide +kernel
theorem dX4_close_15 : decode cX4_close 15 = .ok (.invokevirtual 140, 3) := by decide +kernel
theorem dX4_close_18 : decode cX4_close 18 = .ok (.aload_n 3, 1) := by decide +kernel
theorem dX4_close_19 : decode cX4_close 19 = .ok (.invokevirtual 106, 3) := by decide +kernel
theorem dX4_close_22 : decode cX4_close 22 = .ok (.ireturn, 1) := by decide +kernel
theorem dX4_cover_0 : decode cX4_cover 0 = .ok (.aload_n 0, 1) := by decide +kernel
theorem dX4_cover_1 : decode cX4_cover 1 = .ok (.iload_n 1, 1) := by decide +kernel
theorem dX4_cover_2 : decode cX4_cover 2 = .ok (.invokevirtual 55, 3) := by decide +kernel
theorem dX4_cover_5 : decode cX4_cover 5 = .ok (.astore_n 3, 1) := by decide +kernel
theorem dX4_cover_6 : decode cX4_cover 6 = .ok (.aload_n 0, 1) := by decide +kernel
theorem dX4_cover_7 : decode cX4_cover 7 = .ok (.iload_n 2, 1) := by decide +kernel
theorem dX4_cover_8 : decode cX4_cover 8 = .ok (.invokevirtual 55, 3) := by decide +kernel
theorem dX4_cover_11 : decode cX4_cover 11 = .ok (.astore 4, 2) := by decide +kernel
theorem dX4_cover_13 : decode cX4_cover 13 = .ok (.aload_n 0, 1) := by decide +kernel
theorem dX4_cover_14 : decode cX4_cover 14 = .ok (.getfield 37, 3) := by decide +kernel
theorem dX4_cover_17 : decode cX4_cover 17 = .ok (.aload_n 3, 1) := by decide +kernel
theorem dX4_cover_18 : decode cX4_cover 18 = .ok (.invokevirtual 143, 3) := by decide +kernel
theorem dX4_cover_21 : decode cX4_cover 21 = .ok (.iconst (-1), 1) := by decide +kernel
theorem dX4_cover_22 : decode cX4_cover 22 = .ok (.if_icmp .ne 13, 3) := by decide +kernel
theorem dX4_cover_25 : decode cX4_cover 25 = .ok (.new 147, 3) := by decide +kernel
theorem dX4_cover_28 : decode cX4_cover 28 = .ok (.dup, 1) := by decide +kernel
theorem dX4_cover_29 : decode cX4_cover 29 = .ok (.ldc 149, 2) := by decide +kernel
theorem dX4_cover_31 : decode cX4_cover 31 = .ok (.invokespecial 151, 3) := by decide +kernel
theorem dX4_cover_34 : decode cX4_cover 34 = .ok (.athrow, 1) := by decide +kernel
theorem dX4_cover_35 : decode cX4_cover 35 = .ok (.aload_n 0, 1) := by decide +kernel
theorem dX4_cover_36 : decode cX4_cover 36 = .ok (.aload_n 3, 1) := by decide +kernel
theorem dX4_cover_37 : decode cX4_cover 37 = .ok (.invokevirtual 152, 3) := by decide +kernel
theorem dX4_cover_40 : decode cX4_cover 40 = .ok (.aload 4, 2) := by decide +kernel
theorem dX4_cover_42 : decode cX4_cover 42 = .ok (.aload_n 0, 1) := by decide +kernel
theorem dX4_cover_43 : decode cX4_cover 43 = .ok (.getfield 30, 3) := by decide +kernel
theorem dX4_cover_46 : decode cX4_cover 46 = .ok (.invokevirtual 155, 3) := by decide +kernel
theorem dX4_cover_49 : decode cX4_cover 49 = .ok (.aload 4, 2) := by decide +kernel
theorem dX4_cover_51 : decode cX4_cover 51 = .ok (.invokevirtual 106, 3) := by decide +kernel
theorem dX4_cover_54 : decode cX4_cover 54 = .ok (.ireturn, 1) := by decide +kernel
theorem dX4_has_0 : decode cX4_has 0 = .ok (.aload_n 0, 1) := by decide +kernel
theorem dX4_has_1 : decode cX4_has 1 = .ok (.iload_n 1, 1) := by decide +kernel
theorem dX4_has_2 : decode cX4_has 2 = .ok (.invokevirtual 55, 3) := by decide +kernel
theorem dX4_has_5 : decode cX4_has 5 = .ok (.astore 4, 2) := by decide +kernel
theorem dX4_has_7 : decode cX4_has 7 = .ok (.aload_n 0, 1) := by decide +kernel
theorem dX4_has_8 : decode cX4_has 8 = .ok (.iload_n 2, 1) := by decide +kernel
theorem dX4_has_9 : decode cX4_has 9 = .ok (.invokevirtual 66, 3) := by decide +kernel
theorem dX4_has_12 : decode cX4_has 12 = .ok (.aload_n 0, 1) := by decide +kernel
theorem dX4_has_13 : decode cX4_has 13 = .ok (.iload_n 3, 1) := by decide +kernel
theorem dX4_has_14 : decode cX4_has 14 = .ok (.invokevirtual 66, 3) := by decide +kernel
theorem dX4_has_17 : decode cX4_has 17 = .ok (.aload 4, 2) := by decide +kernel
theorem dX4_has_19 : decode cX4_has 19 = .ok (.iload_n 2, 1) := by decide +kernel
theorem dX4_has_20 : decode cX4_has 20 = .ok (.iload_n 3, 1) := by decide +kernel
theorem dX4_has_21 : decode cX4_has 21 = .ok (.invokevirtual 69, 3) := by decide +kernel
theorem dX4_has_24 : decode cX4_has 24 = .ok (.ireturn, 1) := by decide +kernel
theorem dX4_count_0 : decode cX4_count 0 = .ok (.aload_n 0, 1) := by decide +kernel
theorem dX4_count_1 : decode cX4_count 1 = .ok (.iload_n 1, 1) := by decide +kernel
theorem dX4_count_2 : decode cX4_count 2 = .ok (.invokevirtual 55, 3) := by decide +kernel
theorem dX4_count_5 : decode cX4_count 5 = .ok (.invokevirtual 106, 3) := by decide +kernel
theorem dX4_count_8 : decode cX4_count 8 = .ok (.ireturn, 1) := by decide +kernel
theorem dX4_countOf_0 : decode cX4_countOf 0 = .ok (.aload_n 0, 1) := by decide +kernel
theorem dX4_countOf_1 : decode cX4_countOf 1 = .ok (.iload_n 1, 1) := by decide +kernel
theorem dX4_countOf_2 : decode cX4_countOf 2 = .ok (.invokevirtual 55, 3) := by decide +kernel
theorem dX4_countOf_5 : decode cX4_countOf 5 = .ok (.astore_n 3, 1) := by decide +kernel
theorem dX4_countOf_6 : decode cX4_countOf 6 = .ok (.aload_n 0, 1) := by decide +kernel
theorem dX4_countOf_7 : decode cX4_countOf 7 = .ok (.iload_n 2, 1) := by decide +kernel
theorem dX4_countOf_8 : decode cX4_countOf 8 = .ok (.invokevirtual 66, 3) := by decide +kernel
theorem dX4_countOf_11 : decode cX4_countOf 11 = .ok (.aload_n 3, 1) := by decide +kernel
theorem dX4_countOf_12 : decode cX4_countOf 12 = .ok (.iload_n 2, 1) := by decide +kernel
theorem dX4_countOf_13 : decode cX4_countOf 13 = .ok (.invokevirtual 88, 3) := by decide +kernel
theorem dX4_countOf_16 : decode cX4_countOf 16 = .ok (.ireturn, 1) := by decide +kernel
theorem dX4_beside_0 : decode cX4_beside 0 = .ok (.aload_n 0, 1) := by decide +kernel
theorem dX4_beside_1 : decode cX4_beside 1 = .ok (.iload_n 1, 1) := by decide +kernel
theorem dX4_beside_2 : decode cX4_beside 2 = .ok (.invokevirtual 55, 3) := by decide +kernel
theorem dX4_beside_5 : decode cX4_beside 5 = .ok (.astore 5, 2) := by decide +kernel
theorem dX4_beside_7 : decode cX4_beside 7 = .ok (.aload_n 0, 1) := by decide +kernel
theorem dX4_beside_8 : decode cX4_beside 8 = .ok (.iload_n 2, 1) := by decide +kernel
theorem dX4_beside_9 : decode cX4_beside 9 = .ok (.invokevirtual 66, 3) := by decide +kernel
theorem dX4_beside_12 : decode cX4_beside 12 = .ok (.aload_n 0, 1) := by decide +kernel
theorem dX4_beside_13 : decode cX4_beside 13 = .ok (.iload_n 3, 1) := by decide +kernel
theorem dX4_beside_14 : decode cX4_beside 14 = .ok (.invokevirtual 66, 3) := by decide +kernel
theorem dX4_beside_17 : decode cX4_beside 17 = .ok (.iload 4, 2) := by decide +kernel
theorem dX4_beside_19 : decode cX4_beside 19 = .ok (.ifCond .lt 9, 3) := by decide +kernel
theorem dX4_beside_22 : decode cX4_beside 22 = .ok (.iload 4, 2) := by decide +kernel
theorem dX4_beside_24 : decode cX4_beside 24 = .ok (.iconst 3, 1) := by decide +kernel
theorem dX4_beside_25 : decode cX4_beside 25 = .ok (.if_icmp .le 13, 3) := by decide +kernel
theorem dX4_beside_28 : decode cX4_beside 28 = .ok (.new 48, 3) := by decide +kernel
theorem dX4_beside_31 : decode cX4_beside 31 = .ok (.dup, 1) := by decide +kernel
theorem dX4_beside_32 : decode cX4_beside 32 = .ok (.ldc 122, 2) := by decide +kernel
theorem dX4_beside_34 : decode cX4_beside 34 = .ok (.invokespecial 52, 3) := by decide +kernel
theorem dX4_beside_37 : decode cX4_beside 37 = .ok (.athrow, 1) := by decide +kernel
theorem dX4_beside_38 : decode cX4_beside 38 = .ok (.aload 5, 2) := by decide +kernel
theorem dX4_beside_40 : decode cX4_beside 40 = .ok (.iload_n 2, 1) := by decide +kernel
theorem dX4_beside_41 : decode cX4_beside 41 = .ok (.aload_n 0, 1) := by decide +kernel
theorem dX4_beside_42 : decode cX4_beside 42 = .ok (.getfield 27, 3) := by decide +kernel
theorem dX4_beside_45 : decode cX4_beside 45 = .ok (.invokevirtual 73, 3) := by decide +kernel
theorem dX4_beside_48 : decode cX4_beside 48 = .ok (.iload 4, 2) := by decide +kernel
theorem dX4_beside_50 : decode cX4_beside 50 = .ok (.iconst 1, 1) := by decide +kernel
theorem dX4_beside_51 : decode cX4_beside 51 = .ok (.if_icmp .eq 9, 3) := by decide +kernel
theorem dX4_beside_54 : decode cX4_beside 54 = .ok (.iload 4, 2) := by decide +kernel
theorem dX4_beside_56 : decode cX4_beside 56 = .ok (.iconst 3, 1) := by decide +kernel
theorem dX4_beside_57 : decode cX4_beside 57 = .ok (.if_icmp .ne 15, 3) := by decide +kernel
theorem dX4_beside_60 : decode cX4_beside 60 = .ok (.aload_n 0, 1) := by decide +kernel
theorem dX4_beside_61 : decode cX4_beside 61 = .ok (.getfield 27, 3) := by decide +kernel
theorem dX4_beside_64 : decode cX4_beside 64 = .ok (.iconst 0, 1) := by decide +kernel
theorem dX4_beside_65 : decode cX4_beside 65 = .ok (.aload_n 0, 1) := by decide +kernel
theorem dX4_beside_66 : decode cX4_beside 66 = .ok (.getfield 9, 3) := by decide +kernel
theorem dX4_beside_69 : decode cX4_beside 69 = .ok (.invokevirtual 92, 3) := by decide +kernel
theorem dX4_beside_72 : decode cX4_beside 72 = .ok (.iload 4, 2) := by decide +kernel
theorem dX4_beside_74 : decode cX4_beside 74 = .ok (.iconst 2, 1) := by decide +kernel
theorem dX4_beside_75 : decode cX4_beside 75 = .ok (.if_icmp .ge 14, 3) := by decide +kernel
theorem dX4_beside_78 : decode cX4_beside 78 = .ok (.aload_n 0, 1) := by decide +kernel
theorem dX4_beside_79 : decode cX4_beside 79 = .ok (.getfield 27, 3) := by decide +kernel
theorem dX4_beside_82 : decode cX4_beside 82 = .ok (.iload_n 3, 1) := by decide +kernel
theorem dX4_beside_83 : decode cX4_beside 83 = .ok (.invokevirtual 158, 3) := by decide +kernel
theorem dX4_beside_86 : decode cX4_beside 86 = .ok (.goto 11, 3) := by decide +kernel
theorem dX4_beside_89 : decode cX4_beside 89 = .ok (.aload_n 0, 1) := by decide +kernel
theorem dX4_beside_90 : decode cX4_beside 90 = .ok (.getfield 27, 3) := by decide +kernel
theorem dX4_beside_93 : decode cX4_beside 93 = .ok (.iload_n 3, 1) := by decide +kernel
theorem dX4_beside_94 : decode cX4_beside 94 = .ok (.invokevirtual 161, 3) := by decide +kernel
theorem dX4_beside_97 : decode cX4_beside 97 = .ok (.ireturn, 1) := by decide +kernel
theorem dX4_wordOf_0 : decode cX4_wordOf 0 = .ok (.aload_n 0, 1) := by decide +kernel
theorem dX4_wordOf_1 : decode cX4_wordOf 1 = .ok (.iload_n 1, 1) := by decide +kernel
theorem dX4_wordOf_2 : decode cX4_wordOf 2 = .ok (.invokevirtual 55, 3) := by decide +kernel
theorem dX4_wordOf_5 : decode cX4_wordOf 5 = .ok (.astore 4, 2) := by decide +kernel
theorem dX4_wordOf_7 : decode cX4_wordOf 7 = .ok (.aload_n 0, 1) := by decide +kernel
theorem dX4_wordOf_8 : decode cX4_wordOf 8 = .ok (.iload_n 2, 1) := by decide +kernel
theorem dX4_wordOf_9 : decode cX4_wordOf 9 = .ok (.invokevirtual 66, 3) := by decide +kernel
theorem dX4_wordOf_12 : decode cX4_wordOf 12 = .ok (.iload_n 3, 1) := by decide +kernel
theorem dX4_wordOf_13 : decode cX4_wordOf 13 = .ok (.ifCond .lt 8, 3) := by decide +kernel
theorem dX4_wordOf_16 : decode cX4_wordOf 16 = .ok (.iload_n 3, 1) := by decide +kernel
theorem dX4_wordOf_17 : decode cX4_wordOf 17 = .ok (.iconst 1, 1) := by decide +kernel
theorem dX4_wordOf_18 : decode cX4_wordOf 18 = .ok (.if_icmp .le 13, 3) := by decide +kernel
theorem dX4_wordOf_21 : decode cX4_wordOf 21 = .ok (.new 48, 3) := by decide +kernel
theorem dX4_wordOf_24 : decode cX4_wordOf 24 = .ok (.dup, 1) := by decide +kernel
theorem dX4_wordOf_25 : decode cX4_wordOf 25 = .ok (.ldc 164, 2) := by decide +kernel
theorem dX4_wordOf_27 : decode cX4_wordOf 27 = .ok (.invokespecial 52, 3) := by decide +kernel
theorem dX4_wordOf_30 : decode cX4_wordOf 30 = .ok (.athrow, 1) := by decide +kernel
theorem dX4_wordOf_31 : decode cX4_wordOf 31 = .ok (.iload_n 3, 1) := by decide +kernel
theorem dX4_wordOf_32 : decode cX4_wordOf 32 = .ok (.ifCond .ne 12, 3) := by decide +kernel
theorem dX4_wordOf_35 : decode cX4_wordOf 35 = .ok (.aload 4, 2) := by decide +kernel
theorem dX4_wordOf_37 : decode cX4_wordOf 37 = .ok (.iload_n 2, 1) := by decide +kernel
theorem dX4_wordOf_38 : decode cX4_wordOf 38 = .ok (.invokevirtual 166, 3) := by decide +kernel
theorem dX4_wordOf_41 : decode cX4_wordOf 41 = .ok (.goto 9, 3) := by decide +kernel
theorem dX4_wordOf_44 : decode cX4_wordOf 44 = .ok (.aload 4, 2) := by decide +kernel
theorem dX4_wordOf_46 : decode cX4_wordOf 46 = .ok (.iload_n 2, 1) := by decide +kernel
theorem dX4_wordOf_47 : decode cX4_wordOf 47 = .ok (.invokevirtual 170, 3) := by decide +kernel
theorem dX4_wordOf_50 : decode cX4_wordOf 50 = .ok (.lreturn, 1) := by decide +kernel
theorem dX4_meet_0 : decode cX4_meet 0 = .ok (.aload_n 0, 1) := by decide +kernel
theorem dX4_meet_1 : decode cX4_meet 1 = .ok (.iload_n 1, 1) := by decide +kernel
theorem dX4_meet_2 : decode cX4_meet 2 = .ok (.invokevirtual 55, 3) := by decide +kernel
theorem dX4_meet_5 : decode cX4_meet 5 = .ok (.astore 5, 2) := by decide +kernel
theorem dX4_meet_7 : decode cX4_meet 7 = .ok (.aload_n 0, 1) := by decide +kernel
theorem dX4_meet_8 : decode cX4_meet 8 = .ok (.iload_n 2, 1) := by decide +kernel
theorem dX4_meet_9 : decode cX4_meet 9 = .ok (.invokevirtual 66, 3) := by decide +kernel
theorem dX4_meet_12 : decode cX4_meet 12 = .ok (.aload_n 0, 1) := by decide +kernel
theorem dX4_meet_13 : decode cX4_meet 13 = .ok (.iload_n 3, 1) := by decide +kernel
theorem dX4_meet_14 : decode cX4_meet 14 = .ok (.invokevirtual 55, 3) := by decide +kernel
theorem dX4_meet_17 : decode cX4_meet 17 = .ok (.astore 6, 2) := by decide +kernel
theorem dX4_meet_19 : decode cX4_meet 19 = .ok (.aload_n 0, 1) := by decide +kernel
theorem dX4_meet_20 : decode cX4_meet 20 = .ok (.iload 4, 2) := by decide +kernel
theorem dX4_meet_22 : decode cX4_meet 22 = .ok (.invokevirtual 66, 3) := by decide +kernel
theorem dX4_meet_25 : decode cX4_meet 25 = .ok (.aload 5, 2) := by decide +kernel
theorem dX4_meet_27 : decode cX4_meet 27 = .ok (.iload_n 2, 1) := by decide +kernel
theorem dX4_meet_28 : decode cX4_meet 28 = .ok (.aload_n 0, 1) := by decide +kernel
theorem dX4_meet_29 : decode cX4_meet 29 = .ok (.getfield 27, 3) := by decide +kernel
theorem dX4_meet_32 : decode cX4_meet 32 = .ok (.invokevirtual 73, 3) := by decide +kernel
theorem dX4_meet_35 : decode cX4_meet 35 = .ok (.aload_n 0, 1) := by decide +kernel
theorem dX4_meet_36 : decode cX4_meet 36 = .ok (.getfield 27, 3) := by decide +kernel
theorem dX4_meet_39 : decode cX4_meet 39 = .ok (.getfield 99, 3) := by decide +kernel
theorem dX4_meet_42 : decode cX4_meet 42 = .ok (.aload 6, 2) := by decide +kernel
theorem dX4_meet_44 : decode cX4_meet 44 = .ok (.iload 4, 2) := by decide +kernel
theorem dX4_meet_46 : decode cX4_meet 46 = .ok (.invokevirtual 166, 3) := by decide +kernel
theorem dX4_meet_49 : decode cX4_meet 49 = .ok (.land, 1) := by decide +kernel
theorem dX4_meet_50 : decode cX4_meet 50 = .ok (.lconst 0, 1) := by decide +kernel
theorem dX4_meet_51 : decode cX4_meet 51 = .ok (.lcmp, 1) := by decide +kernel
theorem dX4_meet_52 : decode cX4_meet 52 = .ok (.ifCond .ne 23, 3) := by decide +kernel
theorem dX4_meet_55 : decode cX4_meet 55 = .ok (.aload_n 0, 1) := by decide +kernel
theorem dX4_meet_56 : decode cX4_meet 56 = .ok (.getfield 27, 3) := by decide +kernel
theorem dX4_meet_59 : decode cX4_meet 59 = .ok (.getfield 173, 3) := by decide +kernel
theorem dX4_meet_62 : decode cX4_meet 62 = .ok (.aload 6, 2) := by decide +kernel
theorem dX4_meet_64 : decode cX4_meet 64 = .ok (.iload 4, 2) := by decide +kernel
theorem dX4_meet_66 : decode cX4_meet 66 = .ok (.invokevirtual 170, 3) := by decide +kernel
theorem dX4_meet_69 : decode cX4_meet 69 = .ok (.land, 1) := by decide +kernel
theorem dX4_meet_70 : decode cX4_meet 70 = .ok (.lconst 0, 1) := by decide +kernel
theorem dX4_meet_71 : decode cX4_meet 71 = .ok (.lcmp, 1) := by decide +kernel
theorem dX4_meet_72 : decode cX4_meet 72 = .ok (.ifCond .eq 7, 3) := by decide +kernel
theorem dX4_meet_75 : decode cX4_meet 75 = .ok (.iconst 1, 1) := by decide +kernel
theorem dX4_meet_76 : decode cX4_meet 76 = .ok (.goto 4, 3) := by decide +kernel
theorem dX4_meet_79 : decode cX4_meet 79 = .ok (.iconst 0, 1) := by decide +kernel
theorem dX4_meet_80 : decode cX4_meet 80 = .ok (.ireturn, 1) := by decide +kernel
theorem dX4_compare_0 : decode cX4_compare 0 = .ok (.aload_n 0, 1) := by decide +kernel
theorem dX4_compare_1 : decode cX4_compare 1 = .ok (.iload_n 1, 1) := by decide +kernel
theorem dX4_compare_2 : decode cX4_compare 2 = .ok (.invokevirtual 55, 3) := by decide +kernel
theorem dX4_compare_5 : decode cX4_compare 5 = .ok (.astore_n 3, 1) := by decide +kernel
theorem dX4_compare_6 : decode cX4_compare 6 = .ok (.aload_n 0, 1) := by decide +kernel
theorem dX4_compare_7 : decode cX4_compare 7 = .ok (.iload_n 2, 1) := by decide +kernel
theorem dX4_compare_8 : decode cX4_compare 8 = .ok (.invokevirtual 55, 3) := by decide +kernel
theorem dX4_compare_11 : decode cX4_compare 11 = .ok (.astore 4, 2) := by decide +kernel
theorem dX4_compare_13 : decode cX4_compare 13 = .ok (.aload_n 3, 1) := by decide +kernel
theorem dX4_compare_14 : decode cX4_compare 14 = .ok (.aload 4, 2) := by decide +kernel
theorem dX4_compare_16 : decode cX4_compare 16 = .ok (.invokevirtual 176, 3) := by decide +kernel
theorem dX4_compare_19 : decode cX4_compare 19 = .ok (.istore 5, 2) := by decide +kernel
theorem dX4_compare_21 : decode cX4_compare 21 = .ok (.aload 4, 2) := by decide +kernel
theorem dX4_compare_23 : decode cX4_compare 23 = .ok (.aload_n 3, 1) := by decide +kernel
theorem dX4_compare_24 : decode cX4_compare 24 = .ok (.invokevirtual 176, 3) := by decide +kernel
theorem dX4_compare_27 : decode cX4_compare 27 = .ok (.istore 6, 2) := by decide +kernel
theorem dX4_compare_29 : decode cX4_compare 29 = .ok (.iload 5, 2) := by decide +kernel
theorem dX4_compare_31 : decode cX4_compare 31 = .ok (.ifCond .eq 14, 3) := by decide +kernel
theorem dX4_compare_34 : decode cX4_compare 34 = .ok (.iload 6, 2) := by decide +kernel
theorem dX4_compare_36 : decode cX4_compare 36 = .ok (.ifCond .eq 7, 3) := by decide +kernel
theorem dX4_compare_39 : decode cX4_compare 39 = .ok (.iconst 0, 1) := by decide +kernel
theorem dX4_compare_40 : decode cX4_compare 40 = .ok (.goto 4, 3) := by decide +kernel
theorem dX4_compare_43 : decode cX4_compare 43 = .ok (.iconst 1, 1) := by decide +kernel
theorem dX4_compare_44 : decode cX4_compare 44 = .ok (.ireturn, 1) := by decide +kernel
theorem dX4_compare_45 : decode cX4_compare 45 = .ok (.iload 6, 2) := by decide +kernel
theorem dX4_compare_47 : decode cX4_compare 47 = .ok (.ifCond .eq 7, 3) := by decide +kernel
theorem dX4_compare_50 : decode cX4_compare 50 = .ok (.iconst 2, 1) := by decide +kernel
theorem dX4_compare_51 : decode cX4_compare 51 = .ok (.goto 4, 3) := by decide +kernel
theorem dX4_compare_54 : decode cX4_compare 54 = .ok (.iconst 3, 1) := by decide +kernel
theorem dX4_compare_55 : decode cX4_compare 55 = .ok (.ireturn, 1) := by decide +kernel
theorem dX4_is_0 : decode cX4_is 0 = .ok (.aload_n 0, 1) := by decide +kernel
theorem dX4_is_1 : decode cX4_is 1 = .ok (.iload_n 1, 1) := by decide +kernel
theorem dX4_is_2 : decode cX4_is 2 = .ok (.invokevirtual 55, 3) := by decide +kernel
theorem dX4_is_5 : decode cX4_is 5 = .ok (.astore_n 3, 1) := by decide +kernel
theorem dX4_is_6 : decode cX4_is 6 = .ok (.iload_n 2, 1) := by decide +kernel
theorem dX4_is_7 : decode cX4_is 7 = .ok (.ifCond .lt 8, 3) := by decide +kernel
theorem dX4_is_10 : decode cX4_is 10 = .ok (.iload_n 2, 1) := by decide +kernel
theorem dX4_is_11 : decode cX4_is 11 = .ok (.iconst 5, 1) := by decide +kernel
theorem dX4_is_12 : decode cX4_is 12 = .ok (.if_icmp .le 13, 3) := by decide +kernel
theorem dX4_is_15 : decode cX4_is 15 = .ok (.new 48, 3) := by decide +kernel
theorem dX4_is_18 : decode cX4_is 18 = .ok (.dup, 1) := by decide +kernel
theorem dX4_is_19 : decode cX4_is 19 = .ok (.ldc 180, 2) := by decide +kernel
theorem dX4_is_21 : decode cX4_is 21 = .ok (.invokespecial 52, 3) := by decide +kernel
theorem dX4_is_24 : decode cX4_is 24 = .ok (.athrow, 1) := by decide +kernel
theorem dX4_is_25 : decode cX4_is 25 = .ok (.iload_n 2, 1) := by decide +kernel
theorem dX4_is_26 : decode cX4_is 26 = .ok (.tableswitch 69 0 4 #[34, 51, 69, 69, 64], 34) := by decide +kernel
theorem dX4_is_60 : decode cX4_is 60 = .ok (.aload_n 3, 1) := by decide +kernel
theorem dX4_is_61 : decode cX4_is 61 = .ok (.invokevirtual 182, 3) := by decide +kernel
theorem dX4_is_64 : decode cX4_is 64 = .ok (.aload_n 0, 1) := by decide +kernel
theorem dX4_is_65 : decode cX4_is 65 = .ok (.getfield 9, 3) := by decide +kernel
theorem dX4_is_68 : decode cX4_is 68 = .ok (.if_icmp .ne 7, 3) := by decide +kernel
theorem dX4_is_71 : decode cX4_is 71 = .ok (.iconst 1, 1) := by decide +kernel
theorem dX4_is_72 : decode cX4_is 72 = .ok (.goto 4, 3) := by decide +kernel
theorem dX4_is_75 : decode cX4_is 75 = .ok (.iconst 0, 1) := by decide +kernel
theorem dX4_is_76 : decode cX4_is 76 = .ok (.ireturn, 1) := by decide +kernel
theorem dX4_is_77 : decode cX4_is 77 = .ok (.aload_n 3, 1) := by decide +kernel
theorem dX4_is_78 : decode cX4_is 78 = .ok (.invokevirtual 182, 3) := by decide +kernel
theorem dX4_is_81 : decode cX4_is 81 = .ok (.ifCond .ne 7, 3) := by decide +kernel
theorem dX4_is_84 : decode cX4_is 84 = .ok (.iconst 1, 1) := by decide +kernel
theorem dX4_is_85 : decode cX4_is 85 = .ok (.goto 4, 3) := by decide +kernel
theorem dX4_is_88 : decode cX4_is 88 = .ok (.iconst 0, 1) := by decide +kernel
theorem dX4_is_89 : decode cX4_is 89 = .ok (.ireturn, 1) := by decide +kernel
theorem dX4_is_90 : decode cX4_is 90 = .ok (.aload_n 3, 1) := by decide +kernel
theorem dX4_is_91 : decode cX4_is 91 = .ok (.invokevirtual 185, 3) := by decide +kernel
theorem dX4_is_94 : decode cX4_is 94 = .ok (.ireturn, 1) := by decide +kernel
theorem dX4_is_95 : decode cX4_is 95 = .ok (.aload_n 3, 1) := by decide +kernel
theorem dX4_is_96 : decode cX4_is 96 = .ok (.iload_n 2, 1) := by decide +kernel
theorem dX4_is_97 : decode cX4_is 97 = .ok (.invokevirtual 189, 3) := by decide +kernel
theorem dX4_is_100 : decode cX4_is 100 = .ok (.ireturn, 1) := by decide +kernel
theorem dX4_steps_0 : decode cX4_steps 0 = .ok (.aload_n 0, 1) := by decide +kernel
theorem dX4_steps_1 : decode cX4_steps 1 = .ok (.iload_n 1, 1) := by decide +kernel
theorem dX4_steps_2 : decode cX4_steps 2 = .ok (.invokevirtual 55, 3) := by decide +kernel
theorem dX4_steps_5 : decode cX4_steps 5 = .ok (.astore 4, 2) := by decide +kernel
theorem dX4_steps_7 : decode cX4_steps 7 = .ok (.aload_n 0, 1) := by decide +kernel
theorem dX4_steps_8 : decode cX4_steps 8 = .ok (.iload_n 2, 1) := by decide +kernel
theorem dX4_steps_9 : decode cX4_steps 9 = .ok (.invokevirtual 66, 3) := by decide +kernel
theorem dX4_steps_12 : decode cX4_steps 12 = .ok (.aload_n 0, 1) := by decide +kernel
theorem dX4_steps_13 : decode cX4_steps 13 = .ok (.iload_n 3, 1) := by decide +kernel
theorem dX4_steps_14 : decode cX4_steps 14 = .ok (.invokevirtual 66, 3) := by decide +kernel
theorem dX4_steps_17 : decode cX4_steps 17 = .ok (.aload_n 0, 1) := by decide +kernel
theorem dX4_steps_18 : decode cX4_steps 18 = .ok (.getfield 37, 3) := by decide +kernel
theorem dX4_steps_21 : decode cX4_steps 21 = .ok (.aload 4, 2) := by decide +kernel
theorem dX4_steps_23 : decode cX4_steps 23 = .ok (.iload_n 2, 1) := by decide +kernel
theorem dX4_steps_24 : decode cX4_steps 24 = .ok (.iload_n 3, 1) := by decide +kernel
theorem dX4_steps_25 : decode cX4_steps 25 = .ok (.invokevirtual 193, 3) := by decide +kernel
theorem dX4_steps_28 : decode cX4_steps 28 = .ok (.ireturn, 1) := by decide +kernel
theorem dX4_classOf_0 : decode cX4_classOf 0 = .ok (.aload_n 0, 1) := by decide +kernel
theorem dX4_classOf_1 : decode cX4_classOf 1 = .ok (.iload_n 1, 1) := by decide +kernel
theorem dX4_classOf_2 : decode cX4_classOf 2 = .ok (.invokevirtual 55, 3) := by decide +kernel
theorem dX4_classOf_5 : decode cX4_classOf 5 = .ok (.astore_n 3, 1) := by decide +kernel
theorem dX4_classOf_6 : decode cX4_classOf 6 = .ok (.aload_n 0, 1) := by decide +kernel
theorem dX4_classOf_7 : decode cX4_classOf 7 = .ok (.iload_n 2, 1) := by decide +kernel
theorem dX4_classOf_8 : decode cX4_classOf 8 = .ok (.invokevirtual 66, 3) := by decide +kernel
theorem dX4_classOf_11 : decode cX4_classOf 11 = .ok (.aload_n 0, 1) := by decide +kernel
theorem dX4_classOf_12 : decode cX4_classOf 12 = .ok (.aload_n 3, 1) := by decide +kernel
theorem dX4_classOf_13 : decode cX4_classOf 13 = .ok (.invokevirtual 152, 3) := by decide +kernel
theorem dX4_classOf_16 : decode cX4_classOf 16 = .ok (.aload_n 0, 1) := by decide +kernel
theorem dX4_classOf_17 : decode cX4_classOf 17 = .ok (.getfield 30, 3) := by decide +kernel
theorem dX4_classOf_20 : decode cX4_classOf 20 = .ok (.iload_n 2, 1) := by decide +kernel
theorem dX4_classOf_21 : decode cX4_classOf 21 = .ok (.invokevirtual 197, 3) := by decide +kernel
theorem dX4_classOf_24 : decode cX4_classOf 24 = .ok (.ireturn, 1) := by decide +kernel
theorem dX4_classes_0 : decode cX4_classes 0 = .ok (.aload_n 0, 1) := by decide +kernel
theorem dX4_classes_1 : decode cX4_classes 1 = .ok (.iload_n 1, 1) := by decide +kernel
theorem dX4_classes_2 : decode cX4_classes 2 = .ok (.invokevirtual 55, 3) := by decide +kernel
theorem dX4_classes_5 : decode cX4_classes 5 = .ok (.astore_n 2, 1) := by decide +kernel
theorem dX4_classes_6 : decode cX4_classes 6 = .ok (.aload_n 0, 1) := by decide +kernel
theorem dX4_classes_7 : decode cX4_classes 7 = .ok (.aload_n 2, 1) := by decide +kernel
theorem dX4_classes_8 : decode cX4_classes 8 = .ok (.invokevirtual 152, 3) := by decide +kernel
theorem dX4_classes_11 : decode cX4_classes 11 = .ok (.aload_n 0, 1) := by decide +kernel
theorem dX4_classes_12 : decode cX4_classes 12 = .ok (.getfield 30, 3) := by decide +kernel
theorem dX4_classes_15 : decode cX4_classes 15 = .ok (.invokevirtual 200, 3) := by decide +kernel
theorem dX4_classes_18 : decode cX4_classes 18 = .ok (.ireturn, 1) := by decide +kernel
theorem dX4_hasRing_0 : decode cX4_hasRing 0 = .ok (.aload_n 0, 1) := by decide +kernel
theorem dX4_hasRing_1 : decode cX4_hasRing 1 = .ok (.getfield 37, 3) := by decide +kernel
theorem dX4_hasRing_4 : decode cX4_hasRing 4 = .ok (.aload_n 0, 1) := by decide +kernel
theorem dX4_hasRing_5 : decode cX4_hasRing 5 = .ok (.iload_n 1, 1) := by decide +kernel
theorem dX4_hasRing_6 : decode cX4_hasRing 6 = .ok (.invokevirtual 55, 3) := by decide +kernel
theorem dX4_hasRing_9 : decode cX4_hasRing 9 = .ok (.invokevirtual 143, 3) := by decide +kernel
theorem dX4_hasRing_12 : decode cX4_hasRing 12 = .ok (.iconst (-1), 1) := by decide +kernel
theorem dX4_hasRing_13 : decode cX4_hasRing 13 = .ok (.if_icmp .ne 7, 3) := by decide +kernel
theorem dX4_hasRing_16 : decode cX4_hasRing 16 = .ok (.iconst 1, 1) := by decide +kernel
theorem dX4_hasRing_17 : decode cX4_hasRing 17 = .ok (.goto 4, 3) := by decide +kernel
theorem dX4_hasRing_20 : decode cX4_hasRing 20 = .ok (.iconst 0, 1) := by decide +kernel
theorem dX4_hasRing_21 : decode cX4_hasRing 21 = .ok (.ireturn, 1) := by decide +kernel
theorem dX4_orderAt_0 : decode cX4_orderAt 0 = .ok (.aload_n 0, 1) := by decide +kernel
theorem dX4_orderAt_1 : decode cX4_orderAt 1 = .ok (.iload_n 1, 1) := by decide +kernel
theorem dX4_orderAt_2 : decode cX4_orderAt 2 = .ok (.invokevirtual 55, 3) := by decide +kernel
theorem dX4_orderAt_5 : decode cX4_orderAt 5 = .ok (.astore_n 3, 1) := by decide +kernel
theorem dX4_orderAt_6 : decode cX4_orderAt 6 = .ok (.aload_n 0, 1) := by decide +kernel
theorem dX4_orderAt_7 : decode cX4_orderAt 7 = .ok (.iload_n 2, 1) := by decide +kernel
theorem dX4_orderAt_8 : decode cX4_orderAt 8 = .ok (.invokevirtual 66, 3) := by decide +kernel
theorem dX4_orderAt_11 : decode cX4_orderAt 11 = .ok (.aload_n 0, 1) := by decide +kernel
theorem dX4_orderAt_12 : decode cX4_orderAt 12 = .ok (.getfield 37, 3) := by decide +kernel
theorem dX4_orderAt_15 : decode cX4_orderAt 15 = .ok (.aload_n 3, 1) := by decide +kernel
theorem dX4_orderAt_16 : decode cX4_orderAt 16 = .ok (.invokevirtual 203, 3) := by decide +kernel
theorem dX4_orderAt_19 : decode cX4_orderAt 19 = .ok (.ifCond .ne 13, 3) := by decide +kernel
theorem dX4_orderAt_22 : decode cX4_orderAt 22 = .ok (.new 147, 3) := by decide +kernel
theorem dX4_orderAt_25 : decode cX4_orderAt 25 = .ok (.dup, 1) := by decide +kernel
theorem dX4_orderAt_26 : decode cX4_orderAt 26 = .ok (.ldc 206, 2) := by decide +kernel
theorem dX4_orderAt_28 : decode cX4_orderAt 28 = .ok (.invokespecial 151, 3) := by decide +kernel
theorem dX4_orderAt_31 : decode cX4_orderAt 31 = .ok (.athrow, 1) := by decide +kernel
theorem dX4_orderAt_32 : decode cX4_orderAt 32 = .ok (.aload_n 0, 1) := by decide +kernel
theorem dX4_orderAt_33 : decode cX4_orderAt 33 = .ok (.getfield 37, 3) := by decide +kernel
theorem dX4_orderAt_36 : decode cX4_orderAt 36 = .ok (.iload_n 2, 1) := by decide +kernel
theorem dX4_orderAt_37 : decode cX4_orderAt 37 = .ok (.invokevirtual 208, 3) := by decide +kernel
theorem dX4_orderAt_40 : decode cX4_orderAt 40 = .ok (.ireturn, 1) := by decide +kernel
theorem dX4_longestWalk_0 : decode cX4_longestWalk 0 = .ok (.aload_n 0, 1) := by decide +kernel
theorem dX4_longestWalk_1 : decode cX4_longestWalk 1 = .ok (.getfield 37, 3) := by decide +kernel
theorem dX4_longestWalk_4 : decode cX4_longestWalk 4 = .ok (.aload_n 0, 1) := by decide +kernel
theorem dX4_longestWalk_5 : decode cX4_longestWalk 5 = .ok (.iload_n 1, 1) := by decide +kernel
theorem dX4_longestWalk_6 : decode cX4_longestWalk 6 = .ok (.invokevirtual 55, 3) := by decide +kernel
theorem dX4_longestWalk_9 : decode cX4_longestWalk 9 = .ok (.invokevirtual 143, 3) := by decide +kernel
theorem dX4_longestWalk_12 : decode cX4_longestWalk 12 = .ok (.istore_n 2, 1) := by decide +kernel
theorem dX4_longestWalk_13 : decode cX4_longestWalk 13 = .ok (.iload_n 2, 1) := by decide +kernel
theorem dX4_longestWalk_14 : decode cX4_longestWalk 14 = .ok (.iconst (-1), 1) := by decide +kernel
theorem dX4_longestWalk_15 : decode cX4_longestWalk 15 = .ok (.if_icmp .ne 13, 3) := by decide +kernel
theorem dX4_longestWalk_18 : decode cX4_longestWalk 18 = .ok (.new 147, 3) := by decide +kernel
theorem dX4_longestWalk_21 : decode cX4_longestWalk 21 = .ok (.dup, 1) := by decide +kernel
theorem dX4_longestWalk_22 : decode cX4_longestWalk 22 = .ok (.ldc 149, 2) := by decide +kernel
theorem dX4_longestWalk_24 : decode cX4_longestWalk 24 = .ok (.invokespecial 151, 3) := by decide +kernel
theorem dX4_longestWalk_27 : decode cX4_longestWalk 27 = .ok (.athrow, 1) := by decide +kernel
theorem dX4_longestWalk_28 : decode cX4_longestWalk 28 = .ok (.iload_n 2, 1) := by decide +kernel
theorem dX4_longestWalk_29 : decode cX4_longestWalk 29 = .ok (.ireturn, 1) := by decide +kernel
theorem dX4_mark_0 : decode cX4_mark 0 = .ok (.aload_n 0, 1) := by decide +kernel
theorem dX4_mark_1 : decode cX4_mark 1 = .ok (.iload_n 1, 1) := by decide +kernel
theorem dX4_mark_2 : decode cX4_mark 2 = .ok (.iload_n 2, 1) := by decide +kernel
theorem dX4_mark_3 : decode cX4_mark 3 = .ok (.invokevirtual 84, 3) := by decide +kernel
theorem dX4_mark_6 : decode cX4_mark 6 = .ok (.aload_n 0, 1) := by decide +kernel
theorem dX4_mark_7 : decode cX4_mark 7 = .ok (.getfield 23, 3) := by decide +kernel
theorem dX4_mark_10 : decode cX4_mark 10 = .ok (.iload_n 1, 1) := by decide +kernel
theorem dX4_mark_11 : decode cX4_mark 11 = .ok (.iload_n 2, 1) := by decide +kernel
theorem dX4_mark_12 : decode cX4_mark 12 = .ok (.iload_n 3, 1) := by decide +kernel
theorem dX4_mark_13 : decode cX4_mark 13 = .ok (.invokevirtual 77, 3) := by decide +kernel
theorem dX4_mark_16 : decode cX4_mark 16 = .ok (.aload_n 0, 1) := by decide +kernel
theorem dX4_mark_17 : decode cX4_mark 17 = .ok (.getfield 23, 3) := by decide +kernel
theorem dX4_mark_20 : decode cX4_mark 20 = .ok (.invokevirtual 211, 3) := by decide +kernel
theorem dX4_mark_23 : decode cX4_mark 23 = .ok (.ireturn, 1) := by decide +kernel
theorem dX4_spread_0 : decode cX4_spread 0 = .ok (.aload_n 0, 1) := by decide +kernel
theorem dX4_spread_1 : decode cX4_spread 1 = .ok (.iload_n 1, 1) := by decide +kernel
theorem dX4_spread_2 : decode cX4_spread 2 = .ok (.invokevirtual 55, 3) := by decide +kernel
theorem dX4_spread_5 : decode cX4_spread 5 = .ok (.astore_n 3, 1) := by decide +kernel
theorem dX4_spread_6 : decode cX4_spread 6 = .ok (.aload_n 0, 1) := by decide +kernel
theorem dX4_spread_7 : decode cX4_spread 7 = .ok (.getfield 27, 3) := by decide +kernel
theorem dX4_spread_10 : decode cX4_spread 10 = .ok (.aload_n 0, 1) := by decide +kernel
theorem dX4_spread_11 : decode cX4_spread 11 = .ok (.getfield 23, 3) := by decide +kernel
theorem dX4_spread_14 : decode cX4_spread 14 = .ok (.invokevirtual 214, 3) := by decide +kernel
theorem dX4_spread_17 : decode cX4_spread 17 = .ok (.aload_n 3, 1) := by decide +kernel
theorem dX4_spread_18 : decode cX4_spread 18 = .ok (.aload_n 0, 1) := by decide +kernel
theorem dX4_spread_19 : decode cX4_spread 19 = .ok (.getfield 27, 3) := by decide +kernel
theorem dX4_spread_22 : decode cX4_spread 22 = .ok (.aload_n 0, 1) := by decide +kernel
theorem dX4_spread_23 : decode cX4_spread 23 = .ok (.getfield 23, 3) := by decide +kernel
theorem dX4_spread_26 : decode cX4_spread 26 = .ok (.invokevirtual 218, 3) := by decide +kernel
theorem dX4_spread_29 : decode cX4_spread 29 = .ok (.iload_n 2, 1) := by decide +kernel
theorem dX4_spread_30 : decode cX4_spread 30 = .ok (.ifCond .eq 14, 3) := by decide +kernel
theorem dX4_spread_33 : decode cX4_spread 33 = .ok (.aload_n 0, 1) := by decide +kernel
theorem dX4_spread_34 : decode cX4_spread 34 = .ok (.getfield 23, 3) := by decide +kernel
theorem dX4_spread_37 : decode cX4_spread 37 = .ok (.aload_n 0, 1) := by decide +kernel
theorem dX4_spread_38 : decode cX4_spread 38 = .ok (.getfield 27, 3) := by decide +kernel
theorem dX4_spread_41 : decode cX4_spread 41 = .ok (.invokevirtual 222, 3) := by decide +kernel
theorem dX4_spread_44 : decode cX4_spread 44 = .ok (.aload_n 0, 1) := by decide +kernel
theorem dX4_spread_45 : decode cX4_spread 45 = .ok (.getfield 23, 3) := by decide +kernel
theorem dX4_spread_48 : decode cX4_spread 48 = .ok (.invokevirtual 211, 3) := by decide +kernel
theorem dX4_spread_51 : decode cX4_spread 51 = .ok (.ireturn, 1) := by decide +kernel
theorem dX4_markedAt_0 : decode cX4_markedAt 0 = .ok (.iconst 0, 1) := by decide +kernel
theorem dX4_markedAt_1 : decode cX4_markedAt 1 = .ok (.istore_n 2, 1) := by decide +kernel
theorem dX4_markedAt_2 : decode cX4_markedAt 2 = .ok (.iconst 0, 1) := by decide +kernel
theorem dX4_markedAt_3 : decode cX4_markedAt 3 = .ok (.istore_n 3, 1) := by decide +kernel
theorem dX4_markedAt_4 : decode cX4_markedAt 4 = .ok (.iload_n 3, 1) := by decide +kernel
theorem dX4_markedAt_5 : decode cX4_markedAt 5 = .ok (.aload_n 0, 1) := by decide +kernel
theorem dX4_markedAt_6 : decode cX4_markedAt 6 = .ok (.getfield 9, 3) := by decide +kernel
theorem dX4_markedAt_9 : decode cX4_markedAt 9 = .ok (.if_icmp .ge 30, 3) := by decide +kernel
theorem dX4_markedAt_12 : decode cX4_markedAt 12 = .ok (.aload_n 0, 1) := by decide +kernel
theorem dX4_markedAt_13 : decode cX4_markedAt 13 = .ok (.getfield 23, 3) := by decide +kernel
theorem dX4_markedAt_16 : decode cX4_markedAt 16 = .ok (.iload_n 3, 1) := by decide +kernel
theorem dX4_markedAt_17 : decode cX4_markedAt 17 = .ok (.invokevirtual 225, 3) := by decide +kernel
theorem dX4_markedAt_20 : decode cX4_markedAt 20 = .ok (.ifCond .eq 13, 3) := by decide +kernel
theorem dX4_markedAt_23 : decode cX4_markedAt 23 = .ok (.iload_n 2, 1) := by decide +kernel
theorem dX4_markedAt_24 : decode cX4_markedAt 24 = .ok (.iload_n 1, 1) := by decide +kernel
theorem dX4_markedAt_25 : decode cX4_markedAt 25 = .ok (.if_icmp .ne 5, 3) := by decide +kernel
theorem dX4_markedAt_28 : decode cX4_markedAt 28 = .ok (.iload_n 3, 1) := by decide +kernel
theorem dX4_markedAt_29 : decode cX4_markedAt 29 = .ok (.ireturn, 1) := by decide +kernel
theorem dX4_markedAt_30 : decode cX4_markedAt 30 = .ok (.iinc 2 1, 3) := by decide +kernel
theorem dX4_markedAt_33 : decode cX4_markedAt 33 = .ok (.iinc 3 1, 3) := by decide +kernel
theorem dX4_markedAt_36 : decode cX4_markedAt 36 = .ok (.goto (-32), 3) := by decide +kernel
theorem dX4_markedAt_39 : decode cX4_markedAt 39 = .ok (.new 227, 3) := by decide +kernel
theorem dX4_markedAt_42 : decode cX4_markedAt 42 = .ok (.dup, 1) := by decide +kernel
theorem dX4_markedAt_43 : decode cX4_markedAt 43 = .ok (.ldc 229, 2) := by decide +kernel
theorem dX4_markedAt_45 : decode cX4_markedAt 45 = .ok (.invokespecial 231, 3) := by decide +kernel
theorem dX4_markedAt_48 : decode cX4_markedAt 48 = .ok (.athrow, 1) := by decide +kernel
theorem dX4_endOfMarks_0 : decode cX4_endOfMarks 0 = .ok (.aload_n 0, 1) := by decide +kernel
theorem dX4_endOfMarks_1 : decode cX4_endOfMarks 1 = .ok (.getfield 23, 3) := by decide +kernel
theorem dX4_endOfMarks_4 : decode cX4_endOfMarks 4 = .ok (.bipush 79, 2) := by decide +kernel
theorem dX4_endOfMarks_6 : decode cX4_endOfMarks 6 = .ok (.invokevirtual 161, 3) := by decide +kernel
theorem dX4_endOfMarks_9 : decode cX4_endOfMarks 9 = .ok (.iconst 1, 1) := by decide +kernel
theorem dX4_endOfMarks_10 : decode cX4_endOfMarks 10 = .ok (.iadd, 1) := by decide +kernel
theorem dX4_endOfMarks_11 : decode cX4_endOfMarks 11 = .ok (.ireturn, 1) := by decide +kernel
theorem dX4_meanRow_0 : decode cX4_meanRow 0 = .ok (.aload_n 0, 1) := by decide +kernel
theorem dX4_meanRow_1 : decode cX4_meanRow 1 = .ok (.iload_n 1, 1) := by decide +kernel
theorem dX4_meanRow_2 : decode cX4_meanRow 2 = .ok (.invokevirtual 55, 3) := by decide +kernel
theorem dX4_meanRow_5 : decode cX4_meanRow 5 = .ok (.invokevirtual 106, 3) := by decide +kernel
theorem dX4_meanRow_8 : decode cX4_meanRow 8 = .ok (.i2d, 1) := by decide +kernel
theorem dX4_meanRow_9 : decode cX4_meanRow 9 = .ok (.dstore_n 2, 1) := by decide +kernel
theorem dX4_meanRow_10 : decode cX4_meanRow 10 = .ok (.aload_n 0, 1) := by decide +kernel
theorem dX4_meanRow_11 : decode cX4_meanRow 11 = .ok (.getfield 9, 3) := by decide +kernel
theorem dX4_meanRow_14 : decode cX4_meanRow 14 = .ok (.iconst 1, 1) := by decide +kernel
theorem dX4_meanRow_15 : decode cX4_meanRow 15 = .ok (.if_icmp .ge 7, 3) := by decide +kernel
theorem dX4_meanRow_18 : decode cX4_meanRow 18 = .ok (.dconst 0, 1) := by decide +kernel
theorem dX4_meanRow_19 : decode cX4_meanRow 19 = .ok (.goto 10, 3) := by decide +kernel
theorem dX4_meanRow_22 : decode cX4_meanRow 22 = .ok (.dload_n 2, 1) := by decide +kernel
theorem dX4_meanRow_23 : decode cX4_meanRow 23 = .ok (.aload_n 0, 1) := by decide +kernel
theorem dX4_meanRow_24 : decode cX4_meanRow 24 = .ok (.getfield 9, 3) := by decide +kernel
theorem dX4_meanRow_27 : decode cX4_meanRow 27 = .ok (.i2d, 1) := by decide +kernel
theorem dX4_meanRow_28 : decode cX4_meanRow 28 = .ok (.ddiv, 1) := by decide +kernel
theorem dX4_meanRow_29 : decode cX4_meanRow 29 = .ok (.dreturn, 1) := by decide +kernel
theorem dX4_share_0 : decode cX4_share 0 = .ok (.aload_n 0, 1) := by decide +kernel
theorem dX4_share_1 : decode cX4_share 1 = .ok (.iload_n 1, 1) := by decide +kernel
theorem dX4_share_2 : decode cX4_share 2 = .ok (.invokevirtual 55, 3) := by decide +kernel
theorem dX4_share_5 : decode cX4_share 5 = .ok (.invokevirtual 106, 3) := by decide +kernel
theorem dX4_share_8 : decode cX4_share 8 = .ok (.i2f, 1) := by decide +kernel
theorem dX4_share_9 : decode cX4_share 9 = .ok (.fstore_n 2, 1) := by decide +kernel
theorem dX4_share_10 : decode cX4_share 10 = .ok (.aload_n 0, 1) := by decide +kernel
theorem dX4_share_11 : decode cX4_share 11 = .ok (.getfield 9, 3) := by decide +kernel
theorem dX4_share_14 : decode cX4_share 14 = .ok (.iconst 1, 1) := by decide +kernel
theorem dX4_share_15 : decode cX4_share 15 = .ok (.if_icmp .ge 7, 3) := by decide +kernel
theorem dX4_share_18 : decode cX4_share 18 = .ok (.fconst 0, 1) := by decide +kernel
theorem dX4_share_19 : decode cX4_share 19 = .ok (.goto 15, 3) := by decide +kernel
theorem dX4_share_22 : decode cX4_share 22 = .ok (.fload_n 2, 1) := by decide +kernel
theorem dX4_share_23 : decode cX4_share 23 = .ok (.aload_n 0, 1) := by decide +kernel
theorem dX4_share_24 : decode cX4_share 24 = .ok (.getfield 9, 3) := by decide +kernel
theorem dX4_share_27 : decode cX4_share 27 = .ok (.aload_n 0, 1) := by decide +kernel
theorem dX4_share_28 : decode cX4_share 28 = .ok (.getfield 9, 3) := by decide +kernel
theorem dX4_share_31 : decode cX4_share 31 = .ok (.imul, 1) := by decide +kernel
theorem dX4_share_32 : decode cX4_share 32 = .ok (.i2f, 1) := by decide +kernel
theorem dX4_share_33 : decode cX4_share 33 = .ok (.fdiv, 1) := by decide +kernel
theorem dX4_share_34 : decode cX4_share 34 = .ok (.freturn, 1) := by decide +kernel
theorem dX4_errors_0 : decode cX4_errors 0 = .ok (.iconst 0, 1) := by decide +kernel
theorem dX4_errors_1 : decode cX4_errors 1 = .ok (.istore_n 1, 1) := by decide +kernel
theorem dX4_errors_2 : decode cX4_errors 2 = .ok (.iconst 0, 1) := by decide +kernel
theorem dX4_errors_3 : decode cX4_errors 3 = .ok (.istore_n 2, 1) := by decide +kernel
theorem dX4_errors_4 : decode cX4_errors 4 = .ok (.iload_n 2, 1) := by decide +kernel
theorem dX4_errors_5 : decode cX4_errors 5 = .ok (.iconst 3, 1) := by decide +kernel
theorem dX4_errors_6 : decode cX4_errors 6 = .ok (.if_icmp .ge 24, 3) := by decide +kernel
theorem dX4_errors_9 : decode cX4_errors 9 = .ok (.iload_n 1, 1) := by decide +kernel
theorem dX4_errors_10 : decode cX4_errors 10 = .ok (.aload_n 0, 1) := by decide +kernel
theorem dX4_errors_11 : decode cX4_errors 11 = .ok (.getfield 44, 3) := by decide +kernel
theorem dX4_errors_14 : decode cX4_errors 14 = .ok (.aload_n 0, 1) := by decide +kernel
theorem dX4_errors_15 : decode cX4_errors 15 = .ok (.iload_n 2, 1) := by decide +kernel
theorem dX4_errors_16 : decode cX4_errors 16 = .ok (.invokevirtual 55, 3) := by decide +kernel
theorem dX4_errors_19 : decode cX4_errors 19 = .ok (.invokevirtual 232, 3) := by decide +kernel
theorem dX4_errors_22 : decode cX4_errors 22 = .ok (.iadd, 1) := by decide +kernel
theorem dX4_errors_23 : decode cX4_errors 23 = .ok (.istore_n 1, 1) := by decide +kernel
theorem dX4_errors_24 : decode cX4_errors 24 = .ok (.iinc 2 1, 3) := by decide +kernel
theorem dX4_errors_27 : decode cX4_errors 27 = .ok (.goto (-23), 3) := by decide +kernel
theorem dX4_errors_30 : decode cX4_errors 30 = .ok (.iload_n 1, 1) := by decide +kernel
theorem dX4_errors_31 : decode cX4_errors 31 = .ok (.aload_n 0, 1) := by decide +kernel
theorem dX4_errors_32 : decode cX4_errors 32 = .ok (.getfield 44, 3) := by decide +kernel
theorem dX4_errors_35 : decode cX4_errors 35 = .ok (.aload_n 0, 1) := by decide +kernel
theorem dX4_errors_36 : decode cX4_errors 36 = .ok (.iconst 0, 1) := by decide +kernel
theorem dX4_errors_37 : decode cX4_errors 37 = .ok (.invokevirtual 55, 3) := by decide +kernel
theorem dX4_errors_40 : decode cX4_errors 40 = .ok (.aload_n 0, 1) := by decide +kernel
theorem dX4_errors_41 : decode cX4_errors 41 = .ok (.iconst 1, 1) := by decide +kernel
theorem dX4_errors_42 : decode cX4_errors 42 = .ok (.invokevirtual 55, 3) := by decide +kernel
theorem dX4_errors_45 : decode cX4_errors 45 = .ok (.aload_n 0, 1) := by decide +kernel
theorem dX4_errors_46 : decode cX4_errors 46 = .ok (.iconst 2, 1) := by decide +kernel
theorem dX4_errors_47 : decode cX4_errors 47 = .ok (.invokevirtual 55, 3) := by decide +kernel
theorem dX4_errors_50 : decode cX4_errors 50 = .ok (.invokevirtual 235, 3) := by decide +kernel
theorem dX4_errors_53 : decode cX4_errors 53 = .ok (.iadd, 1) := by decide +kernel
theorem dX4_errors_54 : decode cX4_errors 54 = .ok (.ireturn, 1) := by decide +kernel
theorem dX4_relationAt_0 : decode cX4_relationAt 0 = .ok (.iload_n 1, 1) := by decide +kernel
theorem dX4_relationAt_1 : decode cX4_relationAt 1 = .ok (.ifCond .lt 21, 3) := by decide +kernel
theorem dX4_relationAt_4 : decode cX4_relationAt 4 = .ok (.iload_n 1, 1) := by decide +kernel
theorem dX4_relationAt_5 : decode cX4_relationAt 5 = .ok (.aload_n 0, 1) := by decide +kernel
theorem dX4_relationAt_6 : decode cX4_relationAt 6 = .ok (.getfield 15, 3) := by decide +kernel
theorem dX4_relationAt_9 : decode cX4_relationAt 9 = .ok (.arraylength, 1) := by decide +kernel
theorem dX4_relationAt_10 : decode cX4_relationAt 10 = .ok (.if_icmp .ge 12, 3) := by decide +kernel
theorem dX4_relationAt_13 : decode cX4_relationAt 13 = .ok (.aload_n 0, 1) := by decide +kernel
theorem dX4_relationAt_14 : decode cX4_relationAt 14 = .ok (.getfield 15, 3) := by decide +kernel
theorem dX4_relationAt_17 : decode cX4_relationAt 17 = .ok (.iload_n 1, 1) := by decide +kernel
theorem dX4_relationAt_18 : decode cX4_relationAt 18 = .ok (.aaload, 1) := by decide +kernel
theorem dX4_relationAt_19 : decode cX4_relationAt 19 = .ok (.ifnonnull 13, 3) := by decide +kernel
theorem dX4_relationAt_22 : decode cX4_relationAt 22 = .ok (.new 239, 3) := by decide +kernel
theorem dX4_relationAt_25 : decode cX4_relationAt 25 = .ok (.dup, 1) := by decide +kernel
theorem dX4_relationAt_26 : decode cX4_relationAt 26 = .ok (.ldc 241, 2) := by decide +kernel
theorem dX4_relationAt_28 : decode cX4_relationAt 28 = .ok (.invokespecial 243, 3) := by decide +kernel
theorem dX4_relationAt_31 : decode cX4_relationAt 31 = .ok (.athrow, 1) := by decide +kernel
theorem dX4_relationAt_32 : decode cX4_relationAt 32 = .ok (.aload_n 0, 1) := by decide +kernel
theorem dX4_relationAt_33 : decode cX4_relationAt 33 = .ok (.getfield 15, 3) := by decide +kernel
theorem dX4_relationAt_36 : decode cX4_relationAt 36 = .ok (.iload_n 1, 1) := by decide +kernel
theorem dX4_relationAt_37 : decode cX4_relationAt 37 = .ok (.aaload, 1) := by decide +kernel
theorem dX4_relationAt_38 : decode cX4_relationAt 38 = .ok (.areturn, 1) := by decide +kernel
theorem dX4_checkElement_0 : decode cX4_checkElement 0 = .ok (.iload_n 1, 1) := by decide +kernel
theorem dX4_checkElement_1 : decode cX4_checkElement 1 = .ok (.ifCond .lt 11, 3) := by decide +kernel
theorem dX4_checkElement_4 : decode cX4_checkElement 4 = .ok (.iload_n 1, 1) := by decide +kernel
theorem dX4_checkElement_5 : decode cX4_checkElement 5 = .ok (.aload_n 0, 1) := by decide +kernel
theorem dX4_checkElement_6 : decode cX4_checkElement 6 = .ok (.getfield 9, 3) := by decide +kernel
theorem dX4_checkElement_9 : decode cX4_checkElement 9 = .ok (.if_icmp .lt 13, 3) := by decide +kernel
theorem dX4_checkElement_12 : decode cX4_checkElement 12 = .ok (.new 239, 3) := by decide +kernel
theorem dX4_checkElement_15 : decode cX4_checkElement 15 = .ok (.dup, 1) := by decide +kernel
theorem dX4_checkElement_16 : decode cX4_checkElement 16 = .ok (.ldc 244, 2) := by decide +kernel
theorem dX4_checkElement_18 : decode cX4_checkElement 18 = .ok (.invokespecial 243, 3) := by decide +kernel
theorem dX4_checkElement_21 : decode cX4_checkElement 21 = .ok (.athrow, 1) := by decide +kernel
theorem dX4_checkElement_22 : decode cX4_checkElement 22 = .ok (.return_, 1) := by decide +kernel
theorem dX4_checkRange_0 : decode cX4_checkRange 0 = .ok (.iload_n 1, 1) := by decide +kernel
theorem dX4_checkRange_1 : decode cX4_checkRange 1 = .ok (.ifCond .lt 16, 3) := by decide +kernel
theorem dX4_checkRange_4 : decode cX4_checkRange 4 = .ok (.iload_n 2, 1) := by decide +kernel
theorem dX4_checkRange_5 : decode cX4_checkRange 5 = .ok (.aload_n 0, 1) := by decide +kernel
theorem dX4_checkRange_6 : decode cX4_checkRange 6 = .ok (.getfield 9, 3) := by decide +kernel
theorem dX4_checkRange_9 : decode cX4_checkRange 9 = .ok (.if_icmp .gt 8, 3) := by decide +kernel
theorem dX4_checkRange_12 : decode cX4_checkRange 12 = .ok (.iload_n 1, 1) := by decide +kernel
theorem dX4_checkRange_13 : decode cX4_checkRange 13 = .ok (.iload_n 2, 1) := by decide +kernel
theorem dX4_checkRange_14 : decode cX4_checkRange 14 = .ok (.if_icmp .le 13, 3) := by decide +kernel
theorem dX4_checkRange_17 : decode cX4_checkRange 17 = .ok (.new 239, 3) := by decide +kernel
theorem dX4_checkRange_20 : decode cX4_checkRange 20 = .ok (.dup, 1) := by decide +kernel
theorem dX4_checkRange_21 : decode cX4_checkRange 21 = .ok (.ldc 246, 2) := by decide +kernel
theorem dX4_checkRange_23 : decode cX4_checkRange 23 = .ok (.invokespecial 243, 3) := by decide +kernel
theorem dX4_checkRange_26 : decode cX4_checkRange 26 = .ok (.athrow, 1) := by decide +kernel
theorem dX4_checkRange_27 : decode cX4_checkRange 27 = .ok (.return_, 1) := by decide +kernel
theorem dX4_seedAfter_0 : decode cX4_seedAfter 0 = .ok (.iload_n 0, 1) := by decide +kernel
theorem dX4_seedAfter_1 : decode cX4_seedAfter 1 = .ok (.ldc 248, 2) := by decide +kernel
theorem dX4_seedAfter_3 : decode cX4_seedAfter 3 = .ok (.imul, 1) := by decide +kernel
theorem dX4_seedAfter_4 : decode cX4_seedAfter 4 = .ok (.sipush 12345, 3) := by decide +kernel
theorem dX4_seedAfter_7 : decode cX4_seedAfter 7 = .ok (.iadd, 1) := by decide +kernel
theorem dX4_seedAfter_8 : decode cX4_seedAfter 8 = .ok (.ireturn, 1) := by decide +kernel
theorem dX4_elementOf_0 : decode cX4_elementOf 0 = .ok (.aload_n 0, 1) := by decide +kernel
theorem dX4_elementOf_1 : decode cX4_elementOf 1 = .ok (.getfield 9, 3) := by decide +kernel
theorem dX4_elementOf_4 : decode cX4_elementOf 4 = .ok (.iconst 1, 1) := by decide +kernel
theorem dX4_elementOf_5 : decode cX4_elementOf 5 = .ok (.if_icmp .ge 7, 3) := by decide +kernel
theorem dX4_elementOf_8 : decode cX4_elementOf 8 = .ok (.iconst 0, 1) := by decide +kernel
theorem dX4_elementOf_9 : decode cX4_elementOf 9 = .ok (.goto 12, 3) := by decide +kernel
theorem dX4_elementOf_12 : decode cX4_elementOf 12 = .ok (.iload_n 1, 1) := by decide +kernel
theorem dX4_elementOf_13 : decode cX4_elementOf 13 = .ok (.bipush 16, 2) := by decide +kernel
theorem dX4_elementOf_15 : decode cX4_elementOf 15 = .ok (.iushr, 1) := by decide +kernel
theorem dX4_elementOf_16 : decode cX4_elementOf 16 = .ok (.aload_n 0, 1) := by decide +kernel
theorem dX4_elementOf_17 : decode cX4_elementOf 17 = .ok (.getfield 9, 3) := by decide +kernel
theorem dX4_elementOf_20 : decode cX4_elementOf 20 = .ok (.irem, 1) := by decide +kernel
theorem dX4_elementOf_21 : decode cX4_elementOf 21 = .ok (.ireturn, 1) := by decide +kernel
theorem dX4_closeAside_0 : decode cX4_closeAside 0 = .ok (.aload_n 0, 1) := by decide +kernel
theorem dX4_closeAside_1 : decode cX4_closeAside 1 = .ok (.getfield 30, 3) := by decide +kernel
theorem dX4_closeAside_4 : decode cX4_closeAside 4 = .ok (.aload_n 1, 1) := by decide +kernel
theorem dX4_closeAside_5 : decode cX4_closeAside 5 = .ok (.invokevirtual 118, 3) := by decide +kernel
theorem dX4_closeAside_8 : decode cX4_closeAside 8 = .ok (.aload_n 0, 1) := by decide +kernel
theorem dX4_closeAside_9 : decode cX4_closeAside 9 = .ok (.getfield 30, 3) := by decide +kernel
theorem dX4_closeAside_12 : decode cX4_closeAside 12 = .ok (.invokevirtual 137, 3) := by decide +kernel
theorem dX4_closeAside_15 : decode cX4_closeAside 15 = .ok (.return_, 1) := by decide +kernel
theorem dJ13_bitCount_95d88_0 : decode cJ13_bitCount_95d88 0 = .ok (.lload_n 0, 1) := by decide +kernel
theorem dJ13_bitCount_95d88_1 : decode cJ13_bitCount_95d88 1 = .ok (.lload_n 0, 1) := by decide +kernel
theorem dJ13_bitCount_95d88_2 : decode cJ13_bitCount_95d88 2 = .ok (.iconst 1, 1) := by decide +kernel
theorem dJ13_bitCount_95d88_3 : decode cJ13_bitCount_95d88 3 = .ok (.lushr, 1) := by decide +kernel
theorem dJ13_bitCount_95d88_4 : decode cJ13_bitCount_95d88 4 = .ok (.ldc2_w 314, 3) := by decide +kernel
theorem dJ13_bitCount_95d88_7 : decode cJ13_bitCount_95d88 7 = .ok (.land, 1) := by decide +kernel
theorem dJ13_bitCount_95d88_8 : decode cJ13_bitCount_95d88 8 = .ok (.lsub, 1) := by decide +kernel
theorem dJ13_bitCount_95d88_9 : decode cJ13_bitCount_95d88 9 = .ok (.lstore_n 0, 1) := by decide +kernel
theorem dJ13_bitCount_95d88_10 : decode cJ13_bitCount_95d88 10 = .ok (.lload_n 0, 1) := by decide +kernel
theorem dJ13_bitCount_95d88_11 : decode cJ13_bitCount_95d88 11 = .ok (.ldc2_w 316, 3) := by decide +kernel
theorem dJ13_bitCount_95d88_14 : decode cJ13_bitCount_95d88 14 = .ok (.land, 1) := by decide +kernel
theorem dJ13_bitCount_95d88_15 : decode cJ13_bitCount_95d88 15 = .ok (.lload_n 0, 1) := by decide +kernel
theorem dJ13_bitCount_95d88_16 : decode cJ13_bitCount_95d88 16 = .ok (.iconst 2, 1) := by decide +kernel
theorem dJ13_bitCount_95d88_17 : decode cJ13_bitCount_95d88 17 = .ok (.lushr, 1) := by decide +kernel
theorem dJ13_bitCount_95d88_18 : decode cJ13_bitCount_95d88 18 = .ok (.ldc2_w 316, 3) := by decide +kernel
theorem dJ13_bitCount_95d88_21 : decode cJ13_bitCount_95d88 21 = .ok (.land, 1) := by decide +kernel
theorem dJ13_bitCount_95d88_22 : decode cJ13_bitCount_95d88 22 = .ok (.ladd, 1) := by decide +kernel
theorem dJ13_bitCount_95d88_23 : decode cJ13_bitCount_95d88 23 = .ok (.lstore_n 0, 1) := by decide +kernel
theorem dJ13_bitCount_95d88_24 : decode cJ13_bitCount_95d88 24 = .ok (.lload_n 0, 1) := by decide +kernel
theorem dJ13_bitCount_95d88_25 : decode cJ13_bitCount_95d88 25 = .ok (.lload_n 0, 1) := by decide +kernel
theorem dJ13_bitCount_95d88_26 : decode cJ13_bitCount_95d88 26 = .ok (.iconst 4, 1) := by decide +kernel
theorem dJ13_bitCount_95d88_27 : decode cJ13_bitCount_95d88 27 = .ok (.lushr, 1) := by decide +kernel
theorem dJ13_bitCount_95d88_28 : decode cJ13_bitCount_95d88 28 = .ok (.ladd, 1) := by decide +kernel
theorem dJ13_bitCount_95d88_29 : decode cJ13_bitCount_95d88 29 = .ok (.ldc2_w 318, 3) := by decide +kernel
theorem dJ13_bitCount_95d88_32 : decode cJ13_bitCount_95d88 32 = .ok (.land, 1) := by decide +kernel
theorem dJ13_bitCount_95d88_33 : decode cJ13_bitCount_95d88 33 = .ok (.lstore_n 0, 1) := by decide +kernel
theorem dJ13_bitCount_95d88_34 : decode cJ13_bitCount_95d88 34 = .ok (.lload_n 0, 1) := by decide +kernel
theorem dJ13_bitCount_95d88_35 : decode cJ13_bitCount_95d88 35 = .ok (.lload_n 0, 1) := by decide +kernel
theorem dJ13_bitCount_95d88_36 : decode cJ13_bitCount_95d88 36 = .ok (.bipush 8, 2) := by decide +kernel
theorem dJ13_bitCount_95d88_38 : decode cJ13_bitCount_95d88 38 = .ok (.lushr, 1) := by decide +kernel
theorem dJ13_bitCount_95d88_39 : decode cJ13_bitCount_95d88 39 = .ok (.ladd, 1) := by decide +kernel
theorem dJ13_bitCount_95d88_40 : decode cJ13_bitCount_95d88 40 = .ok (.lstore_n 0, 1) := by decide +kernel
theorem dJ13_bitCount_95d88_41 : decode cJ13_bitCount_95d88 41 = .ok (.lload_n 0, 1) := by decide +kernel
theorem dJ13_bitCount_95d88_42 : decode cJ13_bitCount_95d88 42 = .ok (.lload_n 0, 1) := by decide +kernel
theorem dJ13_bitCount_95d88_43 : decode cJ13_bitCount_95d88 43 = .ok (.bipush 16, 2) := by decide +kernel
theorem dJ13_bitCount_95d88_45 : decode cJ13_bitCount_95d88 45 = .ok (.lushr, 1) := by decide +kernel
theorem dJ13_bitCount_95d88_46 : decode cJ13_bitCount_95d88 46 = .ok (.ladd, 1) := by decide +kernel
theorem dJ13_bitCount_95d88_47 : decode cJ13_bitCount_95d88 47 = .ok (.lstore_n 0, 1) := by decide +kernel
theorem dJ13_bitCount_95d88_48 : decode cJ13_bitCount_95d88 48 = .ok (.lload_n 0, 1) := by decide +kernel
theorem dJ13_bitCount_95d88_49 : decode cJ13_bitCount_95d88 49 = .ok (.lload_n 0, 1) := by decide +kernel
theorem dJ13_bitCount_95d88_50 : decode cJ13_bitCount_95d88 50 = .ok (.bipush 32, 2) := by decide +kernel
theorem dJ13_bitCount_95d88_52 : decode cJ13_bitCount_95d88 52 = .ok (.lushr, 1) := by decide +kernel
theorem dJ13_bitCount_95d88_53 : decode cJ13_bitCount_95d88 53 = .ok (.ladd, 1) := by decide +kernel
theorem dJ13_bitCount_95d88_54 : decode cJ13_bitCount_95d88 54 = .ok (.lstore_n 0, 1) := by decide +kernel
theorem dJ13_bitCount_95d88_55 : decode cJ13_bitCount_95d88 55 = .ok (.lload_n 0, 1) := by decide +kernel
theorem dJ13_bitCount_95d88_56 : decode cJ13_bitCount_95d88 56 = .ok (.l2i, 1) := by decide +kernel
theorem dJ13_bitCount_95d88_57 : decode cJ13_bitCount_95d88 57 = .ok (.bipush 127, 2) := by decide +kernel
theorem dJ13_bitCount_95d88_59 : decode cJ13_bitCount_95d88 59 = .ok (.iand, 1) := by decide +kernel
theorem dJ13_bitCount_95d88_60 : decode cJ13_bitCount_95d88 60 = .ok (.ireturn, 1) := by decide +kernel
theorem dJ9_min_7cf53_0 : decode cJ9_min_7cf53 0 = .ok (.iload_n 0, 1) := by decide +kernel
theorem dJ9_min_7cf53_1 : decode cJ9_min_7cf53 1 = .ok (.iload_n 1, 1) := by decide +kernel
theorem dJ9_min_7cf53_2 : decode cJ9_min_7cf53 2 = .ok (.if_icmp .gt 7, 3) := by decide +kernel
theorem dJ9_min_7cf53_5 : decode cJ9_min_7cf53 5 = .ok (.iload_n 0, 1) := by decide +kernel
theorem dJ9_min_7cf53_6 : decode cJ9_min_7cf53 6 = .ok (.goto 4, 3) := by decide +kernel
theorem dJ9_min_7cf53_9 : decode cJ9_min_7cf53 9 = .ok (.iload_n 1, 1) := by decide +kernel
theorem dJ9_min_7cf53_10 : decode cJ9_min_7cf53 10 = .ok (.ireturn, 1) := by decide +kernel
end
section
theorem dX5_init_0 : decode cX5_init 0 = .ok (.aload_n 0, 1) := by decide +kernel
theorem dX5_init_1 : decode cX5_init 1 = .ok (.invokespecial 1, 3) := by decide +kernel
theorem dX5_init_4 : decode cX5_init 4 = .ok (.aload_n 0, 1) := by decide +kernel
theorem dX5_init_5 : decode cX5_init 5 = .ok (.sipush 25600, 3) := by decide +kernel
theorem dX5_init_8 : decode cX5_init 8 = .ok (.newarray .boolean, 2) := by decide +kernel
theorem dX5_init_10 : decode cX5_init 10 = .ok (.putfield 7, 3) := by decide +kernel
theorem dX5_init_13 : decode cX5_init 13 = .ok (.aload_n 0, 1) := by decide +kernel
theorem dX5_init_14 : decode cX5_init 14 = .ok (.bipush 80, 2) := by decide +kernel
theorem dX5_init_16 : decode cX5_init 16 = .ok (.newarray .boolean, 2) := by decide +kernel
theorem dX5_init_18 : decode cX5_init 18 = .ok (.putfield 13, 3) := by decide +kernel
theorem dX5_init_21 : decode cX5_init 21 = .ok (.aload_n 0, 1) := by decide +kernel
theorem dX5_init_22 : decode cX5_init 22 = .ok (.bipush 12, 2) := by decide +kernel
theorem dX5_init_24 : decode cX5_init 24 = .ok (.putfield 16, 3) := by decide +kernel
theorem dX5_init_27 : decode cX5_init 27 = .ok (.aload_n 0, 1) := by decide +kernel
theorem dX5_init_28 : decode cX5_init 28 = .ok (.sipush 6400, 3) := by decide +kernel
theorem dX5_init_31 : decode cX5_init 31 = .ok (.newarray .boolean, 2) := by decide +kernel
theorem dX5_init_33 : decode cX5_init 33 = .ok (.putfield 20, 3) := by decide +kernel
theorem dX5_init_36 : decode cX5_init 36 = .ok (.aload_n 0, 1) := by decide +kernel
theorem dX5_init_37 : decode cX5_init 37 = .ok (.sipush 6400, 3) := by decide +kernel
theorem dX5_init_40 : decode cX5_init 40 = .ok (.newarray .boolean, 2) := by decide +kernel
theorem dX5_init_42 : decode cX5_init 42 = .ok (.putfield 23, 3) := by decide +kernel
theorem dX5_init_45 : decode cX5_init 45 = .ok (.aload_n 0, 1) := by decide +kernel
theorem dX5_init_46 : decode cX5_init 46 = .ok (.sipush 6400, 3) := by decide +kernel
theorem dX5_init_49 : decode cX5_init 49 = .ok (.newarray .boolean, 2) := by decide +kernel
theorem dX5_init_51 : decode cX5_init 51 = .ok (.putfield 26, 3) := by decide +kernel
theorem dX5_init_54 : decode cX5_init 54 = .ok (.aload_n 0, 1) := by decide +kernel
theorem dX5_init_55 : decode cX5_init 55 = .ok (.bipush 80, 2) := by decide +kernel
theorem dX5_init_57 : decode cX5_init 57 = .ok (.newarray .boolean, 2) := by decide +kernel
theorem dX5_init_59 : decode cX5_init 59 = .ok (.putfield 29, 3) := by decide +kernel
theorem dX5_init_62 : decode cX5_init 62 = .ok (.aload_n 0, 1) := by decide +kernel
theorem dX5_init_63 : decode cX5_init 63 = .ok (.bipush 80, 2) := by decide +kernel
theorem dX5_init_65 : decode cX5_init 65 = .ok (.newarray .boolean, 2) := by decide +kernel
theorem dX5_init_67 : decode cX5_init 67 = .ok (.putfield 32, 3) := by decide +kernel
theorem dX5_init_70 : decode cX5_init 70 = .ok (.aload_n 0, 1) := by decide +kernel
theorem dX5_init_71 : decode cX5_init 71 = .ok (.bipush 80, 2) := by decide +kernel
theorem dX5_init_73 : decode cX5_init 73 = .ok (.newarray .int, 2) := by decide +kernel
theorem dX5_init_75 : decode cX5_init 75 = .ok (.putfield 35, 3) := by decide +kernel
theorem dX5_init_78 : decode cX5_init 78 = .ok (.aload_n 0, 1) := by decide +kernel
theorem dX5_init_79 : decode cX5_init 79 = .ok (.bipush 80, 2) := by decide +kernel
theorem dX5_init_81 : decode cX5_init 81 = .ok (.newarray .int, 2) := by decide +kernel
theorem dX5_init_83 : decode cX5_init 83 = .ok (.putfield 39, 3) := by decide +kernel
theorem dX5_init_86 : decode cX5_init 86 = .ok (.aload_n 0, 1) := by decide +kernel
theorem dX5_init_87 : decode cX5_init 87 = .ok (.bipush 80, 2) := by decide +kernel
theorem dX5_init_89 : decode cX5_init 89 = .ok (.newarray .int, 2) := by decide +kernel
theorem dX5_init_91 : decode cX5_init 91 = .ok (.putfield 42, 3) := by decide +kernel
theorem dX5_init_94 : decode cX5_init 94 = .ok (.aload_n 0, 1) := by decide +kernel
theorem dX5_init_95 : decode cX5_init 95 = .ok (.bipush 80, 2) := by decide +kernel
theorem dX5_init_97 : decode cX5_init 97 = .ok (.newarray .int, 2) := by decide +kernel
theorem dX5_init_99 : decode cX5_init 99 = .ok (.putfield 45, 3) := by decide +kernel
theorem dX5_init_102 : decode cX5_init 102 = .ok (.return_, 1) := by decide +kernel
theorem dX5_thrown_0 : decode cX5_thrown 0 = .ok (.aload_n 0, 1) := by decide +kernel
theorem dX5_thrown_1 : decode cX5_thrown 1 = .ok (.getfield 48, 3) := by decide +kernel
theorem dX5_thrown_4 : decode cX5_thrown 4 = .ok (.ireturn, 1) := by decide +kernel
theorem dX5_in_0 : decode cX5_in 0 = .ok (.iload_n 0, 1) := by decide +kernel
theorem dX5_in_1 : decode cX5_in 1 = .ok (.iload_n 1, 1) := by decide +kernel
theorem dX5_in_2 : decode cX5_in 2 = .ok (.if_icmp .lt 12, 3) := by decide +kernel
theorem dX5_in_5 : decode cX5_in 5 = .ok (.iload_n 0, 1) := by decide +kernel
theorem dX5_in_6 : decode cX5_in 6 = .ok (.iload_n 2, 1) := by decide +kernel
theorem dX5_in_7 : decode cX5_in 7 = .ok (.if_icmp .gt 7, 3) := by decide +kernel
theorem dX5_in_10 : decode cX5_in 10 = .ok (.iconst 1, 1) := by decide +kernel
theorem dX5_in_11 : decode cX5_in 11 = .ok (.goto 4, 3) := by decide +kernel
theorem dX5_in_14 : decode cX5_in 14 = .ok (.iconst 0, 1) := by decide +kernel
theorem dX5_in_15 : decode cX5_in 15 = .ok (.ireturn, 1) := by decide +kernel
theorem dX5_isRelation_0 : decode cX5_isRelation 0 = .ok (.iload_n 0, 1) := by decide +kernel
theorem dX5_isRelation_1 : decode cX5_isRelation 1 = .ok (.iconst 0, 1) := by decide +kernel
theorem dX5_isRelation_2 : decode cX5_isRelation 2 = .ok (.iconst 3, 1) := by decide +kernel
theorem dX5_isRelation_3 : decode cX5_isRelation 3 = .ok (.invokestatic 51, 3) := by decide +kernel
theorem dX5_isRelation_6 : decode cX5_isRelation 6 = .ok (.ireturn, 1) := by decide +kernel
theorem dX5_isElement_0 : decode cX5_isElement 0 = .ok (.iload_n 1, 1) := by decide +kernel
theorem dX5_isElement_1 : decode cX5_isElement 1 = .ok (.iconst 0, 1) := by decide +kernel
theorem dX5_isElement_2 : decode cX5_isElement 2 = .ok (.aload_n 0, 1) := by decide +kernel
theorem dX5_isElement_3 : decode cX5_isElement 3 = .ok (.getfield 16, 3) := by decide +kernel
theorem dX5_isElement_6 : decode cX5_isElement 6 = .ok (.iconst 1, 1) := by decide +kernel
theorem dX5_isElement_7 : decode cX5_isElement 7 = .ok (.isub, 1) := by decide +kernel
theorem dX5_isElement_8 : decode cX5_isElement 8 = .ok (.invokestatic 51, 3) := by decide +kernel
theorem dX5_isElement_11 : decode cX5_isElement 11 = .ok (.ireturn, 1) := by decide +kernel
theorem dX5_isRow_0 : decode cX5_isRow 0 = .ok (.iload_n 1, 1) := by decide +kernel
theorem dX5_isRow_1 : decode cX5_isRow 1 = .ok (.invokestatic 55, 3) := by decide +kernel
theorem dX5_isRow_4 : decode cX5_isRow 4 = .ok (.ifCond .eq 15, 3) := by decide +kernel
theorem dX5_isRow_7 : decode cX5_isRow 7 = .ok (.aload_n 0, 1) := by decide +kernel
theorem dX5_isRow_8 : decode cX5_isRow 8 = .ok (.iload_n 2, 1) := by decide +kernel
theorem dX5_isRow_9 : decode cX5_isRow 9 = .ok (.invokevirtual 59, 3) := by decide +kernel
theorem dX5_isRow_12 : decode cX5_isRow 12 = .ok (.ifCond .eq 7, 3) := by decide +kernel
theorem dX5_isRow_15 : decode cX5_isRow 15 = .ok (.iconst 1, 1) := by decide +kernel
theorem dX5_isRow_16 : decode cX5_isRow 16 = .ok (.goto 4, 3) := by decide +kernel
theorem dX5_isRow_19 : decode cX5_isRow 19 = .ok (.iconst 0, 1) := by decide +kernel
theorem dX5_isRow_20 : decode cX5_isRow 20 = .ok (.ireturn, 1) := by decide +kernel
theorem dX5_isRange_0 : decode cX5_isRange 0 = .ok (.iload_n 1, 1) := by decide +kernel
theorem dX5_isRange_1 : decode cX5_isRange 1 = .ok (.ifCond .lt 20, 3) := by decide +kernel
theorem dX5_isRange_4 : decode cX5_isRange 4 = .ok (.iload_n 1, 1) := by decide +kernel
theorem dX5_isRange_5 : decode cX5_isRange 5 = .ok (.iload_n 2, 1) := by decide +kernel
theorem dX5_isRange_6 : decode cX5_isRange 6 = .ok (.if_icmp .gt 15, 3) := by decide +kernel
theorem dX5_isRange_9 : decode cX5_isRange 9 = .ok (.iload_n 2, 1) := by decide +kernel
theorem dX5_isRange_10 : decode cX5_isRange 10 = .ok (.aload_n 0, 1) := by decide +kernel
theorem dX5_isRange_11 : decode cX5_isRange 11 = .ok (.getfield 16, 3) := by decide +kernel
theorem dX5_isRange_14 : decode cX5_isRange 14 = .ok (.if_icmp .gt 7, 3) := by decide +kernel
theorem dX5_isRange_17 : decode cX5_isRange 17 = .ok (.iconst 1, 1) := by decide +kernel
theorem dX5_isRange_18 : decode cX5_isRange 18 = .ok (.goto 4, 3) := by decide +kernel
theorem dX5_isRange_21 : decode cX5_isRange 21 = .ok (.iconst 0, 1) := by decide +kernel
theorem dX5_isRange_22 : decode cX5_isRange 22 = .ok (.ireturn, 1) := by decide +kernel
theorem dX5_refuse_0 : decode cX5_refuse 0 = .ok (.aload_n 0, 1) := by decide +kernel
theorem dX5_refuse_1 : decode cX5_refuse 1 = .ok (.iload_n 1, 1) := by decide +kernel
theorem dX5_refuse_2 : decode cX5_refuse 2 = .ok (.putfield 48, 3) := by decide +kernel
theorem dX5_refuse_5 : decode cX5_refuse 5 = .ok (.iconst 0, 1) := by decide +kernel
theorem dX5_refuse_6 : decode cX5_refuse 6 = .ok (.ireturn, 1) := by decide +kernel
theorem dX5_told_0 : decode cX5_told 0 = .ok (.aload_n 0, 1) := by decide +kernel
theorem dX5_told_1 : decode cX5_told 1 = .ok (.iconst 0, 1) := by decide +kernel
theorem dX5_told_2 : decode cX5_told 2 = .ok (.putfield 48, 3) := by decide +kernel
theorem dX5_told_5 : decode cX5_told 5 = .ok (.iload_n 1, 1) := by decide +kernel
theorem dX5_told_6 : decode cX5_told 6 = .ok (.ireturn, 1) := by decide +kernel
theorem dX5_says_0 : decode cX5_says 0 = .ok (.aload_n 0, 1) := by decide +kernel
theorem dX5_says_1 : decode cX5_says 1 = .ok (.iconst 0, 1) := by decide +kernel
theorem dX5_says_2 : decode cX5_says 2 = .ok (.putfield 48, 3) := by decide +kernel
theorem dX5_says_5 : decode cX5_says 5 = .ok (.iload_n 1, 1) := by decide +kernel
theorem dX5_says_6 : decode cX5_says 6 = .ok (.ireturn, 1) := by decide +kernel
theorem dX5_denies_0 : decode cX5_denies 0 = .ok (.aload_n 0, 1) := by decide +kernel
theorem dX5_denies_1 : decode cX5_denies 1 = .ok (.iload_n 1, 1) := by decide +kernel
theorem dX5_denies_2 : decode cX5_denies 2 = .ok (.putfield 48, 3) := by decide +kernel
theorem dX5_denies_5 : decode cX5_denies 5 = .ok (.iconst 0, 1) := by decide +kernel
theorem dX5_denies_6 : decode cX5_denies 6 = .ok (.ireturn, 1) := by decide +kernel
theorem dX5_place_0 : decode cX5_place 0 = .ok (.sipush 6400, 3) := by decide +kernel
theorem dX5_place_3 : decode cX5_place 3 = .ok (.iload_n 0, 1) := by decide +kernel
theorem dX5_place_4 : decode cX5_place 4 = .ok (.imul, 1) := by decide +kernel
theorem dX5_place_5 : decode cX5_place 5 = .ok (.bipush 80, 2) := by decide +kernel
theorem dX5_place_7 : decode cX5_place 7 = .ok (.iload_n 1, 1) := by decide +kernel
theorem dX5_place_8 : decode cX5_place 8 = .ok (.imul, 1) := by decide +kernel
theorem dX5_place_9 : decode cX5_place 9 = .ok (.iadd, 1) := by decide +kernel
theorem dX5_place_10 : decode cX5_place 10 = .ok (.iload_n 2, 1) := by decide +kernel
theorem dX5_place_11 : decode cX5_place 11 = .ok (.iadd, 1) := by decide +kernel
theorem dX5_place_12 : decode cX5_place 12 = .ok (.ireturn, 1) := by decide +kernel
theorem dX5_leads_0 : decode cX5_leads 0 = .ok (.aload_n 0, 1) := by decide +kernel
theorem dX5_leads_1 : decode cX5_leads 1 = .ok (.getfield 7, 3) := by decide +kernel
theorem dX5_leads_4 : decode cX5_leads 4 = .ok (.iload_n 1, 1) := by decide +kernel
theorem dX5_leads_5 : decode cX5_leads 5 = .ok (.iload_n 2, 1) := by decide +kernel
theorem dX5_leads_6 : decode cX5_leads 6 = .ok (.iload_n 3, 1) := by decide +kernel
theorem dX5_leads_7 : decode cX5_leads 7 = .ok (.invokestatic 62, 3) := by decide +kernel
theorem dX5_leads_10 : decode cX5_leads 10 = .ok (.baload, 1) := by decide +kernel
theorem dX5_leads_11 : decode cX5_leads 11 = .ok (.ireturn, 1) := by decide +kernel
theorem dX5_inRow_0 : decode cX5_inRow 0 = .ok (.iconst 0, 1) := by decide +kernel
theorem dX5_inRow_1 : decode cX5_inRow 1 = .ok (.istore_n 3, 1) := by decide +kernel
theorem dX5_inRow_2 : decode cX5_inRow 2 = .ok (.iconst 0, 1) := by decide +kernel
theorem dX5_inRow_3 : decode cX5_inRow 3 = .ok (.istore 4, 2) := by decide +kernel
theorem dX5_inRow_5 : decode cX5_inRow 5 = .ok (.iload 4, 2) := by decide +kernel
theorem dX5_inRow_7 : decode cX5_inRow 7 = .ok (.aload_n 0, 1) := by decide +kernel
theorem dX5_inRow_8 : decode cX5_inRow 8 = .ok (.getfield 16, 3) := by decide +kernel
theorem dX5_inRow_11 : decode cX5_inRow 11 = .ok (.if_icmp .ge 28, 3) := by decide +kernel
theorem dX5_inRow_14 : decode cX5_inRow 14 = .ok (.iload_n 3, 1) := by decide +kernel
theorem dX5_inRow_15 : decode cX5_inRow 15 = .ok (.aload_n 0, 1) := by decide +kernel
theorem dX5_inRow_16 : decode cX5_inRow 16 = .ok (.iload_n 1, 1) := by decide +kernel
theorem dX5_inRow_17 : decode cX5_inRow 17 = .ok (.iload_n 2, 1) := by decide +kernel
theorem dX5_inRow_18 : decode cX5_inRow 18 = .ok (.iload 4, 2) := by decide +kernel
theorem dX5_inRow_20 : decode cX5_inRow 20 = .ok (.invokevirtual 66, 3) := by decide +kernel
theorem dX5_inRow_23 : decode cX5_inRow 23 = .ok (.ifCond .eq 7, 3) := by decide +kernel
theorem dX5_inRow_26 : decode cX5_inRow 26 = .ok (.iconst 1, 1) := by decide +kernel
theorem dX5_inRow_27 : decode cX5_inRow 27 = .ok (.goto 4, 3) := by decide +kernel
theorem dX5_inRow_30 : decode cX5_inRow 30 = .ok (.iconst 0, 1) := by decide +kernel
theorem dX5_inRow_31 : decode cX5_inRow 31 = .ok (.iadd, 1) := by decide +kernel
theorem dX5_inRow_32 : decode cX5_inRow 32 = .ok (.istore_n 3, 1) := by decide +kernel
theorem dX5_inRow_33 : decode cX5_inRow 33 = .ok (.iinc 4 1, 3) := by decide +kernel
theorem dX5_inRow_36 : decode cX5_inRow 36 = .ok (.goto (-31), 3) := by decide +kernel
theorem dX5_inRow_39 : decode cX5_inRow 39 = .ok (.iload_n 3, 1) := by decide +kernel
theorem dX5_inRow_40 : decode cX5_inRow 40 = .ok (.ireturn, 1) := by decide +kernel
theorem dX5_pairs_0 : decode cX5_pairs 0 = .ok (.iconst 0, 1) := by decide +kernel
theorem dX5_pairs_1 : decode cX5_pairs 1 = .ok (.istore_n 2, 1) := by decide +kernel
theorem dX5_pairs_2 : decode cX5_pairs 2 = .ok (.iconst 0, 1) := by decide +kernel
theorem dX5_pairs_3 : decode cX5_pairs 3 = .ok (.istore_n 3, 1) := by decide +kernel
theorem dX5_pairs_4 : decode cX5_pairs 4 = .ok (.iload_n 3, 1) := by decide +kernel
theorem dX5_pairs_5 : decode cX5_pairs 5 = .ok (.aload_n 0, 1) := by decide +kernel
theorem dX5_pairs_6 : decode cX5_pairs 6 = .ok (.getfield 16, 3) := by decide +kernel
theorem dX5_pairs_9 : decode cX5_pairs 9 = .ok (.if_icmp .ge 18, 3) := by decide +kernel
theorem dX5_pairs_12 : decode cX5_pairs 12 = .ok (.iload_n 2, 1) := by decide +kernel
theorem dX5_pairs_13 : decode cX5_pairs 13 = .ok (.aload_n 0, 1) := by decide +kernel
theorem dX5_pairs_14 : decode cX5_pairs 14 = .ok (.iload_n 1, 1) := by decide +kernel
theorem dX5_pairs_15 : decode cX5_pairs 15 = .ok (.iload_n 3, 1) := by decide +kernel
theorem dX5_pairs_16 : decode cX5_pairs 16 = .ok (.invokevirtual 69, 3) := by decide +kernel
theorem dX5_pairs_19 : decode cX5_pairs 19 = .ok (.iadd, 1) := by decide +kernel
theorem dX5_pairs_20 : decode cX5_pairs 20 = .ok (.istore_n 2, 1) := by decide +kernel
theorem dX5_pairs_21 : decode cX5_pairs 21 = .ok (.iinc 3 1, 3) := by decide +kernel
theorem dX5_pairs_24 : decode cX5_pairs 24 = .ok (.goto (-20), 3) := by decide +kernel
theorem dX5_pairs_27 : decode cX5_pairs 27 = .ok (.iload_n 2, 1) := by decide +kernel
theorem dX5_pairs_28 : decode cX5_pairs 28 = .ok (.ireturn, 1) := by decide +kernel
theorem dX5_lays_0 : decode cX5_lays 0 = .ok (.iconst 0, 1) := by decide +kernel
theorem dX5_lays_1 : decode cX5_lays 1 = .ok (.istore_n 2, 1) := by decide +kernel
theorem dX5_lays_2 : decode cX5_lays 2 = .ok (.iload_n 2, 1) := by decide +kernel
theorem dX5_lays_3 : decode cX5_lays 3 = .ok (.aload_n 0, 1) := by decide +kernel
theorem dX5_lays_4 : decode cX5_lays 4 = .ok (.getfield 16, 3) := by decide +kernel
theorem dX5_lays_7 : decode cX5_lays 7 = .ok (.if_icmp .ge 47, 3) := by decide +kernel
theorem dX5_lays_10 : decode cX5_lays 10 = .ok (.iconst 0, 1) := by decide +kernel
theorem dX5_lays_11 : decode cX5_lays 11 = .ok (.istore_n 3, 1) := by decide +kernel
theorem dX5_lays_12 : decode cX5_lays 12 = .ok (.iload_n 3, 1) := by decide +kernel
theorem dX5_lays_13 : decode cX5_lays 13 = .ok (.aload_n 0, 1) := by decide +kernel
theorem dX5_lays_14 : decode cX5_lays 14 = .ok (.getfield 16, 3) := by decide +kernel
theorem dX5_lays_17 : decode cX5_lays 17 = .ok (.if_icmp .ge 31, 3) := by decide +kernel
theorem dX5_lays_20 : decode cX5_lays 20 = .ok (.aload_n 0, 1) := by decide +kernel
theorem dX5_lays_21 : decode cX5_lays 21 = .ok (.getfield 7, 3) := by decide +kernel
theorem dX5_lays_24 : decode cX5_lays 24 = .ok (.iload_n 1, 1) := by decide +kernel
theorem dX5_lays_25 : decode cX5_lays 25 = .ok (.iload_n 2, 1) := by decide +kernel
theorem dX5_lays_26 : decode cX5_lays 26 = .ok (.iload_n 3, 1) := by decide +kernel
theorem dX5_lays_27 : decode cX5_lays 27 = .ok (.invokestatic 62, 3) := by decide +kernel
theorem dX5_lays_30 : decode cX5_lays 30 = .ok (.aload_n 0, 1) := by decide +kernel
theorem dX5_lays_31 : decode cX5_lays 31 = .ok (.getfield 20, 3) := by decide +kernel
theorem dX5_lays_34 : decode cX5_lays 34 = .ok (.bipush 80, 2) := by decide +kernel
theorem dX5_lays_36 : decode cX5_lays 36 = .ok (.iload_n 2, 1) := by decide +kernel
theorem dX5_lays_37 : decode cX5_lays 37 = .ok (.imul, 1) := by decide +kernel
theorem dX5_lays_38 : decode cX5_lays 38 = .ok (.iload_n 3, 1) := by decide +kernel
theorem dX5_lays_39 : decode cX5_lays 39 = .ok (.iadd, 1) := by decide +kernel
theorem dX5_lays_40 : decode cX5_lays 40 = .ok (.baload, 1) := by decide +kernel
theorem dX5_lays_41 : decode cX5_lays 41 = .ok (.bastore, 1) := by decide +kernel
theorem dX5_lays_42 : decode cX5_lays 42 = .ok (.iinc 3 1, 3) := by decide +kernel
theorem dX5_lays_45 : decode cX5_lays 45 = .ok (.goto (-33), 3) := by decide +kernel
theorem dX5_lays_48 : decode cX5_lays 48 = .ok (.iinc 2 1, 3) := by decide +kernel
theorem dX5_lays_51 : decode cX5_lays 51 = .ok (.goto (-49), 3) := by decide +kernel
theorem dX5_lays_54 : decode cX5_lays 54 = .ok (.aload_n 0, 1) := by decide +kernel
theorem dX5_lays_55 : decode cX5_lays 55 = .ok (.iload_n 1, 1) := by decide +kernel
theorem dX5_lays_56 : decode cX5_lays 56 = .ok (.invokevirtual 73, 3) := by decide +kernel
theorem dX5_lays_59 : decode cX5_lays 59 = .ok (.ireturn, 1) := by decide +kernel
theorem dX5_begin_0 : decode cX5_begin 0 = .ok (.iload_n 1, 1) := by decide +kernel
theorem dX5_begin_1 : decode cX5_begin 1 = .ok (.iconst 1, 1) := by decide +kernel
theorem dX5_begin_2 : decode cX5_begin 2 = .ok (.bipush 80, 2) := by decide +kernel
theorem dX5_begin_4 : decode cX5_begin 4 = .ok (.invokestatic 51, 3) := by decide +kernel
theorem dX5_begin_7 : decode cX5_begin 7 = .ok (.ifCond .ne 9, 3) := by decide +kernel
theorem dX5_begin_10 : decode cX5_begin 10 = .ok (.aload_n 0, 1) := by decide +kernel
theorem dX5_begin_11 : decode cX5_begin 11 = .ok (.iconst 1, 1) := by decide +kernel
theorem dX5_begin_12 : decode cX5_begin 12 = .ok (.invokevirtual 77, 3) := by decide +kernel
theorem dX5_begin_15 : decode cX5_begin 15 = .ok (.ireturn, 1) := by decide +kernel
theorem dX5_begin_16 : decode cX5_begin 16 = .ok (.aload_n 0, 1) := by decide +kernel
theorem dX5_begin_17 : decode cX5_begin 17 = .ok (.getfield 16, 3) := by decide +kernel
theorem dX5_begin_20 : decode cX5_begin 20 = .ok (.istore_n 2, 1) := by decide +kernel
theorem dX5_begin_21 : decode cX5_begin 21 = .ok (.aload_n 0, 1) := by decide +kernel
theorem dX5_begin_22 : decode cX5_begin 22 = .ok (.iload_n 1, 1) := by decide +kernel
theorem dX5_begin_23 : decode cX5_begin 23 = .ok (.putfield 16, 3) := by decide +kernel
theorem dX5_begin_26 : decode cX5_begin 26 = .ok (.iconst 0, 1) := by decide +kernel
theorem dX5_begin_27 : decode cX5_begin 27 = .ok (.istore_n 3, 1) := by decide +kernel
theorem dX5_begin_28 : decode cX5_begin 28 = .ok (.iload_n 3, 1) := by decide +kernel
theorem dX5_begin_29 : decode cX5_begin 29 = .ok (.sipush 25600, 3) := by decide +kernel
theorem dX5_begin_32 : decode cX5_begin 32 = .ok (.if_icmp .ge 16, 3) := by decide +kernel
theorem dX5_begin_35 : decode cX5_begin 35 = .ok (.aload_n 0, 1) := by decide +kernel
theorem dX5_begin_36 : decode cX5_begin 36 = .ok (.getfield 7, 3) := by decide +kernel
theorem dX5_begin_39 : decode cX5_begin 39 = .ok (.iload_n 3, 1) := by decide +kernel
theorem dX5_begin_40 : decode cX5_begin 40 = .ok (.iconst 0, 1) := by decide +kernel
theorem dX5_begin_41 : decode cX5_begin 41 = .ok (.bastore, 1) := by decide +kernel
theorem dX5_begin_42 : decode cX5_begin 42 = .ok (.iinc 3 1, 3) := by decide +kernel
theorem dX5_begin_45 : decode cX5_begin 45 = .ok (.goto (-17), 3) := by decide +kernel
theorem dX5_begin_48 : decode cX5_begin 48 = .ok (.iconst 0, 1) := by decide +kernel
theorem dX5_begin_49 : decode cX5_begin 49 = .ok (.istore_n 3, 1) := by decide +kernel
theorem dX5_begin_50 : decode cX5_begin 50 = .ok (.iload_n 3, 1) := by decide +kernel
theorem dX5_begin_51 : decode cX5_begin 51 = .ok (.bipush 80, 2) := by decide +kernel
theorem dX5_begin_53 : decode cX5_begin 53 = .ok (.if_icmp .ge 16, 3) := by decide +kernel
theorem dX5_begin_56 : decode cX5_begin 56 = .ok (.aload_n 0, 1) := by decide +kernel
theorem dX5_begin_57 : decode cX5_begin 57 = .ok (.getfield 13, 3) := by decide +kernel
theorem dX5_begin_60 : decode cX5_begin 60 = .ok (.iload_n 3, 1) := by decide +kernel
theorem dX5_begin_61 : decode cX5_begin 61 = .ok (.iconst 0, 1) := by decide +kernel
theorem dX5_begin_62 : decode cX5_begin 62 = .ok (.bastore, 1) := by decide +kernel
theorem dX5_begin_63 : decode cX5_begin 63 = .ok (.iinc 3 1, 3) := by decide +kernel
theorem dX5_begin_66 : decode cX5_begin 66 = .ok (.goto (-16), 3) := by decide +kernel
theorem dX5_begin_69 : decode cX5_begin 69 = .ok (.aload_n 0, 1) := by decide +kernel
theorem dX5_begin_70 : decode cX5_begin 70 = .ok (.iload_n 2, 1) := by decide +kernel
theorem dX5_begin_71 : decode cX5_begin 71 = .ok (.invokevirtual 80, 3) := by decide +kernel
theorem dX5_begin_74 : decode cX5_begin 74 = .ok (.ireturn, 1) := by decide +kernel
theorem dX5_set_0 : decode cX5_set 0 = .ok (.aload_n 0, 1) := by decide +kernel
theorem dX5_set_1 : decode cX5_set 1 = .ok (.iload_n 1, 1) := by decide +kernel
theorem dX5_set_2 : decode cX5_set 2 = .ok (.iload_n 2, 1) := by decide +kernel
theorem dX5_set_3 : decode cX5_set 3 = .ok (.invokevirtual 83, 3) := by decide +kernel
theorem dX5_set_6 : decode cX5_set 6 = .ok (.ifCond .eq 11, 3) := by decide +kernel
theorem dX5_set_9 : decode cX5_set 9 = .ok (.aload_n 0, 1) := by decide +kernel
theorem dX5_set_10 : decode cX5_set 10 = .ok (.iload_n 3, 1) := by decide +kernel
theorem dX5_set_11 : decode cX5_set 11 = .ok (.invokevirtual 59, 3) := by decide +kernel
theorem dX5_set_14 : decode cX5_set 14 = .ok (.ifCond .ne 9, 3) := by decide +kernel
theorem dX5_set_17 : decode cX5_set 17 = .ok (.aload_n 0, 1) := by decide +kernel
theorem dX5_set_18 : decode cX5_set 18 = .ok (.iconst 1, 1) := by decide +kernel
theorem dX5_set_19 : decode cX5_set 19 = .ok (.invokevirtual 87, 3) := by decide +kernel
theorem dX5_set_22 : decode cX5_set 22 = .ok (.ireturn, 1) := by decide +kernel
theorem dX5_set_23 : decode cX5_set 23 = .ok (.aload_n 0, 1) := by decide +kernel
theorem dX5_set_24 : decode cX5_set 24 = .ok (.iload_n 1, 1) := by decide +kernel
theorem dX5_set_25 : decode cX5_set 25 = .ok (.iload_n 2, 1) := by decide +kernel
theorem dX5_set_26 : decode cX5_set 26 = .ok (.iload_n 3, 1) := by decide +kernel
theorem dX5_set_27 : decode cX5_set 27 = .ok (.invokevirtual 66, 3) := by decide +kernel
theorem dX5_set_30 : decode cX5_set 30 = .ok (.istore 5, 2) := by decide +kernel
theorem dX5_set_32 : decode cX5_set 32 = .ok (.aload_n 0, 1) := by decide +kernel
theorem dX5_set_33 : decode cX5_set 33 = .ok (.getfield 7, 3) := by decide +kernel
theorem dX5_set_36 : decode cX5_set 36 = .ok (.iload_n 1, 1) := by decide +kernel
theorem dX5_set_37 : decode cX5_set 37 = .ok (.iload_n 2, 1) := by decide +kernel
theorem dX5_set_38 : decode cX5_set 38 = .ok (.iload_n 3, 1) := by decide +kernel
theorem dX5_set_39 : decode cX5_set 39 = .ok (.invokestatic 62, 3) := by decide +kernel
theorem dX5_set_42 : decode cX5_set 42 = .ok (.iload 4, 2) := by decide +kernel
theorem dX5_set_44 : decode cX5_set 44 = .ok (.bastore, 1) := by decide +kernel
theorem dX5_set_45 : decode cX5_set 45 = .ok (.aload_n 0, 1) := by decide +kernel
theorem dX5_set_46 : decode cX5_set 46 = .ok (.iload 5, 2) := by decide +kernel
theorem dX5_set_48 : decode cX5_set 48 = .ok (.invokevirtual 90, 3) := by decide +kernel
theorem dX5_set_51 : decode cX5_set 51 = .ok (.ireturn, 1) := by decide +kernel
theorem dX5_setRange_0 : decode cX5_setRange 0 = .ok (.aload_n 0, 1) := by decide +kernel
theorem dX5_setRange_1 : decode cX5_setRange 1 = .ok (.iload_n 1, 1) := by decide +kernel
theorem dX5_setRange_2 : decode cX5_setRange 2 = .ok (.iload_n 2, 1) := by decide +kernel
theorem dX5_setRange_3 : decode cX5_setRange 3 = .ok (.invokevirtual 83, 3) := by decide +kernel
theorem dX5_setRange_6 : decode cX5_setRange 6 = .ok (.ifCond .eq 13, 3) := by decide +kernel
theorem dX5_setRange_9 : decode cX5_setRange 9 = .ok (.aload_n 0, 1) := by decide +kernel
theorem dX5_setRange_10 : decode cX5_setRange 10 = .ok (.iload_n 3, 1) := by decide +kernel
theorem dX5_setRange_11 : decode cX5_setRange 11 = .ok (.iload 4, 2) := by decide +kernel
theorem dX5_setRange_13 : decode cX5_setRange 13 = .ok (.invokevirtual 94, 3) := by decide +kernel
theorem dX5_setRange_16 : decode cX5_setRange 16 = .ok (.ifCond .ne 9, 3) := by decide +kernel
theorem dX5_setRange_19 : decode cX5_setRange 19 = .ok (.aload_n 0, 1) := by decide +kernel
theorem dX5_setRange_20 : decode cX5_setRange 20 = .ok (.iconst 1, 1) := by decide +kernel
theorem dX5_setRange_21 : decode cX5_setRange 21 = .ok (.invokevirtual 77, 3) := by decide +kernel
theorem dX5_setRange_24 : decode cX5_setRange 24 = .ok (.ireturn, 1) := by decide +kernel
theorem dX5_setRange_25 : decode cX5_setRange 25 = .ok (.iload_n 3, 1) := by decide +kernel
theorem dX5_setRange_26 : decode cX5_setRange 26 = .ok (.istore 6, 2) := by decide +kernel
theorem dX5_setRange_28 : decode cX5_setRange 28 = .ok (.iload 6, 2) := by decide +kernel
theorem dX5_setRange_30 : decode cX5_setRange 30 = .ok (.iload 4, 2) := by decide +kernel
theorem dX5_setRange_32 : decode cX5_setRange 32 = .ok (.if_icmp .ge 23, 3) := by decide +kernel
theorem dX5_setRange_35 : decode cX5_setRange 35 = .ok (.aload_n 0, 1) := by decide +kernel
theorem dX5_setRange_36 : decode cX5_setRange 36 = .ok (.getfield 7, 3) := by decide +kernel
theorem dX5_setRange_39 : decode cX5_setRange 39 = .ok (.iload_n 1, 1) := by decide +kernel
theorem dX5_setRange_40 : decode cX5_setRange 40 = .ok (.iload_n 2, 1) := by decide +kernel
theorem dX5_setRange_41 : decode cX5_setRange 41 = .ok (.iload 6, 2) := by decide +kernel
theorem dX5_setRange_43 : decode cX5_setRange 43 = .ok (.invokestatic 62, 3) := by decide +kernel
theorem dX5_setRange_46 : decode cX5_setRange 46 = .ok (.iload 5, 2) := by decide +kernel
theorem dX5_setRange_48 : decode cX5_setRange 48 = .ok (.bastore, 1) := by decide +kernel
theorem dX5_setRange_49 : decode cX5_setRange 49 = .ok (.iinc 6 1, 3) := by decide +kernel
theorem dX5_setRange_52 : decode cX5_setRange 52 = .ok (.goto (-24), 3) := by decide +kernel
theorem dX5_setRange_55 : decode cX5_setRange 55 = .ok (.aload_n 0, 1) := by decide +kernel
theorem dX5_setRange_56 : decode cX5_setRange 56 = .ok (.aload_n 0, 1) := by decide +kernel
theorem dX5_setRange_57 : decode cX5_setRange 57 = .ok (.iload_n 1, 1) := by decide +kernel
theorem dX5_setRange_58 : decode cX5_setRange 58 = .ok (.iload_n 2, 1) := by decide +kernel
theorem dX5_setRange_59 : decode cX5_setRange 59 = .ok (.invokevirtual 69, 3) := by decide +kernel
theorem dX5_setRange_62 : decode cX5_setRange 62 = .ok (.invokevirtual 80, 3) := by decide +kernel
theorem dX5_setRange_65 : decode cX5_setRange 65 = .ok (.ireturn, 1) := by decide +kernel
theorem dX5_flipRange_0 : decode cX5_flipRange 0 = .ok (.aload_n 0, 1) := by decide +kernel
theorem dX5_flipRange_1 : decode cX5_flipRange 1 = .ok (.iload_n 1, 1) := by decide +kernel
theorem dX5_flipRange_2 : decode cX5_flipRange 2 = .ok (.iload_n 2, 1) := by decide +kernel
theorem dX5_flipRange_3 : decode cX5_flipRange 3 = .ok (.invokevirtual 83, 3) := by decide +kernel
theorem dX5_flipRange_6 : decode cX5_flipRange 6 = .ok (.ifCond .eq 13, 3) := by decide +kernel
theorem dX5_flipRange_9 : decode cX5_flipRange 9 = .ok (.aload_n 0, 1) := by decide +kernel
theorem dX5_flipRange_10 : decode cX5_flipRange 10 = .ok (.iload_n 3, 1) := by decide +kernel
theorem dX5_flipRange_11 : decode cX5_flipRange 11 = .ok (.iload 4, 2) := by decide +kernel
theorem dX5_flipRange_13 : decode cX5_flipRange 13 = .ok (.invokevirtual 94, 3) := by decide +kernel
theorem dX5_flipRange_16 : decode cX5_flipRange 16 = .ok (.ifCond .ne 9, 3) := by decide +kernel
theorem dX5_flipRange_19 : decode cX5_flipRange 19 = .ok (.aload_n 0, 1) := by decide +kernel
theorem dX5_flipRange_20 : decode cX5_flipRange 20 = .ok (.iconst 1, 1) := by decide +kernel
theorem dX5_flipRange_21 : decode cX5_flipRange 21 = .ok (.invokevirtual 77, 3) := by decide +kernel
theorem dX5_flipRange_24 : decode cX5_flipRange 24 = .ok (.ireturn, 1) := by decide +kernel
theorem dX5_flipRange_25 : decode cX5_flipRange 25 = .ok (.iload_n 3, 1) := by decide +kernel
theorem dX5_flipRange_26 : decode cX5_flipRange 26 = .ok (.istore 5, 2) := by decide +kernel
theorem dX5_flipRange_28 : decode cX5_flipRange 28 = .ok (.iload 5, 2) := by decide +kernel
theorem dX5_flipRange_30 : decode cX5_flipRange 30 = .ok (.iload 4, 2) := by decide +kernel
theorem dX5_flipRange_32 : decode cX5_flipRange 32 = .ok (.if_icmp .ge 41, 3) := by decide +kernel
theorem dX5_flipRange_35 : decode cX5_flipRange 35 = .ok (.aload_n 0, 1) := by decide +kernel
theorem dX5_flipRange_36 : decode cX5_flipRange 36 = .ok (.getfield 7, 3) := by decide +kernel
theorem dX5_flipRange_39 : decode cX5_flipRange 39 = .ok (.iload_n 1, 1) := by decide +kernel
theorem dX5_flipRange_40 : decode cX5_flipRange 40 = .ok (.iload_n 2, 1) := by decide +kernel
theorem dX5_flipRange_41 : decode cX5_flipRange 41 = .ok (.iload 5, 2) := by decide +kernel
theorem dX5_flipRange_43 : decode cX5_flipRange 43 = .ok (.invokestatic 62, 3) := by decide +kernel
theorem dX5_flipRange_46 : decode cX5_flipRange 46 = .ok (.aload_n 0, 1) := by decide +kernel
theorem dX5_flipRange_47 : decode cX5_flipRange 47 = .ok (.getfield 7, 3) := by decide +kernel
theorem dX5_flipRange_50 : decode cX5_flipRange 50 = .ok (.iload_n 1, 1) := by decide +kernel
theorem dX5_flipRange_51 : decode cX5_flipRange 51 = .ok (.iload_n 2, 1) := by decide +kernel
theorem dX5_flipRange_52 : decode cX5_flipRange 52 = .ok (.iload 5, 2) := by decide +kernel
theorem dX5_flipRange_54 : decode cX5_flipRange 54 = .ok (.invokestatic 62, 3) := by decide +kernel
theorem dX5_flipRange_57 : decode cX5_flipRange 57 = .ok (.baload, 1) := by decide +kernel
theorem dX5_flipRange_58 : decode cX5_flipRange 58 = .ok (.ifCond .ne 7, 3) := by decide +kernel
theorem dX5_flipRange_61 : decode cX5_flipRange 61 = .ok (.iconst 1, 1) := by decide +kernel
theorem dX5_flipRange_62 : decode cX5_flipRange 62 = .ok (.goto 4, 3) := by decide +kernel
theorem dX5_flipRange_65 : decode cX5_flipRange 65 = .ok (.iconst 0, 1) := by decide +kernel
theorem dX5_flipRange_66 : decode cX5_flipRange 66 = .ok (.bastore, 1) := by decide +kernel
theorem dX5_flipRange_67 : decode cX5_flipRange 67 = .ok (.iinc 5 1, 3) := by decide +kernel
theorem dX5_flipRange_70 : decode cX5_flipRange 70 = .ok (.goto (-42), 3) := by decide +kernel
theorem dX5_flipRange_73 : decode cX5_flipRange 73 = .ok (.aload_n 0, 1) := by decide +kernel
theorem dX5_flipRange_74 : decode cX5_flipRange 74 = .ok (.aload_n 0, 1) := by decide +kernel
theorem dX5_flipRange_75 : decode cX5_flipRange 75 = .ok (.iload_n 1, 1) := by decide +kernel
theorem dX5_flipRange_76 : decode cX5_flipRange 76 = .ok (.iload_n 2, 1) := by decide +kernel
theorem dX5_flipRange_77 : decode cX5_flipRange 77 = .ok (.invokevirtual 69, 3) := by decide +kernel
theorem dX5_flipRange_80 : decode cX5_flipRange 80 = .ok (.invokevirtual 80, 3) := by decide +kernel
theorem dX5_flipRange_83 : decode cX5_flipRange 83 = .ok (.ireturn, 1) := by decide +kernel
theorem dX5_setRow_0 : decode cX5_setRow 0 = .ok (.aload_n 0, 1) := by decide +kernel
theorem dX5_setRow_1 : decode cX5_setRow 1 = .ok (.iload_n 1, 1) := by decide +kernel
theorem dX5_setRow_2 : decode cX5_setRow 2 = .ok (.iload_n 2, 1) := by decide +kernel
theorem dX5_setRow_3 : decode cX5_setRow 3 = .ok (.invokevirtual 83, 3) := by decide +kernel
theorem dX5_setRow_6 : decode cX5_setRow 6 = .ok (.ifCond .ne 9, 3) := by decide +kernel
theorem dX5_setRow_9 : decode cX5_setRow 9 = .ok (.aload_n 0, 1) := by decide +kernel
theorem dX5_setRow_10 : decode cX5_setRow 10 = .ok (.iconst 1, 1) := by decide +kernel
theorem dX5_setRow_11 : decode cX5_setRow 11 = .ok (.invokevirtual 77, 3) := by decide +kernel
theorem dX5_setRow_14 : decode cX5_setRow 14 = .ok (.ireturn, 1) := by decide +kernel
theorem dX5_setRow_15 : decode cX5_setRow 15 = .ok (.iconst 0, 1) := by decide +kernel
theorem dX5_setRow_16 : decode cX5_setRow 16 = .ok (.istore 5, 2) := by decide +kernel
theorem dX5_setRow_18 : decode cX5_setRow 18 = .ok (.iload 5, 2) := by decide +kernel
theorem dX5_setRow_20 : decode cX5_setRow 20 = .ok (.aload_n 0, 1) := by decide +kernel
theorem dX5_setRow_21 : decode cX5_setRow 21 = .ok (.getfield 16, 3) := by decide +kernel
theorem dX5_setRow_24 : decode cX5_setRow 24 = .ok (.if_icmp .ge 44, 3) := by decide +kernel
theorem dX5_setRow_27 : decode cX5_setRow 27 = .ok (.aload_n 0, 1) := by decide +kernel
theorem dX5_setRow_28 : decode cX5_setRow 28 = .ok (.getfield 7, 3) := by decide +kernel
theorem dX5_setRow_31 : decode cX5_setRow 31 = .ok (.iload_n 1, 1) := by decide +kernel
theorem dX5_setRow_32 : decode cX5_setRow 32 = .ok (.iload_n 2, 1) := by decide +kernel
theorem dX5_setRow_33 : decode cX5_setRow 33 = .ok (.iload 5, 2) := by decide +kernel
theorem dX5_setRow_35 : decode cX5_setRow 35 = .ok (.invokestatic 62, 3) := by decide +kernel
theorem dX5_setRow_38 : decode cX5_setRow 38 = .ok (.iload 5, 2) := by decide +kernel
theorem dX5_setRow_40 : decode cX5_setRow 40 = .ok (.bipush 64, 2) := by decide +kernel
theorem dX5_setRow_42 : decode cX5_setRow 42 = .ok (.if_icmp .ge 18, 3) := by decide +kernel
theorem dX5_setRow_45 : decode cX5_setRow 45 = .ok (.lload_n 3, 1) := by decide +kernel
theorem dX5_setRow_46 : decode cX5_setRow 46 = .ok (.iload 5, 2) := by decide +kernel
theorem dX5_setRow_48 : decode cX5_setRow 48 = .ok (.lushr, 1) := by decide +kernel
theorem dX5_setRow_49 : decode cX5_setRow 49 = .ok (.lconst 1, 1) := by decide +kernel
theorem dX5_setRow_50 : decode cX5_setRow 50 = .ok (.land, 1) := by decide +kernel
theorem dX5_setRow_51 : decode cX5_setRow 51 = .ok (.lconst 1, 1) := by decide +kernel
theorem dX5_setRow_52 : decode cX5_setRow 52 = .ok (.lcmp, 1) := by decide +kernel
theorem dX5_setRow_53 : decode cX5_setRow 53 = .ok (.ifCond .ne 7, 3) := by decide +kernel
theorem dX5_setRow_56 : decode cX5_setRow 56 = .ok (.iconst 1, 1) := by decide +kernel
theorem dX5_setRow_57 : decode cX5_setRow 57 = .ok (.goto 4, 3) := by decide +kernel
theorem dX5_setRow_60 : decode cX5_setRow 60 = .ok (.iconst 0, 1) := by decide +kernel
theorem dX5_setRow_61 : decode cX5_setRow 61 = .ok (.bastore, 1) := by decide +kernel
theorem dX5_setRow_62 : decode cX5_setRow 62 = .ok (.iinc 5 1, 3) := by decide +kernel
theorem dX5_setRow_65 : decode cX5_setRow 65 = .ok (.goto (-47), 3) := by decide +kernel
theorem dX5_setRow_68 : decode cX5_setRow 68 = .ok (.aload_n 0, 1) := by decide +kernel
theorem dX5_setRow_69 : decode cX5_setRow 69 = .ok (.aload_n 0, 1) := by decide +kernel
theorem dX5_setRow_70 : decode cX5_setRow 70 = .ok (.iload_n 1, 1) := by decide +kernel
theorem dX5_setRow_71 : decode cX5_setRow 71 = .ok (.iload_n 2, 1) := by decide +kernel
theorem dX5_setRow_72 : decode cX5_setRow 72 = .ok (.invokevirtual 69, 3) := by decide +kernel
theorem dX5_setRow_75 : decode cX5_setRow 75 = .ok (.invokevirtual 80, 3) := by decide +kernel
theorem dX5_setRow_78 : decode cX5_setRow 78 = .ok (.ireturn, 1) := by decide +kernel
theorem dX5_chain_0 : decode cX5_chain 0 = .ok (.iload_n 1, 1) := by decide +kernel
theorem dX5_chain_1 : decode cX5_chain 1 = .ok (.invokestatic 55, 3) := by decide +kernel
theorem dX5_chain_4 : decode cX5_chain 4 = .ok (.ifCond .ne 9, 3) := by decide +kernel
theorem dX5_chain_7 : decode cX5_chain 7 = .ok (.aload_n 0, 1) := by decide +kernel
theorem dX5_chain_8 : decode cX5_chain 8 = .ok (.iconst 1, 1) := by decide +kernel
theorem dX5_chain_9 : decode cX5_chain 9 = .ok (.invokevirtual 77, 3) := by decide +kernel
theorem dX5_chain_12 : decode cX5_chain 12 = .ok (.ireturn, 1) := by decide +kernel
theorem dX5_chain_13 : decode cX5_chain 13 = .ok (.iconst 0, 1) := by decide +kernel
theorem dX5_chain_14 : decode cX5_chain 14 = .ok (.istore_n 2, 1) := by decide +kernel
theorem dX5_chain_15 : decode cX5_chain 15 = .ok (.iload_n 2, 1) := by decide +kernel
theorem dX5_chain_16 : decode cX5_chain 16 = .ok (.iconst 1, 1) := by decide +kernel
theorem dX5_chain_17 : decode cX5_chain 17 = .ok (.iadd, 1) := by decide +kernel
theorem dX5_chain_18 : decode cX5_chain 18 = .ok (.aload_n 0, 1) := by decide +kernel
theorem dX5_chain_19 : decode cX5_chain 19 = .ok (.getfield 16, 3) := by decide +kernel
theorem dX5_chain_22 : decode cX5_chain 22 = .ok (.if_icmp .ge 23, 3) := by decide +kernel
theorem dX5_chain_25 : decode cX5_chain 25 = .ok (.aload_n 0, 1) := by decide +kernel
theorem dX5_chain_26 : decode cX5_chain 26 = .ok (.getfield 7, 3) := by decide +kernel
theorem dX5_chain_29 : decode cX5_chain 29 = .ok (.iload_n 1, 1) := by decide +kernel
theorem dX5_chain_30 : decode cX5_chain 30 = .ok (.iload_n 2, 1) := by decide +kernel
theorem dX5_chain_31 : decode cX5_chain 31 = .ok (.iload_n 2, 1) := by decide +kernel
theorem dX5_chain_32 : decode cX5_chain 32 = .ok (.iconst 1, 1) := by decide +kernel
theorem dX5_chain_33 : decode cX5_chain 33 = .ok (.iadd, 1) := by decide +kernel
theorem dX5_chain_34 : decode cX5_chain 34 = .ok (.invokestatic 62, 3) := by decide +kernel
theorem dX5_chain_37 : decode cX5_chain 37 = .ok (.iconst 1, 1) := by decide +kernel
theorem dX5_chain_38 : decode cX5_chain 38 = .ok (.bastore, 1) := by decide +kernel
theorem dX5_chain_39 : decode cX5_chain 39 = .ok (.iinc 2 1, 3) := by decide +kernel
theorem dX5_chain_42 : decode cX5_chain 42 = .ok (.goto (-27), 3) := by decide +kernel
theorem dX5_chain_45 : decode cX5_chain 45 = .ok (.aload_n 0, 1) := by decide +kernel
theorem dX5_chain_46 : decode cX5_chain 46 = .ok (.aload_n 0, 1) := by decide +kernel
theorem dX5_chain_47 : decode cX5_chain 47 = .ok (.iload_n 1, 1) := by decide +kernel
theorem dX5_chain_48 : decode cX5_chain 48 = .ok (.invokevirtual 73, 3) := by decide +kernel
theorem dX5_chain_51 : decode cX5_chain 51 = .ok (.invokevirtual 80, 3) := by decide +kernel
theorem dX5_chain_54 : decode cX5_chain 54 = .ok (.ireturn, 1) := by decide +kernel
theorem dX5_draw_0 : decode cX5_draw 0 = .ok (.iload_n 1, 1) := by decide +kernel
theorem dX5_draw_1 : decode cX5_draw 1 = .ok (.invokestatic 55, 3) := by decide +kernel
theorem dX5_draw_4 : decode cX5_draw 4 = .ok (.ifCond .ne 9, 3) := by decide +kernel
theorem dX5_draw_7 : decode cX5_draw 7 = .ok (.aload_n 0, 1) := by decide +kernel
theorem dX5_draw_8 : decode cX5_draw 8 = .ok (.iconst 1, 1) := by decide +kernel
theorem dX5_draw_9 : decode cX5_draw 9 = .ok (.invokevirtual 77, 3) := by decide +kernel
theorem dX5_draw_12 : decode cX5_draw 12 = .ok (.ireturn, 1) := by decide +kernel
theorem dX5_draw_13 : decode cX5_draw 13 = .ok (.iload_n 3, 1) := by decide +kernel
theorem dX5_draw_14 : decode cX5_draw 14 = .ok (.iconst 0, 1) := by decide +kernel
theorem dX5_draw_15 : decode cX5_draw 15 = .ok (.sipush 200, 3) := by decide +kernel
theorem dX5_draw_18 : decode cX5_draw 18 = .ok (.invokestatic 51, 3) := by decide +kernel
theorem dX5_draw_21 : decode cX5_draw 21 = .ok (.ifCond .ne 9, 3) := by decide +kernel
theorem dX5_draw_24 : decode cX5_draw 24 = .ok (.aload_n 0, 1) := by decide +kernel
theorem dX5_draw_25 : decode cX5_draw 25 = .ok (.iconst 2, 1) := by decide +kernel
theorem dX5_draw_26 : decode cX5_draw 26 = .ok (.invokevirtual 77, 3) := by decide +kernel
theorem dX5_draw_29 : decode cX5_draw 29 = .ok (.ireturn, 1) := by decide +kernel
theorem dX5_draw_30 : decode cX5_draw 30 = .ok (.iload_n 2, 1) := by decide +kernel
theorem dX5_draw_31 : decode cX5_draw 31 = .ok (.istore 4, 2) := by decide +kernel
theorem dX5_draw_33 : decode cX5_draw 33 = .ok (.iconst 0, 1) := by decide +kernel
theorem dX5_draw_34 : decode cX5_draw 34 = .ok (.istore 5, 2) := by decide +kernel
theorem dX5_draw_36 : decode cX5_draw 36 = .ok (.iload 5, 2) := by decide +kernel
theorem dX5_draw_38 : decode cX5_draw 38 = .ok (.iload_n 3, 1) := by decide +kernel
theorem dX5_draw_39 : decode cX5_draw 39 = .ok (.if_icmp .ge 65, 3) := by decide +kernel
theorem dX5_draw_42 : decode cX5_draw 42 = .ok (.iload 4, 2) := by decide +kernel
theorem dX5_draw_44 : decode cX5_draw 44 = .ok (.ldc 97, 2) := by decide +kernel
theorem dX5_draw_46 : decode cX5_draw 46 = .ok (.imul, 1) := by decide +kernel
theorem dX5_draw_47 : decode cX5_draw 47 = .ok (.sipush 12345, 3) := by decide +kernel
theorem dX5_draw_50 : decode cX5_draw 50 = .ok (.iadd, 1) := by decide +kernel
theorem dX5_draw_51 : decode cX5_draw 51 = .ok (.istore 4, 2) := by decide +kernel
theorem dX5_draw_53 : decode cX5_draw 53 = .ok (.iload 4, 2) := by decide +kernel
theorem dX5_draw_55 : decode cX5_draw 55 = .ok (.bipush 16, 2) := by decide +kernel
theorem dX5_draw_57 : decode cX5_draw 57 = .ok (.iushr, 1) := by decide +kernel
theorem dX5_draw_58 : decode cX5_draw 58 = .ok (.aload_n 0, 1) := by decide +kernel
theorem dX5_draw_59 : decode cX5_draw 59 = .ok (.getfield 16, 3) := by decide +kernel
theorem dX5_draw_62 : decode cX5_draw 62 = .ok (.irem, 1) := by decide +kernel
theorem dX5_draw_63 : decode cX5_draw 63 = .ok (.istore 6, 2) := by decide +kernel
theorem dX5_draw_65 : decode cX5_draw 65 = .ok (.iload 4, 2) := by decide +kernel
theorem dX5_draw_67 : decode cX5_draw 67 = .ok (.ldc 97, 2) := by decide +kernel
theorem dX5_draw_69 : decode cX5_draw 69 = .ok (.imul, 1) := by decide +kernel
theorem dX5_draw_70 : decode cX5_draw 70 = .ok (.sipush 12345, 3) := by decide +kernel
theorem dX5_draw_73 : decode cX5_draw 73 = .ok (.iadd, 1) := by decide +kernel
theorem dX5_draw_74 : decode cX5_draw 74 = .ok (.istore 4, 2) := by decide +kernel
theorem dX5_draw_76 : decode cX5_draw 76 = .ok (.aload_n 0, 1) := by decide +kernel
theorem dX5_draw_77 : decode cX5_draw 77 = .ok (.getfield 7, 3) := by decide +kernel
theorem dX5_draw_80 : decode cX5_draw 80 = .ok (.iload_n 1, 1) := by decide +kernel
theorem dX5_draw_81 : decode cX5_draw 81 = .ok (.iload 6, 2) := by decide +kernel
theorem dX5_draw_83 : decode cX5_draw 83 = .ok (.iload 4, 2) := by decide +kernel
theorem dX5_draw_85 : decode cX5_draw 85 = .ok (.bipush 16, 2) := by decide +kernel
theorem dX5_draw_87 : decode cX5_draw 87 = .ok (.iushr, 1) := by decide +kernel
theorem dX5_draw_88 : decode cX5_draw 88 = .ok (.aload_n 0, 1) := by decide +kernel
theorem dX5_draw_89 : decode cX5_draw 89 = .ok (.getfield 16, 3) := by decide +kernel
theorem dX5_draw_92 : decode cX5_draw 92 = .ok (.irem, 1) := by decide +kernel
theorem dX5_draw_93 : decode cX5_draw 93 = .ok (.invokestatic 62, 3) := by decide +kernel
theorem dX5_draw_96 : decode cX5_draw 96 = .ok (.iconst 1, 1) := by decide +kernel
theorem dX5_draw_97 : decode cX5_draw 97 = .ok (.bastore, 1) := by decide +kernel
theorem dX5_draw_98 : decode cX5_draw 98 = .ok (.iinc 5 1, 3) := by decide +kernel
theorem dX5_draw_101 : decode cX5_draw 101 = .ok (.goto (-65), 3) := by decide +kernel
theorem dX5_draw_104 : decode cX5_draw 104 = .ok (.aload_n 0, 1) := by decide +kernel
theorem dX5_draw_105 : decode cX5_draw 105 = .ok (.aload_n 0, 1) := by decide +kernel
theorem dX5_draw_106 : decode cX5_draw 106 = .ok (.iload_n 1, 1) := by decide +kernel
theorem dX5_draw_107 : decode cX5_draw 107 = .ok (.invokevirtual 73, 3) := by decide +kernel
theorem dX5_draw_110 : decode cX5_draw 110 = .ok (.invokevirtual 80, 3) := by decide +kernel
theorem dX5_draw_113 : decode cX5_draw 113 = .ok (.ireturn, 1) := by decide +kernel
theorem dX5_copy_0 : decode cX5_copy 0 = .ok (.iload_n 1, 1) := by decide +kernel
theorem dX5_copy_1 : decode cX5_copy 1 = .ok (.invokestatic 55, 3) := by decide +kernel
theorem dX5_copy_4 : decode cX5_copy 4 = .ok (.ifCond .eq 10, 3) := by decide +kernel
theorem dX5_copy_7 : decode cX5_copy 7 = .ok (.iload_n 2, 1) := by decide +kernel
theorem dX5_copy_8 : decode cX5_copy 8 = .ok (.invokestatic 55, 3) := by decide +kernel
theorem dX5_copy_11 : decode cX5_copy 11 = .ok (.ifCond .ne 9, 3) := by decide +kernel
theorem dX5_copy_14 : decode cX5_copy 14 = .ok (.aload_n 0, 1) := by decide +kernel
theorem dX5_copy_15 : decode cX5_copy 15 = .ok (.iconst 1, 1) := by decide +kernel
theorem dX5_copy_16 : decode cX5_copy 16 = .ok (.invokevirtual 77, 3) := by decide +kernel
theorem dX5_copy_19 : decode cX5_copy 19 = .ok (.ireturn, 1) := by decide +kernel
theorem dX5_copy_20 : decode cX5_copy 20 = .ok (.iconst 0, 1) := by decide +kernel
theorem dX5_copy_21 : decode cX5_copy 21 = .ok (.istore_n 3, 1) := by decide +kernel
theorem dX5_copy_22 : decode cX5_copy 22 = .ok (.iload_n 3, 1) := by decide +kernel
theorem dX5_copy_23 : decode cX5_copy 23 = .ok (.sipush 6400, 3) := by decide +kernel
theorem dX5_copy_26 : decode cX5_copy 26 = .ok (.if_icmp .ge 33, 3) := by decide +kernel
theorem dX5_copy_29 : decode cX5_copy 29 = .ok (.aload_n 0, 1) := by decide +kernel
theorem dX5_copy_30 : decode cX5_copy 30 = .ok (.getfield 7, 3) := by decide +kernel
theorem dX5_copy_33 : decode cX5_copy 33 = .ok (.sipush 6400, 3) := by decide +kernel
theorem dX5_copy_36 : decode cX5_copy 36 = .ok (.iload_n 2, 1) := by decide +kernel
theorem dX5_copy_37 : decode cX5_copy 37 = .ok (.imul, 1) := by decide +kernel
theorem dX5_copy_38 : decode cX5_copy 38 = .ok (.iload_n 3, 1) := by decide +kernel
theorem dX5_copy_39 : decode cX5_copy 39 = .ok (.iadd, 1) := by decide +kernel
theorem dX5_copy_40 : decode cX5_copy 40 = .ok (.aload_n 0, 1) := by decide +kernel
theorem dX5_copy_41 : decode cX5_copy 41 = .ok (.getfield 7, 3) := by decide +kernel
theorem dX5_copy_44 : decode cX5_copy 44 = .ok (.sipush 6400, 3) := by decide +kernel
theorem dX5_copy_47 : decode cX5_copy 47 = .ok (.iload_n 1, 1) := by decide +kernel
theorem dX5_copy_48 : decode cX5_copy 48 = .ok (.imul, 1) := by decide +kernel
theorem dX5_copy_49 : decode cX5_copy 49 = .ok (.iload_n 3, 1) := by decide +kernel
theorem dX5_copy_50 : decode cX5_copy 50 = .ok (.iadd, 1) := by decide +kernel
theorem dX5_copy_51 : decode cX5_copy 51 = .ok (.baload, 1) := by decide +kernel
theorem dX5_copy_52 : decode cX5_copy 52 = .ok (.bastore, 1) := by decide +kernel
theorem dX5_copy_53 : decode cX5_copy 53 = .ok (.iinc 3 1, 3) := by decide +kernel
theorem dX5_copy_56 : decode cX5_copy 56 = .ok (.goto (-34), 3) := by decide +kernel
theorem dX5_copy_59 : decode cX5_copy 59 = .ok (.aload_n 0, 1) := by decide +kernel
theorem dX5_copy_60 : decode cX5_copy 60 = .ok (.aload_n 0, 1) := by decide +kernel
theorem dX5_copy_61 : decode cX5_copy 61 = .ok (.iload_n 2, 1) := by decide +kernel
theorem dX5_copy_62 : decode cX5_copy 62 = .ok (.invokevirtual 73, 3) := by decide +kernel
theorem dX5_copy_65 : decode cX5_copy 65 = .ok (.invokevirtual 80, 3) := by decide +kernel
theorem dX5_copy_68 : decode cX5_copy 68 = .ok (.ireturn, 1) := by decide +kernel
theorem dX5_combine_0 : decode cX5_combine 0 = .ok (.iload_n 1, 1) := by decide +kernel
theorem dX5_combine_1 : decode cX5_combine 1 = .ok (.invokestatic 55, 3) := by decide +kernel
theorem dX5_combine_4 : decode cX5_combine 4 = .ok (.ifCond .eq 10, 3) := by decide +kernel
theorem dX5_combine_7 : decode cX5_combine 7 = .ok (.iload_n 2, 1) := by decide +kernel
theorem dX5_combine_8 : decode cX5_combine 8 = .ok (.invokestatic 55, 3) := by decide +kernel
theorem dX5_combine_11 : decode cX5_combine 11 = .ok (.ifCond .ne 9, 3) := by decide +kernel
theorem dX5_combine_14 : decode cX5_combine 14 = .ok (.aload_n 0, 1) := by decide +kernel
theorem dX5_combine_15 : decode cX5_combine 15 = .ok (.iconst 1, 1) := by decide +kernel
theorem dX5_combine_16 : decode cX5_combine 16 = .ok (.invokevirtual 77, 3) := by decide +kernel
theorem dX5_combine_19 : decode cX5_combine 19 = .ok (.ireturn, 1) := by decide +kernel
theorem dX5_combine_20 : decode cX5_combine 20 = .ok (.iload_n 3, 1) := by decide +kernel
theorem dX5_combine_21 : decode cX5_combine 21 = .ok (.iconst 0, 1) := by decide +kernel
theorem dX5_combine_22 : decode cX5_combine 22 = .ok (.iconst 3, 1) := by decide +kernel
theorem dX5_combine_23 : decode cX5_combine 23 = .ok (.invokestatic 51, 3) := by decide +kernel
theorem dX5_combine_26 : decode cX5_combine 26 = .ok (.ifCond .ne 9, 3) := by decide +kernel
theorem dX5_combine_29 : decode cX5_combine 29 = .ok (.aload_n 0, 1) := by decide +kernel
theorem dX5_combine_30 : decode cX5_combine 30 = .ok (.iconst 2, 1) := by decide +kernel
theorem dX5_combine_31 : decode cX5_combine 31 = .ok (.invokevirtual 77, 3) := by decide +kernel
theorem dX5_combine_34 : decode cX5_combine 34 = .ok (.ireturn, 1) := by decide +kernel
theorem dX5_combine_35 : decode cX5_combine 35 = .ok (.iconst 0, 1) := by decide +kernel
theorem dX5_combine_36 : decode cX5_combine 36 = .ok (.istore 4, 2) := by decide +kernel
theorem dX5_combine_38 : decode cX5_combine 38 = .ok (.iload 4, 2) := by decide +kernel
theorem dX5_combine_40 : decode cX5_combine 40 = .ok (.sipush 6400, 3) := by decide +kernel
theorem dX5_combine_43 : decode cX5_combine 43 = .ok (.if_icmp .ge 132, 3) := by decide +kernel
theorem dX5_combine_46 : decode cX5_combine 46 = .ok (.aload_n 0, 1) := by decide +kernel
theorem dX5_combine_47 : decode cX5_combine 47 = .ok (.getfield 7, 3) := by decide +kernel
theorem dX5_combine_50 : decode cX5_combine 50 = .ok (.sipush 6400, 3) := by decide +kernel
theorem dX5_combine_53 : decode cX5_combine 53 = .ok (.iload_n 1, 1) := by decide +kernel
theorem dX5_combine_54 : decode cX5_combine 54 = .ok (.imul, 1) := by decide +kernel
theorem dX5_combine_55 : decode cX5_combine 55 = .ok (.iload 4, 2) := by decide +kernel
theorem dX5_combine_57 : decode cX5_combine 57 = .ok (.iadd, 1) := by decide +kernel
theorem dX5_combine_58 : decode cX5_combine 58 = .ok (.baload, 1) := by decide +kernel
theorem dX5_combine_59 : decode cX5_combine 59 = .ok (.istore 5, 2) := by decide +kernel
theorem dX5_combine_61 : decode cX5_combine 61 = .ok (.aload_n 0, 1) := by decide +kernel
theorem dX5_combine_62 : decode cX5_combine 62 = .ok (.getfield 7, 3) := by decide +kernel
theorem dX5_combine_65 : decode cX5_combine 65 = .ok (.sipush 6400, 3) := by decide +kernel
theorem dX5_combine_68 : decode cX5_combine 68 = .ok (.iload_n 2, 1) := by decide +kernel
theorem dX5_combine_69 : decode cX5_combine 69 = .ok (.imul, 1) := by decide +kernel
theorem dX5_combine_70 : decode cX5_combine 70 = .ok (.iload 4, 2) := by decide +kernel
theorem dX5_combine_72 : decode cX5_combine 72 = .ok (.iadd, 1) := by decide +kernel
theorem dX5_combine_73 : decode cX5_combine 73 = .ok (.baload, 1) := by decide +kernel
theorem dX5_combine_74 : decode cX5_combine 74 = .ok (.istore 6, 2) := by decide +kernel
theorem dX5_combine_76 : decode cX5_combine 76 = .ok (.aload_n 0, 1) := by decide +kernel
theorem dX5_combine_77 : decode cX5_combine 77 = .ok (.getfield 7, 3) := by decide +kernel
theorem dX5_combine_80 : decode cX5_combine 80 = .ok (.sipush 6400, 3) := by decide +kernel
theorem dX5_combine_83 : decode cX5_combine 83 = .ok (.iload_n 1, 1) := by decide +kernel
theorem dX5_combine_84 : decode cX5_combine 84 = .ok (.imul, 1) := by decide +kernel
theorem dX5_combine_85 : decode cX5_combine 85 = .ok (.iload 4, 2) := by decide +kernel
theorem dX5_combine_87 : decode cX5_combine 87 = .ok (.iadd, 1) := by decide +kernel
theorem dX5_combine_88 : decode cX5_combine 88 = .ok (.iload_n 3, 1) := by decide +kernel
theorem dX5_combine_89 : decode cX5_combine 89 = .ok (.ifCond .ne 21, 3) := by decide +kernel
theorem dX5_combine_92 : decode cX5_combine 92 = .ok (.iload 5, 2) := by decide +kernel
theorem dX5_combine_94 : decode cX5_combine 94 = .ok (.ifCond .ne 8, 3) := by decide +kernel
theorem dX5_combine_97 : decode cX5_combine 97 = .ok (.iload 6, 2) := by decide +kernel
theorem dX5_combine_99 : decode cX5_combine 99 = .ok (.ifCond .eq 7, 3) := by decide +kernel
theorem dX5_combine_102 : decode cX5_combine 102 = .ok (.iconst 1, 1) := by decide +kernel
theorem dX5_combine_103 : decode cX5_combine 103 = .ok (.goto 65, 3) := by decide +kernel
theorem dX5_combine_106 : decode cX5_combine 106 = .ok (.iconst 0, 1) := by decide +kernel
theorem dX5_combine_107 : decode cX5_combine 107 = .ok (.goto 61, 3) := by decide +kernel
theorem dX5_combine_110 : decode cX5_combine 110 = .ok (.iload_n 3, 1) := by decide +kernel
theorem dX5_combine_111 : decode cX5_combine 111 = .ok (.iconst 1, 1) := by decide +kernel
theorem dX5_combine_112 : decode cX5_combine 112 = .ok (.if_icmp .ne 21, 3) := by decide +kernel
theorem dX5_combine_115 : decode cX5_combine 115 = .ok (.iload 5, 2) := by decide +kernel
theorem dX5_combine_117 : decode cX5_combine 117 = .ok (.ifCond .eq 12, 3) := by decide +kernel
theorem dX5_combine_120 : decode cX5_combine 120 = .ok (.iload 6, 2) := by decide +kernel
theorem dX5_combine_122 : decode cX5_combine 122 = .ok (.ifCond .eq 7, 3) := by decide +kernel
theorem dX5_combine_125 : decode cX5_combine 125 = .ok (.iconst 1, 1) := by decide +kernel
theorem dX5_combine_126 : decode cX5_combine 126 = .ok (.goto 42, 3) := by decide +kernel
theorem dX5_combine_129 : decode cX5_combine 129 = .ok (.iconst 0, 1) := by decide +kernel
theorem dX5_combine_130 : decode cX5_combine 130 = .ok (.goto 38, 3) := by decide +kernel
theorem dX5_combine_133 : decode cX5_combine 133 = .ok (.iload_n 3, 1) := by decide +kernel
theorem dX5_combine_134 : decode cX5_combine 134 = .ok (.iconst 2, 1) := by decide +kernel
theorem dX5_combine_135 : decode cX5_combine 135 = .ok (.if_icmp .ne 21, 3) := by decide +kernel
theorem dX5_combine_138 : decode cX5_combine 138 = .ok (.iload 5, 2) := by decide +kernel
theorem dX5_combine_140 : decode cX5_combine 140 = .ok (.ifCond .eq 12, 3) := by decide +kernel
theorem dX5_combine_143 : decode cX5_combine 143 = .ok (.iload 6, 2) := by decide +kernel
theorem dX5_combine_145 : decode cX5_combine 145 = .ok (.ifCond .ne 7, 3) := by decide +kernel
theorem dX5_combine_148 : decode cX5_combine 148 = .ok (.iconst 1, 1) := by decide +kernel
theorem dX5_combine_149 : decode cX5_combine 149 = .ok (.goto 19, 3) := by decide +kernel
theorem dX5_combine_152 : decode cX5_combine 152 = .ok (.iconst 0, 1) := by decide +kernel
theorem dX5_combine_153 : decode cX5_combine 153 = .ok (.goto 15, 3) := by decide +kernel
theorem dX5_combine_156 : decode cX5_combine 156 = .ok (.iload 5, 2) := by decide +kernel
theorem dX5_combine_158 : decode cX5_combine 158 = .ok (.iload 6, 2) := by decide +kernel
theorem dX5_combine_160 : decode cX5_combine 160 = .ok (.if_icmp .eq 7, 3) := by decide +kernel
theorem dX5_combine_163 : decode cX5_combine 163 = .ok (.iconst 1, 1) := by decide +kernel
theorem dX5_combine_164 : decode cX5_combine 164 = .ok (.goto 4, 3) := by decide +kernel
theorem dX5_combine_167 : decode cX5_combine 167 = .ok (.iconst 0, 1) := by decide +kernel
theorem dX5_combine_168 : decode cX5_combine 168 = .ok (.bastore, 1) := by decide +kernel
theorem dX5_combine_169 : decode cX5_combine 169 = .ok (.iinc 4 1, 3) := by decide +kernel
theorem dX5_combine_172 : decode cX5_combine 172 = .ok (.goto (-134), 3) := by decide +kernel
theorem dX5_combine_175 : decode cX5_combine 175 = .ok (.aload_n 0, 1) := by decide +kernel
theorem dX5_combine_176 : decode cX5_combine 176 = .ok (.aload_n 0, 1) := by decide +kernel
theorem dX5_combine_177 : decode cX5_combine 177 = .ok (.iload_n 1, 1) := by decide +kernel
theorem dX5_combine_178 : decode cX5_combine 178 = .ok (.invokevirtual 73, 3) := by decide +kernel
theorem dX5_combine_181 : decode cX5_combine 181 = .ok (.invokevirtual 80, 3) := by decide +kernel
theorem dX5_combine_184 : decode cX5_combine 184 = .ok (.ireturn, 1) := by decide +kernel
theorem dX5_composes_0 : decode cX5_composes 0 = .ok (.iconst 0, 1) := by decide +kernel
theorem dX5_composes_1 : decode cX5_composes 1 = .ok (.istore_n 3, 1) := by decide +kernel
theorem dX5_composes_2 : decode cX5_composes 2 = .ok (.iload_n 3, 1) := by decide +kernel
theorem dX5_composes_3 : decode cX5_composes 3 = .ok (.aload_n 0, 1) := by decide +kernel
theorem dX5_composes_4 : decode cX5_composes 4 = .ok (.getfield 16, 3) := by decide +kernel
theorem dX5_composes_7 : decode cX5_composes 7 = .ok (.if_icmp .ge 97, 3) := by decide +kernel
theorem dX5_composes_10 : decode cX5_composes 10 = .ok (.iconst 0, 1) := by decide +kernel
theorem dX5_composes_11 : decode cX5_composes 11 = .ok (.istore 4, 2) := by decide +kernel
theorem dX5_composes_13 : decode cX5_composes 13 = .ok (.iload 4, 2) := by decide +kernel
theorem dX5_composes_15 : decode cX5_composes 15 = .ok (.aload_n 0, 1) := by decide +kernel
theorem dX5_composes_16 : decode cX5_composes 16 = .ok (.getfield 16, 3) := by decide +kernel
theorem dX5_composes_19 : decode cX5_composes 19 = .ok (.if_icmp .ge 79, 3) := by decide +kernel
theorem dX5_composes_22 : decode cX5_composes 22 = .ok (.iconst 0, 1) := by decide +kernel
theorem dX5_composes_23 : decode cX5_composes 23 = .ok (.istore 5, 2) := by decide +kernel
theorem dX5_composes_25 : decode cX5_composes 25 = .ok (.iconst 0, 1) := by decide +kernel
theorem dX5_composes_26 : decode cX5_composes 26 = .ok (.istore 6, 2) := by decide +kernel
theorem dX5_composes_28 : decode cX5_composes 28 = .ok (.iload 6, 2) := by decide +kernel
theorem dX5_composes_30 : decode cX5_composes 30 = .ok (.aload_n 0, 1) := by decide +kernel
theorem dX5_composes_31 : decode cX5_composes 31 = .ok (.getfield 16, 3) := by decide +kernel
theorem dX5_composes_34 : decode cX5_composes 34 = .ok (.if_icmp .ge 44, 3) := by decide +kernel
theorem dX5_composes_37 : decode cX5_composes 37 = .ok (.iload 5, 2) := by decide +kernel
theorem dX5_composes_39 : decode cX5_composes 39 = .ok (.ifCond .ne 39, 3) := by decide +kernel
theorem dX5_composes_42 : decode cX5_composes 42 = .ok (.aload_n 0, 1) := by decide +kernel
theorem dX5_composes_43 : decode cX5_composes 43 = .ok (.iload_n 1, 1) := by decide +kernel
theorem dX5_composes_44 : decode cX5_composes 44 = .ok (.iload_n 3, 1) := by decide +kernel
theorem dX5_composes_45 : decode cX5_composes 45 = .ok (.iload 6, 2) := by decide +kernel
theorem dX5_composes_47 : decode cX5_composes 47 = .ok (.invokevirtual 66, 3) := by decide +kernel
theorem dX5_composes_50 : decode cX5_composes 50 = .ok (.ifCond .eq 19, 3) := by decide +kernel
theorem dX5_composes_53 : decode cX5_composes 53 = .ok (.aload_n 0, 1) := by decide +kernel
theorem dX5_composes_54 : decode cX5_composes 54 = .ok (.iload_n 2, 1) := by decide +kernel
theorem dX5_composes_55 : decode cX5_composes 55 = .ok (.iload 6, 2) := by decide +kernel
theorem dX5_composes_57 : decode cX5_composes 57 = .ok (.iload 4, 2) := by decide +kernel
theorem dX5_composes_59 : decode cX5_composes 59 = .ok (.invokevirtual 66, 3) := by decide +kernel
theorem dX5_composes_62 : decode cX5_composes 62 = .ok (.ifCond .eq 7, 3) := by decide +kernel
theorem dX5_composes_65 : decode cX5_composes 65 = .ok (.iconst 1, 1) := by decide +kernel
theorem dX5_composes_66 : decode cX5_composes 66 = .ok (.goto 4, 3) := by decide +kernel
theorem dX5_composes_69 : decode cX5_composes 69 = .ok (.iconst 0, 1) := by decide +kernel
theorem dX5_composes_70 : decode cX5_composes 70 = .ok (.istore 5, 2) := by decide +kernel
theorem dX5_composes_72 : decode cX5_composes 72 = .ok (.iinc 6 1, 3) := by decide +kernel
theorem dX5_composes_75 : decode cX5_composes 75 = .ok (.goto (-47), 3) := by decide +kernel
theorem dX5_composes_78 : decode cX5_composes 78 = .ok (.aload_n 0, 1) := by decide +kernel
theorem dX5_composes_79 : decode cX5_composes 79 = .ok (.getfield 20, 3) := by decide +kernel
theorem dX5_composes_82 : decode cX5_composes 82 = .ok (.bipush 80, 2) := by decide +kernel
theorem dX5_composes_84 : decode cX5_composes 84 = .ok (.iload_n 3, 1) := by decide +kernel
theorem dX5_composes_85 : decode cX5_composes 85 = .ok (.imul, 1) := by decide +kernel
theorem dX5_composes_86 : decode cX5_composes 86 = .ok (.iload 4, 2) := by decide +kernel
theorem dX5_composes_88 : decode cX5_composes 88 = .ok (.iadd, 1) := by decide +kernel
theorem dX5_composes_89 : decode cX5_composes 89 = .ok (.iload 5, 2) := by decide +kernel
theorem dX5_composes_91 : decode cX5_composes 91 = .ok (.bastore, 1) := by decide +kernel
theorem dX5_composes_92 : decode cX5_composes 92 = .ok (.iinc 4 1, 3) := by decide +kernel
theorem dX5_composes_95 : decode cX5_composes 95 = .ok (.goto (-82), 3) := by decide +kernel
theorem dX5_composes_98 : decode cX5_composes 98 = .ok (.iinc 3 1, 3) := by decide +kernel
theorem dX5_composes_101 : decode cX5_composes 101 = .ok (.goto (-99), 3) := by decide +kernel
theorem dX5_composes_104 : decode cX5_composes 104 = .ok (.return_, 1) := by decide +kernel
theorem dX5_compose_0 : decode cX5_compose 0 = .ok (.iload_n 1, 1) := by decide +kernel
theorem dX5_compose_1 : decode cX5_compose 1 = .ok (.invokestatic 55, 3) := by decide +kernel
theorem dX5_compose_4 : decode cX5_compose 4 = .ok (.ifCond .eq 17, 3) := by decide +kernel
theorem dX5_compose_7 : decode cX5_compose 7 = .ok (.iload_n 2, 1) := by decide +kernel
theorem dX5_compose_8 : decode cX5_compose 8 = .ok (.invokestatic 55, 3) := by decide +kernel
theorem dX5_compose_11 : decode cX5_compose 11 = .ok (.ifCond .eq 10, 3) := by decide +kernel
theorem dX5_compose_14 : decode cX5_compose 14 = .ok (.iload_n 3, 1) := by decide +kernel
theorem dX5_compose_15 : decode cX5_compose 15 = .ok (.invokestatic 55, 3) := by decide +kernel
theorem dX5_compose_18 : decode cX5_compose 18 = .ok (.ifCond .ne 9, 3) := by decide +kernel
theorem dX5_compose_21 : decode cX5_compose 21 = .ok (.aload_n 0, 1) := by decide +kernel
theorem dX5_compose_22 : decode cX5_compose 22 = .ok (.iconst 1, 1) := by decide +kernel
theorem dX5_compose_23 : decode cX5_compose 23 = .ok (.invokevirtual 77, 3) := by decide +kernel
theorem dX5_compose_26 : decode cX5_compose 26 = .ok (.ireturn, 1) := by decide +kernel
theorem dX5_compose_27 : decode cX5_compose 27 = .ok (.aload_n 0, 1) := by decide +kernel
theorem dX5_compose_28 : decode cX5_compose 28 = .ok (.iload_n 1, 1) := by decide +kernel
theorem dX5_compose_29 : decode cX5_compose 29 = .ok (.iload_n 2, 1) := by decide +kernel
theorem dX5_compose_30 : decode cX5_compose 30 = .ok (.invokevirtual 98, 3) := by decide +kernel
theorem dX5_compose_33 : decode cX5_compose 33 = .ok (.aload_n 0, 1) := by decide +kernel
theorem dX5_compose_34 : decode cX5_compose 34 = .ok (.aload_n 0, 1) := by decide +kernel
theorem dX5_compose_35 : decode cX5_compose 35 = .ok (.iload_n 3, 1) := by decide +kernel
theorem dX5_compose_36 : decode cX5_compose 36 = .ok (.invokevirtual 102, 3) := by decide +kernel
theorem dX5_compose_39 : decode cX5_compose 39 = .ok (.invokevirtual 80, 3) := by decide +kernel
theorem dX5_compose_42 : decode cX5_compose 42 = .ok (.ireturn, 1) := by decide +kernel
theorem dX5_turn_0 : decode cX5_turn 0 = .ok (.iload_n 1, 1) := by decide +kernel
theorem dX5_turn_1 : decode cX5_turn 1 = .ok (.invokestatic 55, 3) := by decide +kernel
theorem dX5_turn_4 : decode cX5_turn 4 = .ok (.ifCond .ne 9, 3) := by decide +kernel
theorem dX5_turn_7 : decode cX5_turn 7 = .ok (.aload_n 0, 1) := by decide +kernel
theorem dX5_turn_8 : decode cX5_turn 8 = .ok (.iconst 1, 1) := by decide +kernel
theorem dX5_turn_9 : decode cX5_turn 9 = .ok (.invokevirtual 77, 3) := by decide +kernel
theorem dX5_turn_12 : decode cX5_turn 12 = .ok (.ireturn, 1) := by decide +kernel
theorem dX5_turn_13 : decode cX5_turn 13 = .ok (.iconst 0, 1) := by decide +kernel
theorem dX5_turn_14 : decode cX5_turn 14 = .ok (.istore_n 2, 1) := by decide +kernel
theorem dX5_turn_15 : decode cX5_turn 15 = .ok (.iload_n 2, 1) := by decide +kernel
theorem dX5_turn_16 : decode cX5_turn 16 = .ok (.aload_n 0, 1) := by decide +kernel
theorem dX5_turn_17 : decode cX5_turn 17 = .ok (.getfield 16, 3) := by decide +kernel
theorem dX5_turn_20 : decode cX5_turn 20 = .ok (.if_icmp .ge 43, 3) := by decide +kernel
theorem dX5_turn_23 : decode cX5_turn 23 = .ok (.iconst 0, 1) := by decide +kernel
theorem dX5_turn_24 : decode cX5_turn 24 = .ok (.istore_n 3, 1) := by decide +kernel
theorem dX5_turn_25 : decode cX5_turn 25 = .ok (.iload_n 3, 1) := by decide +kernel
theorem dX5_turn_26 : decode cX5_turn 26 = .ok (.aload_n 0, 1) := by decide +kernel
theorem dX5_turn_27 : decode cX5_turn 27 = .ok (.getfield 16, 3) := by decide +kernel
theorem dX5_turn_30 : decode cX5_turn 30 = .ok (.if_icmp .ge 27, 3) := by decide +kernel
theorem dX5_turn_33 : decode cX5_turn 33 = .ok (.aload_n 0, 1) := by decide +kernel
theorem dX5_turn_34 : decode cX5_turn 34 = .ok (.getfield 20, 3) := by decide +kernel
theorem dX5_turn_37 : decode cX5_turn 37 = .ok (.bipush 80, 2) := by decide +kernel
theorem dX5_turn_39 : decode cX5_turn 39 = .ok (.iload_n 2, 1) := by decide +kernel
theorem dX5_turn_40 : decode cX5_turn 40 = .ok (.imul, 1) := by decide +kernel
theorem dX5_turn_41 : decode cX5_turn 41 = .ok (.iload_n 3, 1) := by decide +kernel
theorem dX5_turn_42 : decode cX5_turn 42 = .ok (.iadd, 1) := by decide +kernel
theorem dX5_turn_43 : decode cX5_turn 43 = .ok (.aload_n 0, 1) := by decide +kernel
theorem dX5_turn_44 : decode cX5_turn 44 = .ok (.iload_n 1, 1) := by decide +kernel
theorem dX5_turn_45 : decode cX5_turn 45 = .ok (.iload_n 3, 1) := by decide +kernel
theorem dX5_turn_46 : decode cX5_turn 46 = .ok (.iload_n 2, 1) := by decide +kernel
theorem dX5_turn_47 : decode cX5_turn 47 = .ok (.invokevirtual 66, 3) := by decide +kernel
theorem dX5_turn_50 : decode cX5_turn 50 = .ok (.bastore, 1) := by decide +kernel
theorem dX5_turn_51 : decode cX5_turn 51 = .ok (.iinc 3 1, 3) := by decide +kernel
theorem dX5_turn_54 : decode cX5_turn 54 = .ok (.goto (-29), 3) := by decide +kernel
theorem dX5_turn_57 : decode cX5_turn 57 = .ok (.iinc 2 1, 3) := by decide +kernel
theorem dX5_turn_60 : decode cX5_turn 60 = .ok (.goto (-45), 3) := by decide +kernel
theorem dX5_turn_63 : decode cX5_turn 63 = .ok (.aload_n 0, 1) := by decide +kernel
theorem dX5_turn_64 : decode cX5_turn 64 = .ok (.aload_n 0, 1) := by decide +kernel
theorem dX5_turn_65 : decode cX5_turn 65 = .ok (.iload_n 1, 1) := by decide +kernel
theorem dX5_turn_66 : decode cX5_turn 66 = .ok (.invokevirtual 102, 3) := by decide +kernel
theorem dX5_turn_69 : decode cX5_turn 69 = .ok (.invokevirtual 80, 3) := by decide +kernel
theorem dX5_turn_72 : decode cX5_turn 72 = .ok (.ireturn, 1) := by decide +kernel
theorem dX5_oppose_0 : decode cX5_oppose 0 = .ok (.iload_n 1, 1) := by decide +kernel
theorem dX5_oppose_1 : decode cX5_oppose 1 = .ok (.invokestatic 55, 3) := by decide +kernel
theorem dX5_oppose_4 : decode cX5_oppose 4 = .ok (.ifCond .ne 9, 3) := by decide +kernel
theorem dX5_oppose_7 : decode cX5_oppose 7 = .ok (.aload_n 0, 1) := by decide +kernel
theorem dX5_oppose_8 : decode cX5_oppose 8 = .ok (.iconst 1, 1) := by decide +kernel
theorem dX5_oppose_9 : decode cX5_oppose 9 = .ok (.invokevirtual 77, 3) := by decide +kernel
theorem dX5_oppose_12 : decode cX5_oppose 12 = .ok (.ireturn, 1) := by decide +kernel
theorem dX5_oppose_13 : decode cX5_oppose 13 = .ok (.iconst 0, 1) := by decide +kernel
theorem dX5_oppose_14 : decode cX5_oppose 14 = .ok (.istore_n 2, 1) := by decide +kernel
theorem dX5_oppose_15 : decode cX5_oppose 15 = .ok (.iload_n 2, 1) := by decide +kernel
theorem dX5_oppose_16 : decode cX5_oppose 16 = .ok (.aload_n 0, 1) := by decide +kernel
theorem dX5_oppose_17 : decode cX5_oppose 17 = .ok (.getfield 16, 3) := by decide +kernel
theorem dX5_oppose_20 : decode cX5_oppose 20 = .ok (.if_icmp .ge 51, 3) := by decide +kernel
theorem dX5_oppose_23 : decode cX5_oppose 23 = .ok (.iconst 0, 1) := by decide +kernel
theorem dX5_oppose_24 : decode cX5_oppose 24 = .ok (.istore_n 3, 1) := by decide +kernel
theorem dX5_oppose_25 : decode cX5_oppose 25 = .ok (.iload_n 3, 1) := by decide +kernel
theorem dX5_oppose_26 : decode cX5_oppose 26 = .ok (.aload_n 0, 1) := by decide +kernel
theorem dX5_oppose_27 : decode cX5_oppose 27 = .ok (.getfield 16, 3) := by decide +kernel
theorem dX5_oppose_30 : decode cX5_oppose 30 = .ok (.if_icmp .ge 35, 3) := by decide +kernel
theorem dX5_oppose_33 : decode cX5_oppose 33 = .ok (.aload_n 0, 1) := by decide +kernel
theorem dX5_oppose_34 : decode cX5_oppose 34 = .ok (.getfield 7, 3) := by decide +kernel
theorem dX5_oppose_37 : decode cX5_oppose 37 = .ok (.iload_n 1, 1) := by decide +kernel
theorem dX5_oppose_38 : decode cX5_oppose 38 = .ok (.iload_n 2, 1) := by decide +kernel
theorem dX5_oppose_39 : decode cX5_oppose 39 = .ok (.iload_n 3, 1) := by decide +kernel
theorem dX5_oppose_40 : decode cX5_oppose 40 = .ok (.invokestatic 62, 3) := by decide +kernel
theorem dX5_oppose_43 : decode cX5_oppose 43 = .ok (.aload_n 0, 1) := by decide +kernel
theorem dX5_oppose_44 : decode cX5_oppose 44 = .ok (.iload_n 1, 1) := by decide +kernel
theorem dX5_oppose_45 : decode cX5_oppose 45 = .ok (.iload_n 2, 1) := by decide +kernel
theorem dX5_oppose_46 : decode cX5_oppose 46 = .ok (.iload_n 3, 1) := by decide +kernel
theorem dX5_oppose_47 : decode cX5_oppose 47 = .ok (.invokevirtual 66, 3) := by decide +kernel
theorem dX5_oppose_50 : decode cX5_oppose 50 = .ok (.ifCond .ne 7, 3) := by decide +kernel
theorem dX5_oppose_53 : decode cX5_oppose 53 = .ok (.iconst 1, 1) := by decide +kernel
theorem dX5_oppose_54 : decode cX5_oppose 54 = .ok (.goto 4, 3) := by decide +kernel
theorem dX5_oppose_57 : decode cX5_oppose 57 = .ok (.iconst 0, 1) := by decide +kernel
theorem dX5_oppose_58 : decode cX5_oppose 58 = .ok (.bastore, 1) := by decide +kernel
theorem dX5_oppose_59 : decode cX5_oppose 59 = .ok (.iinc 3 1, 3) := by decide +kernel
theorem dX5_oppose_62 : decode cX5_oppose 62 = .ok (.goto (-37), 3) := by decide +kernel
theorem dX5_oppose_65 : decode cX5_oppose 65 = .ok (.iinc 2 1, 3) := by decide +kernel
theorem dX5_oppose_68 : decode cX5_oppose 68 = .ok (.goto (-53), 3) := by decide +kernel
theorem dX5_oppose_71 : decode cX5_oppose 71 = .ok (.aload_n 0, 1) := by decide +kernel
theorem dX5_oppose_72 : decode cX5_oppose 72 = .ok (.aload_n 0, 1) := by decide +kernel
theorem dX5_oppose_73 : decode cX5_oppose 73 = .ok (.iload_n 1, 1) := by decide +kernel
theorem dX5_oppose_74 : decode cX5_oppose 74 = .ok (.invokevirtual 73, 3) := by decide +kernel
theorem dX5_oppose_77 : decode cX5_oppose 77 = .ok (.invokevirtual 80, 3) := by decide +kernel
theorem dX5_oppose_80 : decode cX5_oppose 80 = .ok (.ireturn, 1) := by decide +kernel
theorem dX5_walks_0 : decode cX5_walks 0 = .ok (.iconst 0, 1) := by decide +kernel
theorem dX5_walks_1 : decode cX5_walks 1 = .ok (.istore_n 3, 1) := by decide +kernel
theorem dX5_walks_2 : decode cX5_walks 2 = .ok (.iload_n 3, 1) := by decide +kernel
theorem dX5_walks_3 : decode cX5_walks 3 = .ok (.aload_n 0, 1) := by decide +kernel
theorem dX5_walks_4 : decode cX5_walks 4 = .ok (.getfield 16, 3) := by decide +kernel
theorem dX5_walks_7 : decode cX5_walks 7 = .ok (.if_icmp .ge 16, 3) := by decide +kernel
theorem dX5_walks_10 : decode cX5_walks 10 = .ok (.aload_n 0, 1) := by decide +kernel
theorem dX5_walks_11 : decode cX5_walks 11 = .ok (.getfield 39, 3) := by decide +kernel
theorem dX5_walks_14 : decode cX5_walks 14 = .ok (.iload_n 3, 1) := by decide +kernel
theorem dX5_walks_15 : decode cX5_walks 15 = .ok (.iconst (-1), 1) := by decide +kernel
theorem dX5_walks_16 : decode cX5_walks 16 = .ok (.iastore, 1) := by decide +kernel
theorem dX5_walks_17 : decode cX5_walks 17 = .ok (.iinc 3 1, 3) := by decide +kernel
theorem dX5_walks_20 : decode cX5_walks 20 = .ok (.goto (-18), 3) := by decide +kernel
theorem dX5_walks_23 : decode cX5_walks 23 = .ok (.iconst 0, 1) := by decide +kernel
theorem dX5_walks_24 : decode cX5_walks 24 = .ok (.istore_n 3, 1) := by decide +kernel
theorem dX5_walks_25 : decode cX5_walks 25 = .ok (.iconst 0, 1) := by decide +kernel
theorem dX5_walks_26 : decode cX5_walks 26 = .ok (.istore 4, 2) := by decide +kernel
theorem dX5_walks_28 : decode cX5_walks 28 = .ok (.iconst 0, 1) := by decide +kernel
theorem dX5_walks_29 : decode cX5_walks 29 = .ok (.istore 5, 2) := by decide +kernel
theorem dX5_walks_31 : decode cX5_walks 31 = .ok (.iload 5, 2) := by decide +kernel
theorem dX5_walks_33 : decode cX5_walks 33 = .ok (.aload_n 0, 1) := by decide +kernel
theorem dX5_walks_34 : decode cX5_walks 34 = .ok (.getfield 16, 3) := by decide +kernel
theorem dX5_walks_37 : decode cX5_walks 37 = .ok (.if_icmp .ge 40, 3) := by decide +kernel
theorem dX5_walks_40 : decode cX5_walks 40 = .ok (.aload_n 0, 1) := by decide +kernel
theorem dX5_walks_41 : decode cX5_walks 41 = .ok (.iload_n 1, 1) := by decide +kernel
theorem dX5_walks_42 : decode cX5_walks 42 = .ok (.iload_n 2, 1) := by decide +kernel
theorem dX5_walks_43 : decode cX5_walks 43 = .ok (.iload 5, 2) := by decide +kernel
theorem dX5_walks_45 : decode cX5_walks 45 = .ok (.invokevirtual 66, 3) := by decide +kernel
theorem dX5_walks_48 : decode cX5_walks 48 = .ok (.ifCond .eq 23, 3) := by decide +kernel
theorem dX5_walks_51 : decode cX5_walks 51 = .ok (.aload_n 0, 1) := by decide +kernel
theorem dX5_walks_52 : decode cX5_walks 52 = .ok (.getfield 39, 3) := by decide +kernel
theorem dX5_walks_55 : decode cX5_walks 55 = .ok (.iload 5, 2) := by decide +kernel
theorem dX5_walks_57 : decode cX5_walks 57 = .ok (.iconst 1, 1) := by decide +kernel
theorem dX5_walks_58 : decode cX5_walks 58 = .ok (.iastore, 1) := by decide +kernel
theorem dX5_walks_59 : decode cX5_walks 59 = .ok (.aload_n 0, 1) := by decide +kernel
theorem dX5_walks_60 : decode cX5_walks 60 = .ok (.getfield 35, 3) := by decide +kernel
theorem dX5_walks_63 : decode cX5_walks 63 = .ok (.iload 4, 2) := by decide +kernel
theorem dX5_walks_65 : decode cX5_walks 65 = .ok (.iload 5, 2) := by decide +kernel
theorem dX5_walks_67 : decode cX5_walks 67 = .ok (.iastore, 1) := by decide +kernel
theorem dX5_walks_68 : decode cX5_walks 68 = .ok (.iinc 4 1, 3) := by decide +kernel
theorem dX5_walks_71 : decode cX5_walks 71 = .ok (.iinc 5 1, 3) := by decide +kernel
theorem dX5_walks_74 : decode cX5_walks 74 = .ok (.goto (-43), 3) := by decide +kernel
theorem dX5_walks_77 : decode cX5_walks 77 = .ok (.iload_n 3, 1) := by decide +kernel
theorem dX5_walks_78 : decode cX5_walks 78 = .ok (.iload 4, 2) := by decide +kernel
theorem dX5_walks_80 : decode cX5_walks 80 = .ok (.if_icmp .ge 86, 3) := by decide +kernel
theorem dX5_walks_83 : decode cX5_walks 83 = .ok (.aload_n 0, 1) := by decide +kernel
theorem dX5_walks_84 : decode cX5_walks 84 = .ok (.getfield 35, 3) := by decide +kernel
theorem dX5_walks_87 : decode cX5_walks 87 = .ok (.iload_n 3, 1) := by decide +kernel
theorem dX5_walks_88 : decode cX5_walks 88 = .ok (.iaload, 1) := by decide +kernel
theorem dX5_walks_89 : decode cX5_walks 89 = .ok (.istore 5, 2) := by decide +kernel
theorem dX5_walks_91 : decode cX5_walks 91 = .ok (.iinc 3 1, 3) := by decide +kernel
theorem dX5_walks_94 : decode cX5_walks 94 = .ok (.iconst 0, 1) := by decide +kernel
theorem dX5_walks_95 : decode cX5_walks 95 = .ok (.istore 6, 2) := by decide +kernel
theorem dX5_walks_97 : decode cX5_walks 97 = .ok (.iload 6, 2) := by decide +kernel
theorem dX5_walks_99 : decode cX5_walks 99 = .ok (.aload_n 0, 1) := by decide +kernel
theorem dX5_walks_100 : decode cX5_walks 100 = .ok (.getfield 16, 3) := by decide +kernel
theorem dX5_walks_103 : decode cX5_walks 103 = .ok (.if_icmp .ge 60, 3) := by decide +kernel
theorem dX5_walks_106 : decode cX5_walks 106 = .ok (.aload_n 0, 1) := by decide +kernel
theorem dX5_walks_107 : decode cX5_walks 107 = .ok (.getfield 39, 3) := by decide +kernel
theorem dX5_walks_110 : decode cX5_walks 110 = .ok (.iload 6, 2) := by decide +kernel
theorem dX5_walks_112 : decode cX5_walks 112 = .ok (.iaload, 1) := by decide +kernel
theorem dX5_walks_113 : decode cX5_walks 113 = .ok (.iconst (-1), 1) := by decide +kernel
theorem dX5_walks_114 : decode cX5_walks 114 = .ok (.if_icmp .ne 43, 3) := by decide +kernel
theorem dX5_walks_117 : decode cX5_walks 117 = .ok (.aload_n 0, 1) := by decide +kernel
theorem dX5_walks_118 : decode cX5_walks 118 = .ok (.iload_n 1, 1) := by decide +kernel
theorem dX5_walks_119 : decode cX5_walks 119 = .ok (.iload 5, 2) := by decide +kernel
theorem dX5_walks_121 : decode cX5_walks 121 = .ok (.iload 6, 2) := by decide +kernel
theorem dX5_walks_123 : decode cX5_walks 123 = .ok (.invokevirtual 66, 3) := by decide +kernel
theorem dX5_walks_126 : decode cX5_walks 126 = .ok (.ifCond .eq 31, 3) := by decide +kernel
theorem dX5_walks_129 : decode cX5_walks 129 = .ok (.aload_n 0, 1) := by decide +kernel
theorem dX5_walks_130 : decode cX5_walks 130 = .ok (.getfield 39, 3) := by decide +kernel
theorem dX5_walks_133 : decode cX5_walks 133 = .ok (.iload 6, 2) := by decide +kernel
theorem dX5_walks_135 : decode cX5_walks 135 = .ok (.aload_n 0, 1) := by decide +kernel
theorem dX5_walks_136 : decode cX5_walks 136 = .ok (.getfield 39, 3) := by decide +kernel
theorem dX5_walks_139 : decode cX5_walks 139 = .ok (.iload 5, 2) := by decide +kernel
theorem dX5_walks_141 : decode cX5_walks 141 = .ok (.iaload, 1) := by decide +kernel
theorem dX5_walks_142 : decode cX5_walks 142 = .ok (.iconst 1, 1) := by decide +kernel
theorem dX5_walks_143 : decode cX5_walks 143 = .ok (.iadd, 1) := by decide +kernel
theorem dX5_walks_144 : decode cX5_walks 144 = .ok (.iastore, 1) := by decide +kernel
theorem dX5_walks_145 : decode cX5_walks 145 = .ok (.aload_n 0, 1) := by decide +kernel
theorem dX5_walks_146 : decode cX5_walks 146 = .ok (.getfield 35, 3) := by decide +kernel
theorem dX5_walks_149 : decode cX5_walks 149 = .ok (.iload 4, 2) := by decide +kernel
theorem dX5_walks_151 : decode cX5_walks 151 = .ok (.iload 6, 2) := by decide +kernel
theorem dX5_walks_153 : decode cX5_walks 153 = .ok (.iastore, 1) := by decide +kernel
theorem dX5_walks_154 : decode cX5_walks 154 = .ok (.iinc 4 1, 3) := by decide +kernel
theorem dX5_walks_157 : decode cX5_walks 157 = .ok (.iinc 6 1, 3) := by decide +kernel
theorem dX5_walks_160 : decode cX5_walks 160 = .ok (.goto (-63), 3) := by decide +kernel
theorem dX5_walks_163 : decode cX5_walks 163 = .ok (.goto (-86), 3) := by decide +kernel
theorem dX5_walks_166 : decode cX5_walks 166 = .ok (.return_, 1) := by decide +kernel
theorem dX5_closes_0 : decode cX5_closes 0 = .ok (.iconst 0, 1) := by decide +kernel
theorem dX5_closes_1 : decode cX5_closes 1 = .ok (.istore_n 2, 1) := by decide +kernel
theorem dX5_closes_2 : decode cX5_closes 2 = .ok (.iload_n 2, 1) := by decide +kernel
theorem dX5_closes_3 : decode cX5_closes 3 = .ok (.aload_n 0, 1) := by decide +kernel
theorem dX5_closes_4 : decode cX5_closes 4 = .ok (.getfield 16, 3) := by decide +kernel
theorem dX5_closes_7 : decode cX5_closes 7 = .ok (.if_icmp .ge 57, 3) := by decide +kernel
theorem dX5_closes_10 : decode cX5_closes 10 = .ok (.aload_n 0, 1) := by decide +kernel
theorem dX5_closes_11 : decode cX5_closes 11 = .ok (.iload_n 1, 1) := by decide +kernel
theorem dX5_closes_12 : decode cX5_closes 12 = .ok (.iload_n 2, 1) := by decide +kernel
theorem dX5_closes_13 : decode cX5_closes 13 = .ok (.invokevirtual 105, 3) := by decide +kernel
theorem dX5_closes_16 : decode cX5_closes 16 = .ok (.iconst 0, 1) := by decide +kernel
theorem dX5_closes_17 : decode cX5_closes 17 = .ok (.istore_n 3, 1) := by decide +kernel
theorem dX5_closes_18 : decode cX5_closes 18 = .ok (.iload_n 3, 1) := by decide +kernel
theorem dX5_closes_19 : decode cX5_closes 19 = .ok (.aload_n 0, 1) := by decide +kernel
theorem dX5_closes_20 : decode cX5_closes 20 = .ok (.getfield 16, 3) := by decide +kernel
theorem dX5_closes_23 : decode cX5_closes 23 = .ok (.if_icmp .ge 35, 3) := by decide +kernel
theorem dX5_closes_26 : decode cX5_closes 26 = .ok (.aload_n 0, 1) := by decide +kernel
theorem dX5_closes_27 : decode cX5_closes 27 = .ok (.getfield 20, 3) := by decide +kernel
theorem dX5_closes_30 : decode cX5_closes 30 = .ok (.bipush 80, 2) := by decide +kernel
theorem dX5_closes_32 : decode cX5_closes 32 = .ok (.iload_n 2, 1) := by decide +kernel
theorem dX5_closes_33 : decode cX5_closes 33 = .ok (.imul, 1) := by decide +kernel
theorem dX5_closes_34 : decode cX5_closes 34 = .ok (.iload_n 3, 1) := by decide +kernel
theorem dX5_closes_35 : decode cX5_closes 35 = .ok (.iadd, 1) := by decide +kernel
theorem dX5_closes_36 : decode cX5_closes 36 = .ok (.aload_n 0, 1) := by decide +kernel
theorem dX5_closes_37 : decode cX5_closes 37 = .ok (.getfield 39, 3) := by decide +kernel
theorem dX5_closes_40 : decode cX5_closes 40 = .ok (.iload_n 3, 1) := by decide +kernel
theorem dX5_closes_41 : decode cX5_closes 41 = .ok (.iaload, 1) := by decide +kernel
theorem dX5_closes_42 : decode cX5_closes 42 = .ok (.iconst (-1), 1) := by decide +kernel
theorem dX5_closes_43 : decode cX5_closes 43 = .ok (.if_icmp .eq 7, 3) := by decide +kernel
theorem dX5_closes_46 : decode cX5_closes 46 = .ok (.iconst 1, 1) := by decide +kernel
theorem dX5_closes_47 : decode cX5_closes 47 = .ok (.goto 4, 3) := by decide +kernel
theorem dX5_closes_50 : decode cX5_closes 50 = .ok (.iconst 0, 1) := by decide +kernel
theorem dX5_closes_51 : decode cX5_closes 51 = .ok (.bastore, 1) := by decide +kernel
theorem dX5_closes_52 : decode cX5_closes 52 = .ok (.iinc 3 1, 3) := by decide +kernel
theorem dX5_closes_55 : decode cX5_closes 55 = .ok (.goto (-37), 3) := by decide +kernel
theorem dX5_closes_58 : decode cX5_closes 58 = .ok (.iinc 2 1, 3) := by decide +kernel
theorem dX5_closes_61 : decode cX5_closes 61 = .ok (.goto (-59), 3) := by decide +kernel
theorem dX5_closes_64 : decode cX5_closes 64 = .ok (.return_, 1) := by decide +kernel
theorem dX5_close_0 : decode cX5_close 0 = .ok (.iload_n 1, 1) := by decide +kernel
theorem dX5_close_1 : decode cX5_close 1 = .ok (.invokestatic 55, 3) := by decide +kernel
theorem dX5_close_4 : decode cX5_close 4 = .ok (.ifCond .ne 9, 3) := by decide +kernel
theorem dX5_close_7 : decode cX5_close 7 = .ok (.aload_n 0, 1) := by decide +kernel
theorem dX5_close_8 : decode cX5_close 8 = .ok (.iconst 1, 1) := by decide +kernel
theorem dX5_close_9 : decode cX5_close 9 = .ok (.invokevirtual 77, 3) := by decide +kernel
theorem dX5_close_12 : decode cX5_close 12 = .ok (.ireturn, 1) := by decide +kernel
theorem dX5_close_13 : decode cX5_close 13 = .ok (.aload_n 0, 1) := by decide +kernel
theorem dX5_close_14 : decode cX5_close 14 = .ok (.iload_n 1, 1) := by decide +kernel
theorem dX5_close_15 : decode cX5_close 15 = .ok (.invokevirtual 108, 3) := by decide +kernel
theorem dX5_close_18 : decode cX5_close 18 = .ok (.iconst 0, 1) := by decide +kernel
theorem dX5_close_19 : decode cX5_close 19 = .ok (.istore_n 3, 1) := by decide +kernel
theorem dX5_close_20 : decode cX5_close 20 = .ok (.iload_n 3, 1) := by decide +kernel
theorem dX5_close_21 : decode cX5_close 21 = .ok (.aload_n 0, 1) := by decide +kernel
theorem dX5_close_22 : decode cX5_close 22 = .ok (.getfield 16, 3) := by decide +kernel
theorem dX5_close_25 : decode cX5_close 25 = .ok (.if_icmp .ge 43, 3) := by decide +kernel
theorem dX5_close_28 : decode cX5_close 28 = .ok (.aload_n 0, 1) := by decide +kernel
theorem dX5_close_29 : decode cX5_close 29 = .ok (.getfield 20, 3) := by decide +kernel
theorem dX5_close_32 : decode cX5_close 32 = .ok (.bipush 80, 2) := by decide +kernel
theorem dX5_close_34 : decode cX5_close 34 = .ok (.iload_n 3, 1) := by decide +kernel
theorem dX5_close_35 : decode cX5_close 35 = .ok (.imul, 1) := by decide +kernel
theorem dX5_close_36 : decode cX5_close 36 = .ok (.iload_n 3, 1) := by decide +kernel
theorem dX5_close_37 : decode cX5_close 37 = .ok (.iadd, 1) := by decide +kernel
theorem dX5_close_38 : decode cX5_close 38 = .ok (.aload_n 0, 1) := by decide +kernel
theorem dX5_close_39 : decode cX5_close 39 = .ok (.getfield 20, 3) := by decide +kernel
theorem dX5_close_42 : decode cX5_close 42 = .ok (.bipush 80, 2) := by decide +kernel
theorem dX5_close_44 : decode cX5_close 44 = .ok (.iload_n 3, 1) := by decide +kernel
theorem dX5_close_45 : decode cX5_close 45 = .ok (.imul, 1) := by decide +kernel
theorem dX5_close_46 : decode cX5_close 46 = .ok (.iload_n 3, 1) := by decide +kernel
theorem dX5_close_47 : decode cX5_close 47 = .ok (.iadd, 1) := by decide +kernel
theorem dX5_close_48 : decode cX5_close 48 = .ok (.baload, 1) := by decide +kernel
theorem dX5_close_49 : decode cX5_close 49 = .ok (.ifCond .ne 7, 3) := by decide +kernel
theorem dX5_close_52 : decode cX5_close 52 = .ok (.iload_n 2, 1) := by decide +kernel
theorem dX5_close_53 : decode cX5_close 53 = .ok (.ifCond .eq 7, 3) := by decide +kernel
theorem dX5_close_56 : decode cX5_close 56 = .ok (.iconst 1, 1) := by decide +kernel
theorem dX5_close_57 : decode cX5_close 57 = .ok (.goto 4, 3) := by decide +kernel
theorem dX5_close_60 : decode cX5_close 60 = .ok (.iconst 0, 1) := by decide +kernel
theorem dX5_close_61 : decode cX5_close 61 = .ok (.bastore, 1) := by decide +kernel
theorem dX5_close_62 : decode cX5_close 62 = .ok (.iinc 3 1, 3) := by decide +kernel
theorem dX5_close_65 : decode cX5_close 65 = .ok (.goto (-45), 3) := by decide +kernel
theorem dX5_close_68 : decode cX5_close 68 = .ok (.aload_n 0, 1) := by decide +kernel
theorem dX5_close_69 : decode cX5_close 69 = .ok (.aload_n 0, 1) := by decide +kernel
theorem dX5_close_70 : decode cX5_close 70 = .ok (.iload_n 1, 1) := by decide +kernel
theorem dX5_close_71 : decode cX5_close 71 = .ok (.invokevirtual 102, 3) := by decide +kernel
theorem dX5_close_74 : decode cX5_close 74 = .ok (.invokevirtual 80, 3) := by decide +kernel
theorem dX5_close_77 : decode cX5_close 77 = .ok (.ireturn, 1) := by decide +kernel
theorem dX5_isRinged_0 : decode cX5_isRinged 0 = .ok (.iconst 0, 1) := by decide +kernel
theorem dX5_isRinged_1 : decode cX5_isRinged 1 = .ok (.istore_n 2, 1) := by decide +kernel
theorem dX5_isRinged_2 : decode cX5_isRinged 2 = .ok (.iconst 0, 1) := by decide +kernel
theorem dX5_isRinged_3 : decode cX5_isRinged 3 = .ok (.istore_n 3, 1) := by decide +kernel
theorem dX5_isRinged_4 : decode cX5_isRinged 4 = .ok (.iload_n 3, 1) := by decide +kernel
theorem dX5_isRinged_5 : decode cX5_isRinged 5 = .ok (.aload_n 0, 1) := by decide +kernel
theorem dX5_isRinged_6 : decode cX5_isRinged 6 = .ok (.getfield 16, 3) := by decide +kernel
theorem dX5_isRinged_9 : decode cX5_isRinged 9 = .ok (.if_icmp .ge 35, 3) := by decide +kernel
theorem dX5_isRinged_12 : decode cX5_isRinged 12 = .ok (.iload_n 2, 1) := by decide +kernel
theorem dX5_isRinged_13 : decode cX5_isRinged 13 = .ok (.ifCond .ne 31, 3) := by decide +kernel
theorem dX5_isRinged_16 : decode cX5_isRinged 16 = .ok (.aload_n 0, 1) := by decide +kernel
theorem dX5_isRinged_17 : decode cX5_isRinged 17 = .ok (.iload_n 1, 1) := by decide +kernel
theorem dX5_isRinged_18 : decode cX5_isRinged 18 = .ok (.iload_n 3, 1) := by decide +kernel
theorem dX5_isRinged_19 : decode cX5_isRinged 19 = .ok (.invokevirtual 105, 3) := by decide +kernel
theorem dX5_isRinged_22 : decode cX5_isRinged 22 = .ok (.aload_n 0, 1) := by decide +kernel
theorem dX5_isRinged_23 : decode cX5_isRinged 23 = .ok (.getfield 39, 3) := by decide +kernel
theorem dX5_isRinged_26 : decode cX5_isRinged 26 = .ok (.iload_n 3, 1) := by decide +kernel
theorem dX5_isRinged_27 : decode cX5_isRinged 27 = .ok (.iaload, 1) := by decide +kernel
theorem dX5_isRinged_28 : decode cX5_isRinged 28 = .ok (.iconst (-1), 1) := by decide +kernel
theorem dX5_isRinged_29 : decode cX5_isRinged 29 = .ok (.if_icmp .eq 7, 3) := by decide +kernel
theorem dX5_isRinged_32 : decode cX5_isRinged 32 = .ok (.iconst 1, 1) := by decide +kernel
theorem dX5_isRinged_33 : decode cX5_isRinged 33 = .ok (.goto 4, 3) := by decide +kernel
theorem dX5_isRinged_36 : decode cX5_isRinged 36 = .ok (.iconst 0, 1) := by decide +kernel
theorem dX5_isRinged_37 : decode cX5_isRinged 37 = .ok (.istore_n 2, 1) := by decide +kernel
theorem dX5_isRinged_38 : decode cX5_isRinged 38 = .ok (.iinc 3 1, 3) := by decide +kernel
theorem dX5_isRinged_41 : decode cX5_isRinged 41 = .ok (.goto (-37), 3) := by decide +kernel
theorem dX5_isRinged_44 : decode cX5_isRinged 44 = .ok (.iload_n 2, 1) := by decide +kernel
theorem dX5_isRinged_45 : decode cX5_isRinged 45 = .ok (.ireturn, 1) := by decide +kernel
theorem dX5_covers_0 : decode cX5_covers 0 = .ok (.iconst 0, 1) := by decide +kernel
theorem dX5_covers_1 : decode cX5_covers 1 = .ok (.istore_n 1, 1) := by decide +kernel
theorem dX5_covers_2 : decode cX5_covers 2 = .ok (.iload_n 1, 1) := by decide +kernel
theorem dX5_covers_3 : decode cX5_covers 3 = .ok (.aload_n 0, 1) := by decide +kernel
theorem dX5_covers_4 : decode cX5_covers 4 = .ok (.getfield 16, 3) := by decide +kernel
theorem dX5_covers_7 : decode cX5_covers 7 = .ok (.if_icmp .ge 107, 3) := by decide +kernel
theorem dX5_covers_10 : decode cX5_covers 10 = .ok (.iconst 0, 1) := by decide +kernel
theorem dX5_covers_11 : decode cX5_covers 11 = .ok (.istore_n 2, 1) := by decide +kernel
theorem dX5_covers_12 : decode cX5_covers 12 = .ok (.iload_n 2, 1) := by decide +kernel
theorem dX5_covers_13 : decode cX5_covers 13 = .ok (.aload_n 0, 1) := by decide +kernel
theorem dX5_covers_14 : decode cX5_covers 14 = .ok (.getfield 16, 3) := by decide +kernel
theorem dX5_covers_17 : decode cX5_covers 17 = .ok (.if_icmp .ge 91, 3) := by decide +kernel
theorem dX5_covers_20 : decode cX5_covers 20 = .ok (.aload_n 0, 1) := by decide +kernel
theorem dX5_covers_21 : decode cX5_covers 21 = .ok (.getfield 20, 3) := by decide +kernel
theorem dX5_covers_24 : decode cX5_covers 24 = .ok (.bipush 80, 2) := by decide +kernel
theorem dX5_covers_26 : decode cX5_covers 26 = .ok (.iload_n 1, 1) := by decide +kernel
theorem dX5_covers_27 : decode cX5_covers 27 = .ok (.imul, 1) := by decide +kernel
theorem dX5_covers_28 : decode cX5_covers 28 = .ok (.iload_n 2, 1) := by decide +kernel
theorem dX5_covers_29 : decode cX5_covers 29 = .ok (.iadd, 1) := by decide +kernel
theorem dX5_covers_30 : decode cX5_covers 30 = .ok (.baload, 1) := by decide +kernel
theorem dX5_covers_31 : decode cX5_covers 31 = .ok (.istore_n 3, 1) := by decide +kernel
theorem dX5_covers_32 : decode cX5_covers 32 = .ok (.iconst 0, 1) := by decide +kernel
theorem dX5_covers_33 : decode cX5_covers 33 = .ok (.istore 4, 2) := by decide +kernel
theorem dX5_covers_35 : decode cX5_covers 35 = .ok (.iload 4, 2) := by decide +kernel
theorem dX5_covers_37 : decode cX5_covers 37 = .ok (.aload_n 0, 1) := by decide +kernel
theorem dX5_covers_38 : decode cX5_covers 38 = .ok (.getfield 16, 3) := by decide +kernel
theorem dX5_covers_41 : decode cX5_covers 41 = .ok (.if_icmp .ge 49, 3) := by decide +kernel
theorem dX5_covers_44 : decode cX5_covers 44 = .ok (.iload_n 3, 1) := by decide +kernel
theorem dX5_covers_45 : decode cX5_covers 45 = .ok (.ifCond .eq 45, 3) := by decide +kernel
theorem dX5_covers_48 : decode cX5_covers 48 = .ok (.aload_n 0, 1) := by decide +kernel
theorem dX5_covers_49 : decode cX5_covers 49 = .ok (.getfield 20, 3) := by decide +kernel
theorem dX5_covers_52 : decode cX5_covers 52 = .ok (.bipush 80, 2) := by decide +kernel
theorem dX5_covers_54 : decode cX5_covers 54 = .ok (.iload_n 1, 1) := by decide +kernel
theorem dX5_covers_55 : decode cX5_covers 55 = .ok (.imul, 1) := by decide +kernel
theorem dX5_covers_56 : decode cX5_covers 56 = .ok (.iload 4, 2) := by decide +kernel
theorem dX5_covers_58 : decode cX5_covers 58 = .ok (.iadd, 1) := by decide +kernel
theorem dX5_covers_59 : decode cX5_covers 59 = .ok (.baload, 1) := by decide +kernel
theorem dX5_covers_60 : decode cX5_covers 60 = .ok (.ifCond .eq 18, 3) := by decide +kernel
theorem dX5_covers_63 : decode cX5_covers 63 = .ok (.aload_n 0, 1) := by decide +kernel
theorem dX5_covers_64 : decode cX5_covers 64 = .ok (.getfield 20, 3) := by decide +kernel
theorem dX5_covers_67 : decode cX5_covers 67 = .ok (.bipush 80, 2) := by decide +kernel
theorem dX5_covers_69 : decode cX5_covers 69 = .ok (.iload 4, 2) := by decide +kernel
theorem dX5_covers_71 : decode cX5_covers 71 = .ok (.imul, 1) := by decide +kernel
theorem dX5_covers_72 : decode cX5_covers 72 = .ok (.iload_n 2, 1) := by decide +kernel
theorem dX5_covers_73 : decode cX5_covers 73 = .ok (.iadd, 1) := by decide +kernel
theorem dX5_covers_74 : decode cX5_covers 74 = .ok (.baload, 1) := by decide +kernel
theorem dX5_covers_75 : decode cX5_covers 75 = .ok (.ifCond .ne 7, 3) := by decide +kernel
theorem dX5_covers_78 : decode cX5_covers 78 = .ok (.iconst 1, 1) := by decide +kernel
theorem dX5_covers_79 : decode cX5_covers 79 = .ok (.goto 4, 3) := by decide +kernel
theorem dX5_covers_82 : decode cX5_covers 82 = .ok (.iconst 0, 1) := by decide +kernel
theorem dX5_covers_83 : decode cX5_covers 83 = .ok (.istore_n 3, 1) := by decide +kernel
theorem dX5_covers_84 : decode cX5_covers 84 = .ok (.iinc 4 1, 3) := by decide +kernel
theorem dX5_covers_87 : decode cX5_covers 87 = .ok (.goto (-52), 3) := by decide +kernel
theorem dX5_covers_90 : decode cX5_covers 90 = .ok (.aload_n 0, 1) := by decide +kernel
theorem dX5_covers_91 : decode cX5_covers 91 = .ok (.getfield 23, 3) := by decide +kernel
theorem dX5_covers_94 : decode cX5_covers 94 = .ok (.bipush 80, 2) := by decide +kernel
theorem dX5_covers_96 : decode cX5_covers 96 = .ok (.iload_n 1, 1) := by decide +kernel
theorem dX5_covers_97 : decode cX5_covers 97 = .ok (.imul, 1) := by decide +kernel
theorem dX5_covers_98 : decode cX5_covers 98 = .ok (.iload_n 2, 1) := by decide +kernel
theorem dX5_covers_99 : decode cX5_covers 99 = .ok (.iadd, 1) := by decide +kernel
theorem dX5_covers_100 : decode cX5_covers 100 = .ok (.iload_n 3, 1) := by decide +kernel
theorem dX5_covers_101 : decode cX5_covers 101 = .ok (.bastore, 1) := by decide +kernel
theorem dX5_covers_102 : decode cX5_covers 102 = .ok (.iinc 2 1, 3) := by decide +kernel
theorem dX5_covers_105 : decode cX5_covers 105 = .ok (.goto (-93), 3) := by decide +kernel
theorem dX5_covers_108 : decode cX5_covers 108 = .ok (.iinc 1 1, 3) := by decide +kernel
theorem dX5_covers_111 : decode cX5_covers 111 = .ok (.goto (-109), 3) := by decide +kernel
theorem dX5_covers_114 : decode cX5_covers 114 = .ok (.return_, 1) := by decide +kernel
theorem dX5_cover_0 : decode cX5_cover 0 = .ok (.iload_n 1, 1) := by decide +kernel
theorem dX5_cover_1 : decode cX5_cover 1 = .ok (.invokestatic 55, 3) := by decide +kernel
theorem dX5_cover_4 : decode cX5_cover 4 = .ok (.ifCond .eq 10, 3) := by decide +kernel
theorem dX5_cover_7 : decode cX5_cover 7 = .ok (.iload_n 2, 1) := by decide +kernel
theorem dX5_cover_8 : decode cX5_cover 8 = .ok (.invokestatic 55, 3) := by decide +kernel
theorem dX5_cover_11 : decode cX5_cover 11 = .ok (.ifCond .ne 9, 3) := by decide +kernel
theorem dX5_cover_14 : decode cX5_cover 14 = .ok (.aload_n 0, 1) := by decide +kernel
theorem dX5_cover_15 : decode cX5_cover 15 = .ok (.iconst 1, 1) := by decide +kernel
theorem dX5_cover_16 : decode cX5_cover 16 = .ok (.invokevirtual 77, 3) := by decide +kernel
theorem dX5_cover_19 : decode cX5_cover 19 = .ok (.ireturn, 1) := by decide +kernel
theorem dX5_cover_20 : decode cX5_cover 20 = .ok (.aload_n 0, 1) := by decide +kernel
theorem dX5_cover_21 : decode cX5_cover 21 = .ok (.iload_n 1, 1) := by decide +kernel
theorem dX5_cover_22 : decode cX5_cover 22 = .ok (.invokevirtual 112, 3) := by decide +kernel
theorem dX5_cover_25 : decode cX5_cover 25 = .ok (.ifCond .eq 9, 3) := by decide +kernel
theorem dX5_cover_28 : decode cX5_cover 28 = .ok (.aload_n 0, 1) := by decide +kernel
theorem dX5_cover_29 : decode cX5_cover 29 = .ok (.iconst 2, 1) := by decide +kernel
theorem dX5_cover_30 : decode cX5_cover 30 = .ok (.invokevirtual 77, 3) := by decide +kernel
theorem dX5_cover_33 : decode cX5_cover 33 = .ok (.ireturn, 1) := by decide +kernel
theorem dX5_cover_34 : decode cX5_cover 34 = .ok (.aload_n 0, 1) := by decide +kernel
theorem dX5_cover_35 : decode cX5_cover 35 = .ok (.iload_n 1, 1) := by decide +kernel
theorem dX5_cover_36 : decode cX5_cover 36 = .ok (.invokevirtual 108, 3) := by decide +kernel
theorem dX5_cover_39 : decode cX5_cover 39 = .ok (.aload_n 0, 1) := by decide +kernel
theorem dX5_cover_40 : decode cX5_cover 40 = .ok (.invokevirtual 115, 3) := by decide +kernel
theorem dX5_cover_43 : decode cX5_cover 43 = .ok (.iconst 0, 1) := by decide +kernel
theorem dX5_cover_44 : decode cX5_cover 44 = .ok (.istore_n 3, 1) := by decide +kernel
theorem dX5_cover_45 : decode cX5_cover 45 = .ok (.iload_n 3, 1) := by decide +kernel
theorem dX5_cover_46 : decode cX5_cover 46 = .ok (.sipush 6400, 3) := by decide +kernel
theorem dX5_cover_49 : decode cX5_cover 49 = .ok (.if_icmp .ge 21, 3) := by decide +kernel
theorem dX5_cover_52 : decode cX5_cover 52 = .ok (.aload_n 0, 1) := by decide +kernel
theorem dX5_cover_53 : decode cX5_cover 53 = .ok (.getfield 20, 3) := by decide +kernel
theorem dX5_cover_56 : decode cX5_cover 56 = .ok (.iload_n 3, 1) := by decide +kernel
theorem dX5_cover_57 : decode cX5_cover 57 = .ok (.aload_n 0, 1) := by decide +kernel
theorem dX5_cover_58 : decode cX5_cover 58 = .ok (.getfield 23, 3) := by decide +kernel
theorem dX5_cover_61 : decode cX5_cover 61 = .ok (.iload_n 3, 1) := by decide +kernel
theorem dX5_cover_62 : decode cX5_cover 62 = .ok (.baload, 1) := by decide +kernel
theorem dX5_cover_63 : decode cX5_cover 63 = .ok (.bastore, 1) := by decide +kernel
theorem dX5_cover_64 : decode cX5_cover 64 = .ok (.iinc 3 1, 3) := by decide +kernel
theorem dX5_cover_67 : decode cX5_cover 67 = .ok (.goto (-22), 3) := by decide +kernel
theorem dX5_cover_70 : decode cX5_cover 70 = .ok (.aload_n 0, 1) := by decide +kernel
theorem dX5_cover_71 : decode cX5_cover 71 = .ok (.aload_n 0, 1) := by decide +kernel
theorem dX5_cover_72 : decode cX5_cover 72 = .ok (.iload_n 2, 1) := by decide +kernel
theorem dX5_cover_73 : decode cX5_cover 73 = .ok (.invokevirtual 102, 3) := by decide +kernel
theorem dX5_cover_76 : decode cX5_cover 76 = .ok (.invokevirtual 80, 3) := by decide +kernel
theorem dX5_cover_79 : decode cX5_cover 79 = .ok (.ireturn, 1) := by decide +kernel
theorem dX5_has_0 : decode cX5_has 0 = .ok (.aload_n 0, 1) := by decide +kernel
theorem dX5_has_1 : decode cX5_has 1 = .ok (.iload_n 1, 1) := by decide +kernel
theorem dX5_has_2 : decode cX5_has 2 = .ok (.iload_n 2, 1) := by decide +kernel
theorem dX5_has_3 : decode cX5_has 3 = .ok (.invokevirtual 83, 3) := by decide +kernel
theorem dX5_has_6 : decode cX5_has 6 = .ok (.ifCond .eq 25, 3) := by decide +kernel
theorem dX5_has_9 : decode cX5_has 9 = .ok (.aload_n 0, 1) := by decide +kernel
theorem dX5_has_10 : decode cX5_has 10 = .ok (.iload_n 3, 1) := by decide +kernel
theorem dX5_has_11 : decode cX5_has 11 = .ok (.invokevirtual 59, 3) := by decide +kernel
theorem dX5_has_14 : decode cX5_has 14 = .ok (.ifCond .eq 17, 3) := by decide +kernel
theorem dX5_has_17 : decode cX5_has 17 = .ok (.aload_n 0, 1) := by decide +kernel
theorem dX5_has_18 : decode cX5_has 18 = .ok (.aload_n 0, 1) := by decide +kernel
theorem dX5_has_19 : decode cX5_has 19 = .ok (.iload_n 1, 1) := by decide +kernel
theorem dX5_has_20 : decode cX5_has 20 = .ok (.iload_n 2, 1) := by decide +kernel
theorem dX5_has_21 : decode cX5_has 21 = .ok (.iload_n 3, 1) := by decide +kernel
theorem dX5_has_22 : decode cX5_has 22 = .ok (.invokevirtual 66, 3) := by decide +kernel
theorem dX5_has_25 : decode cX5_has 25 = .ok (.invokevirtual 90, 3) := by decide +kernel
theorem dX5_has_28 : decode cX5_has 28 = .ok (.goto 8, 3) := by decide +kernel
theorem dX5_has_31 : decode cX5_has 31 = .ok (.aload_n 0, 1) := by decide +kernel
theorem dX5_has_32 : decode cX5_has 32 = .ok (.iconst 1, 1) := by decide +kernel
theorem dX5_has_33 : decode cX5_has 33 = .ok (.invokevirtual 87, 3) := by decide +kernel
theorem dX5_has_36 : decode cX5_has 36 = .ok (.ireturn, 1) := by decide +kernel
theorem dX5_count_0 : decode cX5_count 0 = .ok (.iload_n 1, 1) := by decide +kernel
theorem dX5_count_1 : decode cX5_count 1 = .ok (.invokestatic 55, 3) := by decide +kernel
theorem dX5_count_4 : decode cX5_count 4 = .ok (.ifCond .eq 15, 3) := by decide +kernel
theorem dX5_count_7 : decode cX5_count 7 = .ok (.aload_n 0, 1) := by decide +kernel
theorem dX5_count_8 : decode cX5_count 8 = .ok (.aload_n 0, 1) := by decide +kernel
theorem dX5_count_9 : decode cX5_count 9 = .ok (.iload_n 1, 1) := by decide +kernel
theorem dX5_count_10 : decode cX5_count 10 = .ok (.invokevirtual 73, 3) := by decide +kernel
theorem dX5_count_13 : decode cX5_count 13 = .ok (.invokevirtual 80, 3) := by decide +kernel
theorem dX5_count_16 : decode cX5_count 16 = .ok (.goto 8, 3) := by decide +kernel
theorem dX5_count_19 : decode cX5_count 19 = .ok (.aload_n 0, 1) := by decide +kernel
theorem dX5_count_20 : decode cX5_count 20 = .ok (.iconst 1, 1) := by decide +kernel
theorem dX5_count_21 : decode cX5_count 21 = .ok (.invokevirtual 77, 3) := by decide +kernel
theorem dX5_count_24 : decode cX5_count 24 = .ok (.ireturn, 1) := by decide +kernel
theorem dX5_countOf_0 : decode cX5_countOf 0 = .ok (.aload_n 0, 1) := by decide +kernel
theorem dX5_countOf_1 : decode cX5_countOf 1 = .ok (.iload_n 1, 1) := by decide +kernel
theorem dX5_countOf_2 : decode cX5_countOf 2 = .ok (.iload_n 2, 1) := by decide +kernel
theorem dX5_countOf_3 : decode cX5_countOf 3 = .ok (.invokevirtual 83, 3) := by decide +kernel
theorem dX5_countOf_6 : decode cX5_countOf 6 = .ok (.ifCond .eq 16, 3) := by decide +kernel
theorem dX5_countOf_9 : decode cX5_countOf 9 = .ok (.aload_n 0, 1) := by decide +kernel
theorem dX5_countOf_10 : decode cX5_countOf 10 = .ok (.aload_n 0, 1) := by decide +kernel
theorem dX5_countOf_11 : decode cX5_countOf 11 = .ok (.iload_n 1, 1) := by decide +kernel
theorem dX5_countOf_12 : decode cX5_countOf 12 = .ok (.iload_n 2, 1) := by decide +kernel
theorem dX5_countOf_13 : decode cX5_countOf 13 = .ok (.invokevirtual 69, 3) := by decide +kernel
theorem dX5_countOf_16 : decode cX5_countOf 16 = .ok (.invokevirtual 80, 3) := by decide +kernel
theorem dX5_countOf_19 : decode cX5_countOf 19 = .ok (.goto 8, 3) := by decide +kernel
theorem dX5_countOf_22 : decode cX5_countOf 22 = .ok (.aload_n 0, 1) := by decide +kernel
theorem dX5_countOf_23 : decode cX5_countOf 23 = .ok (.iconst 1, 1) := by decide +kernel
theorem dX5_countOf_24 : decode cX5_countOf 24 = .ok (.invokevirtual 77, 3) := by decide +kernel
theorem dX5_countOf_27 : decode cX5_countOf 27 = .ok (.ireturn, 1) := by decide +kernel
theorem dX5_beside_0 : decode cX5_beside 0 = .ok (.aload_n 0, 1) := by decide +kernel
theorem dX5_beside_1 : decode cX5_beside 1 = .ok (.iload_n 1, 1) := by decide +kernel
theorem dX5_beside_2 : decode cX5_beside 2 = .ok (.iload_n 2, 1) := by decide +kernel
theorem dX5_beside_3 : decode cX5_beside 3 = .ok (.invokevirtual 83, 3) := by decide +kernel
theorem dX5_beside_6 : decode cX5_beside 6 = .ok (.ifCond .eq 11, 3) := by decide +kernel
theorem dX5_beside_9 : decode cX5_beside 9 = .ok (.aload_n 0, 1) := by decide +kernel
theorem dX5_beside_10 : decode cX5_beside 10 = .ok (.iload_n 3, 1) := by decide +kernel
theorem dX5_beside_11 : decode cX5_beside 11 = .ok (.invokevirtual 59, 3) := by decide +kernel
theorem dX5_beside_14 : decode cX5_beside 14 = .ok (.ifCond .ne 9, 3) := by decide +kernel
theorem dX5_beside_17 : decode cX5_beside 17 = .ok (.aload_n 0, 1) := by decide +kernel
theorem dX5_beside_18 : decode cX5_beside 18 = .ok (.iconst 1, 1) := by decide +kernel
theorem dX5_beside_19 : decode cX5_beside 19 = .ok (.invokevirtual 77, 3) := by decide +kernel
theorem dX5_beside_22 : decode cX5_beside 22 = .ok (.ireturn, 1) := by decide +kernel
theorem dX5_beside_23 : decode cX5_beside 23 = .ok (.iload 4, 2) := by decide +kernel
theorem dX5_beside_25 : decode cX5_beside 25 = .ok (.iconst 0, 1) := by decide +kernel
theorem dX5_beside_26 : decode cX5_beside 26 = .ok (.iconst 3, 1) := by decide +kernel
theorem dX5_beside_27 : decode cX5_beside 27 = .ok (.invokestatic 51, 3) := by decide +kernel
theorem dX5_beside_30 : decode cX5_beside 30 = .ok (.ifCond .ne 9, 3) := by decide +kernel
theorem dX5_beside_33 : decode cX5_beside 33 = .ok (.aload_n 0, 1) := by decide +kernel
theorem dX5_beside_34 : decode cX5_beside 34 = .ok (.iconst 2, 1) := by decide +kernel
theorem dX5_beside_35 : decode cX5_beside 35 = .ok (.invokevirtual 77, 3) := by decide +kernel
theorem dX5_beside_38 : decode cX5_beside 38 = .ok (.ireturn, 1) := by decide +kernel
theorem dX5_beside_39 : decode cX5_beside 39 = .ok (.iload 4, 2) := by decide +kernel
theorem dX5_beside_41 : decode cX5_beside 41 = .ok (.ifCond .eq 9, 3) := by decide +kernel
theorem dX5_beside_44 : decode cX5_beside 44 = .ok (.iload 4, 2) := by decide +kernel
theorem dX5_beside_46 : decode cX5_beside 46 = .ok (.iconst 2, 1) := by decide +kernel
theorem dX5_beside_47 : decode cX5_beside 47 = .ok (.if_icmp .ne 7, 3) := by decide +kernel
theorem dX5_beside_50 : decode cX5_beside 50 = .ok (.iconst 1, 1) := by decide +kernel
theorem dX5_beside_51 : decode cX5_beside 51 = .ok (.goto 4, 3) := by decide +kernel
theorem dX5_beside_54 : decode cX5_beside 54 = .ok (.iconst 0, 1) := by decide +kernel
theorem dX5_beside_55 : decode cX5_beside 55 = .ok (.istore 5, 2) := by decide +kernel
theorem dX5_beside_57 : decode cX5_beside 57 = .ok (.iload_n 3, 1) := by decide +kernel
theorem dX5_beside_58 : decode cX5_beside 58 = .ok (.istore 6, 2) := by decide +kernel
theorem dX5_beside_60 : decode cX5_beside 60 = .ok (.aload_n 0, 1) := by decide +kernel
theorem dX5_beside_61 : decode cX5_beside 61 = .ok (.iload 6, 2) := by decide +kernel
theorem dX5_beside_63 : decode cX5_beside 63 = .ok (.invokevirtual 59, 3) := by decide +kernel
theorem dX5_beside_66 : decode cX5_beside 66 = .ok (.ifCond .eq 35, 3) := by decide +kernel
theorem dX5_beside_69 : decode cX5_beside 69 = .ok (.aload_n 0, 1) := by decide +kernel
theorem dX5_beside_70 : decode cX5_beside 70 = .ok (.iload_n 1, 1) := by decide +kernel
theorem dX5_beside_71 : decode cX5_beside 71 = .ok (.iload_n 2, 1) := by decide +kernel
theorem dX5_beside_72 : decode cX5_beside 72 = .ok (.iload 6, 2) := by decide +kernel
theorem dX5_beside_74 : decode cX5_beside 74 = .ok (.invokevirtual 66, 3) := by decide +kernel
theorem dX5_beside_77 : decode cX5_beside 77 = .ok (.iload 5, 2) := by decide +kernel
theorem dX5_beside_79 : decode cX5_beside 79 = .ok (.if_icmp .eq 22, 3) := by decide +kernel
theorem dX5_beside_82 : decode cX5_beside 82 = .ok (.iload 6, 2) := by decide +kernel
theorem dX5_beside_84 : decode cX5_beside 84 = .ok (.iload 4, 2) := by decide +kernel
theorem dX5_beside_86 : decode cX5_beside 86 = .ok (.iconst 2, 1) := by decide +kernel
theorem dX5_beside_87 : decode cX5_beside 87 = .ok (.if_icmp .ge 7, 3) := by decide +kernel
theorem dX5_beside_90 : decode cX5_beside 90 = .ok (.iconst 1, 1) := by decide +kernel
theorem dX5_beside_91 : decode cX5_beside 91 = .ok (.goto 4, 3) := by decide +kernel
theorem dX5_beside_94 : decode cX5_beside 94 = .ok (.iconst (-1), 1) := by decide +kernel
theorem dX5_beside_95 : decode cX5_beside 95 = .ok (.iadd, 1) := by decide +kernel
theorem dX5_beside_96 : decode cX5_beside 96 = .ok (.istore 6, 2) := by decide +kernel
theorem dX5_beside_98 : decode cX5_beside 98 = .ok (.goto (-38), 3) := by decide +kernel
theorem dX5_beside_101 : decode cX5_beside 101 = .ok (.aload_n 0, 1) := by decide +kernel
theorem dX5_beside_102 : decode cX5_beside 102 = .ok (.aload_n 0, 1) := by decide +kernel
theorem dX5_beside_103 : decode cX5_beside 103 = .ok (.iload 6, 2) := by decide +kernel
theorem dX5_beside_105 : decode cX5_beside 105 = .ok (.invokevirtual 59, 3) := by decide +kernel
theorem dX5_beside_108 : decode cX5_beside 108 = .ok (.ifCond .eq 8, 3) := by decide +kernel
theorem dX5_beside_111 : decode cX5_beside 111 = .ok (.iload 6, 2) := by decide +kernel
theorem dX5_beside_113 : decode cX5_beside 113 = .ok (.goto 4, 3) := by decide +kernel
theorem dX5_beside_116 : decode cX5_beside 116 = .ok (.iconst (-1), 1) := by decide +kernel
theorem dX5_beside_117 : decode cX5_beside 117 = .ok (.invokevirtual 80, 3) := by decide +kernel
theorem dX5_beside_120 : decode cX5_beside 120 = .ok (.ireturn, 1) := by decide +kernel
theorem dX5_wordOf_0 : decode cX5_wordOf 0 = .ok (.aload_n 0, 1) := by decide +kernel
theorem dX5_wordOf_1 : decode cX5_wordOf 1 = .ok (.aload_n 0, 1) := by decide +kernel
theorem dX5_wordOf_2 : decode cX5_wordOf 2 = .ok (.iload_n 1, 1) := by decide +kernel
theorem dX5_wordOf_3 : decode cX5_wordOf 3 = .ok (.iload_n 2, 1) := by decide +kernel
theorem dX5_wordOf_4 : decode cX5_wordOf 4 = .ok (.invokevirtual 83, 3) := by decide +kernel
theorem dX5_wordOf_7 : decode cX5_wordOf 7 = .ok (.ifCond .ne 7, 3) := by decide +kernel
theorem dX5_wordOf_10 : decode cX5_wordOf 10 = .ok (.iconst 1, 1) := by decide +kernel
theorem dX5_wordOf_11 : decode cX5_wordOf 11 = .ok (.goto 17, 3) := by decide +kernel
theorem dX5_wordOf_14 : decode cX5_wordOf 14 = .ok (.iload_n 3, 1) := by decide +kernel
theorem dX5_wordOf_15 : decode cX5_wordOf 15 = .ok (.iconst 0, 1) := by decide +kernel
theorem dX5_wordOf_16 : decode cX5_wordOf 16 = .ok (.iconst 1, 1) := by decide +kernel
theorem dX5_wordOf_17 : decode cX5_wordOf 17 = .ok (.invokestatic 51, 3) := by decide +kernel
theorem dX5_wordOf_20 : decode cX5_wordOf 20 = .ok (.ifCond .ne 7, 3) := by decide +kernel
theorem dX5_wordOf_23 : decode cX5_wordOf 23 = .ok (.iconst 2, 1) := by decide +kernel
theorem dX5_wordOf_24 : decode cX5_wordOf 24 = .ok (.goto 4, 3) := by decide +kernel
theorem dX5_wordOf_27 : decode cX5_wordOf 27 = .ok (.iconst 0, 1) := by decide +kernel
theorem dX5_wordOf_28 : decode cX5_wordOf 28 = .ok (.putfield 48, 3) := by decide +kernel
theorem dX5_wordOf_31 : decode cX5_wordOf 31 = .ok (.lconst 0, 1) := by decide +kernel
theorem dX5_wordOf_32 : decode cX5_wordOf 32 = .ok (.lstore 4, 2) := by decide +kernel
theorem dX5_wordOf_34 : decode cX5_wordOf 34 = .ok (.iconst 0, 1) := by decide +kernel
theorem dX5_wordOf_35 : decode cX5_wordOf 35 = .ok (.istore 6, 2) := by decide +kernel
theorem dX5_wordOf_37 : decode cX5_wordOf 37 = .ok (.aload_n 0, 1) := by decide +kernel
theorem dX5_wordOf_38 : decode cX5_wordOf 38 = .ok (.getfield 48, 3) := by decide +kernel
theorem dX5_wordOf_41 : decode cX5_wordOf 41 = .ok (.ifCond .ne 54, 3) := by decide +kernel
theorem dX5_wordOf_44 : decode cX5_wordOf 44 = .ok (.iload 6, 2) := by decide +kernel
theorem dX5_wordOf_46 : decode cX5_wordOf 46 = .ok (.bipush 64, 2) := by decide +kernel
theorem dX5_wordOf_48 : decode cX5_wordOf 48 = .ok (.if_icmp .ge 47, 3) := by decide +kernel
theorem dX5_wordOf_51 : decode cX5_wordOf 51 = .ok (.bipush 64, 2) := by decide +kernel
theorem dX5_wordOf_53 : decode cX5_wordOf 53 = .ok (.iload_n 3, 1) := by decide +kernel
theorem dX5_wordOf_54 : decode cX5_wordOf 54 = .ok (.imul, 1) := by decide +kernel
theorem dX5_wordOf_55 : decode cX5_wordOf 55 = .ok (.iload 6, 2) := by decide +kernel
theorem dX5_wordOf_57 : decode cX5_wordOf 57 = .ok (.iadd, 1) := by decide +kernel
theorem dX5_wordOf_58 : decode cX5_wordOf 58 = .ok (.istore 7, 2) := by decide +kernel
theorem dX5_wordOf_60 : decode cX5_wordOf 60 = .ok (.aload_n 0, 1) := by decide +kernel
theorem dX5_wordOf_61 : decode cX5_wordOf 61 = .ok (.iload 7, 2) := by decide +kernel
theorem dX5_wordOf_63 : decode cX5_wordOf 63 = .ok (.invokevirtual 59, 3) := by decide +kernel
theorem dX5_wordOf_66 : decode cX5_wordOf 66 = .ok (.ifCond .eq 23, 3) := by decide +kernel
theorem dX5_wordOf_69 : decode cX5_wordOf 69 = .ok (.aload_n 0, 1) := by decide +kernel
theorem dX5_wordOf_70 : decode cX5_wordOf 70 = .ok (.iload_n 1, 1) := by decide +kernel
theorem dX5_wordOf_71 : decode cX5_wordOf 71 = .ok (.iload_n 2, 1) := by decide +kernel
theorem dX5_wordOf_72 : decode cX5_wordOf 72 = .ok (.iload 7, 2) := by decide +kernel
theorem dX5_wordOf_74 : decode cX5_wordOf 74 = .ok (.invokevirtual 66, 3) := by decide +kernel
theorem dX5_wordOf_77 : decode cX5_wordOf 77 = .ok (.ifCond .eq 12, 3) := by decide +kernel
theorem dX5_wordOf_80 : decode cX5_wordOf 80 = .ok (.lload 4, 2) := by decide +kernel
theorem dX5_wordOf_82 : decode cX5_wordOf 82 = .ok (.lconst 1, 1) := by decide +kernel
theorem dX5_wordOf_83 : decode cX5_wordOf 83 = .ok (.iload 6, 2) := by decide +kernel
theorem dX5_wordOf_85 : decode cX5_wordOf 85 = .ok (.lshl, 1) := by decide +kernel
theorem dX5_wordOf_86 : decode cX5_wordOf 86 = .ok (.lor, 1) := by decide +kernel
theorem dX5_wordOf_87 : decode cX5_wordOf 87 = .ok (.lstore 4, 2) := by decide +kernel
theorem dX5_wordOf_89 : decode cX5_wordOf 89 = .ok (.iinc 6 1, 3) := by decide +kernel
theorem dX5_wordOf_92 : decode cX5_wordOf 92 = .ok (.goto (-55), 3) := by decide +kernel
theorem dX5_wordOf_95 : decode cX5_wordOf 95 = .ok (.lload 4, 2) := by decide +kernel
theorem dX5_wordOf_97 : decode cX5_wordOf 97 = .ok (.lreturn, 1) := by decide +kernel
theorem dX5_meet_0 : decode cX5_meet 0 = .ok (.aload_n 0, 1) := by decide +kernel
theorem dX5_meet_1 : decode cX5_meet 1 = .ok (.iload_n 1, 1) := by decide +kernel
theorem dX5_meet_2 : decode cX5_meet 2 = .ok (.iload_n 2, 1) := by decide +kernel
theorem dX5_meet_3 : decode cX5_meet 3 = .ok (.invokevirtual 83, 3) := by decide +kernel
theorem dX5_meet_6 : decode cX5_meet 6 = .ok (.ifCond .eq 13, 3) := by decide +kernel
theorem dX5_meet_9 : decode cX5_meet 9 = .ok (.aload_n 0, 1) := by decide +kernel
theorem dX5_meet_10 : decode cX5_meet 10 = .ok (.iload_n 3, 1) := by decide +kernel
theorem dX5_meet_11 : decode cX5_meet 11 = .ok (.iload 4, 2) := by decide +kernel
theorem dX5_meet_13 : decode cX5_meet 13 = .ok (.invokevirtual 83, 3) := by decide +kernel
theorem dX5_meet_16 : decode cX5_meet 16 = .ok (.ifCond .ne 9, 3) := by decide +kernel
theorem dX5_meet_19 : decode cX5_meet 19 = .ok (.aload_n 0, 1) := by decide +kernel
theorem dX5_meet_20 : decode cX5_meet 20 = .ok (.iconst 1, 1) := by decide +kernel
theorem dX5_meet_21 : decode cX5_meet 21 = .ok (.invokevirtual 87, 3) := by decide +kernel
theorem dX5_meet_24 : decode cX5_meet 24 = .ok (.ireturn, 1) := by decide +kernel
theorem dX5_meet_25 : decode cX5_meet 25 = .ok (.iconst 0, 1) := by decide +kernel
theorem dX5_meet_26 : decode cX5_meet 26 = .ok (.istore 5, 2) := by decide +kernel
theorem dX5_meet_28 : decode cX5_meet 28 = .ok (.iconst 0, 1) := by decide +kernel
theorem dX5_meet_29 : decode cX5_meet 29 = .ok (.istore 6, 2) := by decide +kernel
theorem dX5_meet_31 : decode cX5_meet 31 = .ok (.iload 6, 2) := by decide +kernel
theorem dX5_meet_33 : decode cX5_meet 33 = .ok (.aload_n 0, 1) := by decide +kernel
theorem dX5_meet_34 : decode cX5_meet 34 = .ok (.getfield 16, 3) := by decide +kernel
theorem dX5_meet_37 : decode cX5_meet 37 = .ok (.if_icmp .ge 44, 3) := by decide +kernel
theorem dX5_meet_40 : decode cX5_meet 40 = .ok (.iload 5, 2) := by decide +kernel
theorem dX5_meet_42 : decode cX5_meet 42 = .ok (.ifCond .ne 26, 3) := by decide +kernel
theorem dX5_meet_45 : decode cX5_meet 45 = .ok (.aload_n 0, 1) := by decide +kernel
theorem dX5_meet_46 : decode cX5_meet 46 = .ok (.iload_n 1, 1) := by decide +kernel
theorem dX5_meet_47 : decode cX5_meet 47 = .ok (.iload_n 2, 1) := by decide +kernel
theorem dX5_meet_48 : decode cX5_meet 48 = .ok (.iload 6, 2) := by decide +kernel
theorem dX5_meet_50 : decode cX5_meet 50 = .ok (.invokevirtual 66, 3) := by decide +kernel
theorem dX5_meet_53 : decode cX5_meet 53 = .ok (.ifCond .eq 19, 3) := by decide +kernel
theorem dX5_meet_56 : decode cX5_meet 56 = .ok (.aload_n 0, 1) := by decide +kernel
theorem dX5_meet_57 : decode cX5_meet 57 = .ok (.iload_n 3, 1) := by decide +kernel
theorem dX5_meet_58 : decode cX5_meet 58 = .ok (.iload 4, 2) := by decide +kernel
theorem dX5_meet_60 : decode cX5_meet 60 = .ok (.iload 6, 2) := by decide +kernel
theorem dX5_meet_62 : decode cX5_meet 62 = .ok (.invokevirtual 66, 3) := by decide +kernel
theorem dX5_meet_65 : decode cX5_meet 65 = .ok (.ifCond .eq 7, 3) := by decide +kernel
theorem dX5_meet_68 : decode cX5_meet 68 = .ok (.iconst 1, 1) := by decide +kernel
theorem dX5_meet_69 : decode cX5_meet 69 = .ok (.goto 4, 3) := by decide +kernel
theorem dX5_meet_72 : decode cX5_meet 72 = .ok (.iconst 0, 1) := by decide +kernel
theorem dX5_meet_73 : decode cX5_meet 73 = .ok (.istore 5, 2) := by decide +kernel
theorem dX5_meet_75 : decode cX5_meet 75 = .ok (.iinc 6 1, 3) := by decide +kernel
theorem dX5_meet_78 : decode cX5_meet 78 = .ok (.goto (-47), 3) := by decide +kernel
theorem dX5_meet_81 : decode cX5_meet 81 = .ok (.aload_n 0, 1) := by decide +kernel
theorem dX5_meet_82 : decode cX5_meet 82 = .ok (.iload 5, 2) := by decide +kernel
theorem dX5_meet_84 : decode cX5_meet 84 = .ok (.invokevirtual 90, 3) := by decide +kernel
theorem dX5_meet_87 : decode cX5_meet 87 = .ok (.ireturn, 1) := by decide +kernel
theorem dX5_compare_0 : decode cX5_compare 0 = .ok (.iload_n 1, 1) := by decide +kernel
theorem dX5_compare_1 : decode cX5_compare 1 = .ok (.invokestatic 55, 3) := by decide +kernel
theorem dX5_compare_4 : decode cX5_compare 4 = .ok (.ifCond .eq 10, 3) := by decide +kernel
theorem dX5_compare_7 : decode cX5_compare 7 = .ok (.iload_n 2, 1) := by decide +kernel
theorem dX5_compare_8 : decode cX5_compare 8 = .ok (.invokestatic 55, 3) := by decide +kernel
theorem dX5_compare_11 : decode cX5_compare 11 = .ok (.ifCond .ne 9, 3) := by decide +kernel
theorem dX5_compare_14 : decode cX5_compare 14 = .ok (.aload_n 0, 1) := by decide +kernel
theorem dX5_compare_15 : decode cX5_compare 15 = .ok (.iconst 1, 1) := by decide +kernel
theorem dX5_compare_16 : decode cX5_compare 16 = .ok (.invokevirtual 77, 3) := by decide +kernel
theorem dX5_compare_19 : decode cX5_compare 19 = .ok (.ireturn, 1) := by decide +kernel
theorem dX5_compare_20 : decode cX5_compare 20 = .ok (.iconst 0, 1) := by decide +kernel
theorem dX5_compare_21 : decode cX5_compare 21 = .ok (.istore_n 3, 1) := by decide +kernel
theorem dX5_compare_22 : decode cX5_compare 22 = .ok (.iconst 0, 1) := by decide +kernel
theorem dX5_compare_23 : decode cX5_compare 23 = .ok (.istore 4, 2) := by decide +kernel
theorem dX5_compare_25 : decode cX5_compare 25 = .ok (.iconst 0, 1) := by decide +kernel
theorem dX5_compare_26 : decode cX5_compare 26 = .ok (.istore 5, 2) := by decide +kernel
theorem dX5_compare_28 : decode cX5_compare 28 = .ok (.iload 5, 2) := by decide +kernel
theorem dX5_compare_30 : decode cX5_compare 30 = .ok (.sipush 6400, 3) := by decide +kernel
theorem dX5_compare_33 : decode cX5_compare 33 = .ok (.if_icmp .ge 95, 3) := by decide +kernel
theorem dX5_compare_36 : decode cX5_compare 36 = .ok (.iload_n 3, 1) := by decide +kernel
theorem dX5_compare_37 : decode cX5_compare 37 = .ok (.ifCond .ne 35, 3) := by decide +kernel
theorem dX5_compare_40 : decode cX5_compare 40 = .ok (.aload_n 0, 1) := by decide +kernel
theorem dX5_compare_41 : decode cX5_compare 41 = .ok (.getfield 7, 3) := by decide +kernel
theorem dX5_compare_44 : decode cX5_compare 44 = .ok (.sipush 6400, 3) := by decide +kernel
theorem dX5_compare_47 : decode cX5_compare 47 = .ok (.iload_n 1, 1) := by decide +kernel
theorem dX5_compare_48 : decode cX5_compare 48 = .ok (.imul, 1) := by decide +kernel
theorem dX5_compare_49 : decode cX5_compare 49 = .ok (.iload 5, 2) := by decide +kernel
theorem dX5_compare_51 : decode cX5_compare 51 = .ok (.iadd, 1) := by decide +kernel
theorem dX5_compare_52 : decode cX5_compare 52 = .ok (.baload, 1) := by decide +kernel
theorem dX5_compare_53 : decode cX5_compare 53 = .ok (.ifCond .eq 23, 3) := by decide +kernel
theorem dX5_compare_56 : decode cX5_compare 56 = .ok (.aload_n 0, 1) := by decide +kernel
theorem dX5_compare_57 : decode cX5_compare 57 = .ok (.getfield 7, 3) := by decide +kernel
theorem dX5_compare_60 : decode cX5_compare 60 = .ok (.sipush 6400, 3) := by decide +kernel
theorem dX5_compare_63 : decode cX5_compare 63 = .ok (.iload_n 2, 1) := by decide +kernel
theorem dX5_compare_64 : decode cX5_compare 64 = .ok (.imul, 1) := by decide +kernel
theorem dX5_compare_65 : decode cX5_compare 65 = .ok (.iload 5, 2) := by decide +kernel
theorem dX5_compare_67 : decode cX5_compare 67 = .ok (.iadd, 1) := by decide +kernel
theorem dX5_compare_68 : decode cX5_compare 68 = .ok (.baload, 1) := by decide +kernel
theorem dX5_compare_69 : decode cX5_compare 69 = .ok (.ifCond .ne 7, 3) := by decide +kernel
theorem dX5_compare_72 : decode cX5_compare 72 = .ok (.iconst 1, 1) := by decide +kernel
theorem dX5_compare_73 : decode cX5_compare 73 = .ok (.goto 4, 3) := by decide +kernel
theorem dX5_compare_76 : decode cX5_compare 76 = .ok (.iconst 0, 1) := by decide +kernel
theorem dX5_compare_77 : decode cX5_compare 77 = .ok (.istore_n 3, 1) := by decide +kernel
theorem dX5_compare_78 : decode cX5_compare 78 = .ok (.iload 4, 2) := by decide +kernel
theorem dX5_compare_80 : decode cX5_compare 80 = .ok (.ifCond .ne 35, 3) := by decide +kernel
theorem dX5_compare_83 : decode cX5_compare 83 = .ok (.aload_n 0, 1) := by decide +kernel
theorem dX5_compare_84 : decode cX5_compare 84 = .ok (.getfield 7, 3) := by decide +kernel
theorem dX5_compare_87 : decode cX5_compare 87 = .ok (.sipush 6400, 3) := by decide +kernel
theorem dX5_compare_90 : decode cX5_compare 90 = .ok (.iload_n 1, 1) := by decide +kernel
theorem dX5_compare_91 : decode cX5_compare 91 = .ok (.imul, 1) := by decide +kernel
theorem dX5_compare_92 : decode cX5_compare 92 = .ok (.iload 5, 2) := by decide +kernel
theorem dX5_compare_94 : decode cX5_compare 94 = .ok (.iadd, 1) := by decide +kernel
theorem dX5_compare_95 : decode cX5_compare 95 = .ok (.baload, 1) := by decide +kernel
theorem dX5_compare_96 : decode cX5_compare 96 = .ok (.ifCond .ne 23, 3) := by decide +kernel
theorem dX5_compare_99 : decode cX5_compare 99 = .ok (.aload_n 0, 1) := by decide +kernel
theorem dX5_compare_100 : decode cX5_compare 100 = .ok (.getfield 7, 3) := by decide +kernel
theorem dX5_compare_103 : decode cX5_compare 103 = .ok (.sipush 6400, 3) := by decide +kernel
theorem dX5_compare_106 : decode cX5_compare 106 = .ok (.iload_n 2, 1) := by decide +kernel
theorem dX5_compare_107 : decode cX5_compare 107 = .ok (.imul, 1) := by decide +kernel
theorem dX5_compare_108 : decode cX5_compare 108 = .ok (.iload 5, 2) := by decide +kernel
theorem dX5_compare_110 : decode cX5_compare 110 = .ok (.iadd, 1) := by decide +kernel
theorem dX5_compare_111 : decode cX5_compare 111 = .ok (.baload, 1) := by decide +kernel
theorem dX5_compare_112 : decode cX5_compare 112 = .ok (.ifCond .eq 7, 3) := by decide +kernel
theorem dX5_compare_115 : decode cX5_compare 115 = .ok (.iconst 1, 1) := by decide +kernel
theorem dX5_compare_116 : decode cX5_compare 116 = .ok (.goto 4, 3) := by decide +kernel
theorem dX5_compare_119 : decode cX5_compare 119 = .ok (.iconst 0, 1) := by decide +kernel
theorem dX5_compare_120 : decode cX5_compare 120 = .ok (.istore 4, 2) := by decide +kernel
theorem dX5_compare_122 : decode cX5_compare 122 = .ok (.iinc 5 1, 3) := by decide +kernel
theorem dX5_compare_125 : decode cX5_compare 125 = .ok (.goto (-97), 3) := by decide +kernel
theorem dX5_compare_128 : decode cX5_compare 128 = .ok (.aload_n 0, 1) := by decide +kernel
theorem dX5_compare_129 : decode cX5_compare 129 = .ok (.iload_n 3, 1) := by decide +kernel
theorem dX5_compare_130 : decode cX5_compare 130 = .ok (.ifCond .eq 7, 3) := by decide +kernel
theorem dX5_compare_133 : decode cX5_compare 133 = .ok (.iconst 1, 1) := by decide +kernel
theorem dX5_compare_134 : decode cX5_compare 134 = .ok (.goto 4, 3) := by decide +kernel
theorem dX5_compare_137 : decode cX5_compare 137 = .ok (.iconst 0, 1) := by decide +kernel
theorem dX5_compare_138 : decode cX5_compare 138 = .ok (.iload 4, 2) := by decide +kernel
theorem dX5_compare_140 : decode cX5_compare 140 = .ok (.ifCond .eq 7, 3) := by decide +kernel
theorem dX5_compare_143 : decode cX5_compare 143 = .ok (.iconst 2, 1) := by decide +kernel
theorem dX5_compare_144 : decode cX5_compare 144 = .ok (.goto 4, 3) := by decide +kernel
theorem dX5_compare_147 : decode cX5_compare 147 = .ok (.iconst 0, 1) := by decide +kernel
theorem dX5_compare_148 : decode cX5_compare 148 = .ok (.iadd, 1) := by decide +kernel
theorem dX5_compare_149 : decode cX5_compare 149 = .ok (.invokevirtual 80, 3) := by decide +kernel
theorem dX5_compare_152 : decode cX5_compare 152 = .ok (.ireturn, 1) := by decide +kernel
theorem dX5_keeps_0 : decode cX5_keeps 0 = .ok (.aload_n 0, 1) := by decide +kernel
theorem dX5_keeps_1 : decode cX5_keeps 1 = .ok (.iload_n 1, 1) := by decide +kernel
theorem dX5_keeps_2 : decode cX5_keeps 2 = .ok (.iload_n 3, 1) := by decide +kernel
theorem dX5_keeps_3 : decode cX5_keeps 3 = .ok (.iload 4, 2) := by decide +kernel
theorem dX5_keeps_5 : decode cX5_keeps 5 = .ok (.invokevirtual 66, 3) := by decide +kernel
theorem dX5_keeps_8 : decode cX5_keeps 8 = .ok (.istore 5, 2) := by decide +kernel
theorem dX5_keeps_10 : decode cX5_keeps 10 = .ok (.aload_n 0, 1) := by decide +kernel
theorem dX5_keeps_11 : decode cX5_keeps 11 = .ok (.iload_n 1, 1) := by decide +kernel
theorem dX5_keeps_12 : decode cX5_keeps 12 = .ok (.iload 4, 2) := by decide +kernel
theorem dX5_keeps_14 : decode cX5_keeps 14 = .ok (.iload_n 3, 1) := by decide +kernel
theorem dX5_keeps_15 : decode cX5_keeps 15 = .ok (.invokevirtual 66, 3) := by decide +kernel
theorem dX5_keeps_18 : decode cX5_keeps 18 = .ok (.istore 6, 2) := by decide +kernel
theorem dX5_keeps_20 : decode cX5_keeps 20 = .ok (.iload_n 2, 1) := by decide +kernel
theorem dX5_keeps_21 : decode cX5_keeps 21 = .ok (.tableswitch 130 0 4 #[35, 52, 69, 82, 104], 35) := by decide +kernel
theorem dX5_keeps_56 : decode cX5_keeps 56 = .ok (.iload_n 3, 1) := by decide +kernel
theorem dX5_keeps_57 : decode cX5_keeps 57 = .ok (.iload 4, 2) := by decide +kernel
theorem dX5_keeps_59 : decode cX5_keeps 59 = .ok (.if_icmp .ne 8, 3) := by decide +kernel
theorem dX5_keeps_62 : decode cX5_keeps 62 = .ok (.iload 5, 2) := by decide +kernel
theorem dX5_keeps_64 : decode cX5_keeps 64 = .ok (.ifCond .eq 7, 3) := by decide +kernel
theorem dX5_keeps_67 : decode cX5_keeps 67 = .ok (.iconst 1, 1) := by decide +kernel
theorem dX5_keeps_68 : decode cX5_keeps 68 = .ok (.goto 4, 3) := by decide +kernel
theorem dX5_keeps_71 : decode cX5_keeps 71 = .ok (.iconst 0, 1) := by decide +kernel
theorem dX5_keeps_72 : decode cX5_keeps 72 = .ok (.ireturn, 1) := by decide +kernel
theorem dX5_keeps_73 : decode cX5_keeps 73 = .ok (.iload_n 3, 1) := by decide +kernel
theorem dX5_keeps_74 : decode cX5_keeps 74 = .ok (.iload 4, 2) := by decide +kernel
theorem dX5_keeps_76 : decode cX5_keeps 76 = .ok (.if_icmp .ne 8, 3) := by decide +kernel
theorem dX5_keeps_79 : decode cX5_keeps 79 = .ok (.iload 5, 2) := by decide +kernel
theorem dX5_keeps_81 : decode cX5_keeps 81 = .ok (.ifCond .ne 7, 3) := by decide +kernel
theorem dX5_keeps_84 : decode cX5_keeps 84 = .ok (.iconst 1, 1) := by decide +kernel
theorem dX5_keeps_85 : decode cX5_keeps 85 = .ok (.goto 4, 3) := by decide +kernel
theorem dX5_keeps_88 : decode cX5_keeps 88 = .ok (.iconst 0, 1) := by decide +kernel
theorem dX5_keeps_89 : decode cX5_keeps 89 = .ok (.ireturn, 1) := by decide +kernel
theorem dX5_keeps_90 : decode cX5_keeps 90 = .ok (.iload 5, 2) := by decide +kernel
theorem dX5_keeps_92 : decode cX5_keeps 92 = .ok (.iload 6, 2) := by decide +kernel
theorem dX5_keeps_94 : decode cX5_keeps 94 = .ok (.if_icmp .ne 7, 3) := by decide +kernel
theorem dX5_keeps_97 : decode cX5_keeps 97 = .ok (.iconst 1, 1) := by decide +kernel
theorem dX5_keeps_98 : decode cX5_keeps 98 = .ok (.goto 4, 3) := by decide +kernel
theorem dX5_keeps_101 : decode cX5_keeps 101 = .ok (.iconst 0, 1) := by decide +kernel
theorem dX5_keeps_102 : decode cX5_keeps 102 = .ok (.ireturn, 1) := by decide +kernel
theorem dX5_keeps_103 : decode cX5_keeps 103 = .ok (.iload_n 3, 1) := by decide +kernel
theorem dX5_keeps_104 : decode cX5_keeps 104 = .ok (.iload 4, 2) := by decide +kernel
theorem dX5_keeps_106 : decode cX5_keeps 106 = .ok (.if_icmp .eq 13, 3) := by decide +kernel
theorem dX5_keeps_109 : decode cX5_keeps 109 = .ok (.iload 5, 2) := by decide +kernel
theorem dX5_keeps_111 : decode cX5_keeps 111 = .ok (.ifCond .eq 8, 3) := by decide +kernel
theorem dX5_keeps_114 : decode cX5_keeps 114 = .ok (.iload 6, 2) := by decide +kernel
theorem dX5_keeps_116 : decode cX5_keeps 116 = .ok (.ifCond .ne 7, 3) := by decide +kernel
theorem dX5_keeps_119 : decode cX5_keeps 119 = .ok (.iconst 1, 1) := by decide +kernel
theorem dX5_keeps_120 : decode cX5_keeps 120 = .ok (.goto 4, 3) := by decide +kernel
theorem dX5_keeps_123 : decode cX5_keeps 123 = .ok (.iconst 0, 1) := by decide +kernel
theorem dX5_keeps_124 : decode cX5_keeps 124 = .ok (.ireturn, 1) := by decide +kernel
theorem dX5_keeps_125 : decode cX5_keeps 125 = .ok (.iload 5, 2) := by decide +kernel
theorem dX5_keeps_127 : decode cX5_keeps 127 = .ok (.ifCond .ne 18, 3) := by decide +kernel
theorem dX5_keeps_130 : decode cX5_keeps 130 = .ok (.aload_n 0, 1) := by decide +kernel
theorem dX5_keeps_131 : decode cX5_keeps 131 = .ok (.getfield 20, 3) := by decide +kernel
theorem dX5_keeps_134 : decode cX5_keeps 134 = .ok (.bipush 80, 2) := by decide +kernel
theorem dX5_keeps_136 : decode cX5_keeps 136 = .ok (.iload_n 3, 1) := by decide +kernel
theorem dX5_keeps_137 : decode cX5_keeps 137 = .ok (.imul, 1) := by decide +kernel
theorem dX5_keeps_138 : decode cX5_keeps 138 = .ok (.iload 4, 2) := by decide +kernel
theorem dX5_keeps_140 : decode cX5_keeps 140 = .ok (.iadd, 1) := by decide +kernel
theorem dX5_keeps_141 : decode cX5_keeps 141 = .ok (.baload, 1) := by decide +kernel
theorem dX5_keeps_142 : decode cX5_keeps 142 = .ok (.ifCond .ne 7, 3) := by decide +kernel
theorem dX5_keeps_145 : decode cX5_keeps 145 = .ok (.iconst 1, 1) := by decide +kernel
theorem dX5_keeps_146 : decode cX5_keeps 146 = .ok (.goto 4, 3) := by decide +kernel
theorem dX5_keeps_149 : decode cX5_keeps 149 = .ok (.iconst 0, 1) := by decide +kernel
theorem dX5_keeps_150 : decode cX5_keeps 150 = .ok (.ireturn, 1) := by decide +kernel
theorem dX5_keeps_151 : decode cX5_keeps 151 = .ok (.iload_n 3, 1) := by decide +kernel
theorem dX5_keeps_152 : decode cX5_keeps 152 = .ok (.iload 4, 2) := by decide +kernel
theorem dX5_keeps_154 : decode cX5_keeps 154 = .ok (.if_icmp .eq 13, 3) := by decide +kernel
theorem dX5_keeps_157 : decode cX5_keeps 157 = .ok (.iload 5, 2) := by decide +kernel
theorem dX5_keeps_159 : decode cX5_keeps 159 = .ok (.ifCond .ne 8, 3) := by decide +kernel
theorem dX5_keeps_162 : decode cX5_keeps 162 = .ok (.iload 6, 2) := by decide +kernel
theorem dX5_keeps_164 : decode cX5_keeps 164 = .ok (.ifCond .eq 7, 3) := by decide +kernel
theorem dX5_keeps_167 : decode cX5_keeps 167 = .ok (.iconst 1, 1) := by decide +kernel
theorem dX5_keeps_168 : decode cX5_keeps 168 = .ok (.goto 4, 3) := by decide +kernel
theorem dX5_keeps_171 : decode cX5_keeps 171 = .ok (.iconst 0, 1) := by decide +kernel
theorem dX5_keeps_172 : decode cX5_keeps 172 = .ok (.ireturn, 1) := by decide +kernel
theorem dX5_is_0 : decode cX5_is 0 = .ok (.iload_n 1, 1) := by decide +kernel
theorem dX5_is_1 : decode cX5_is 1 = .ok (.invokestatic 55, 3) := by decide +kernel
theorem dX5_is_4 : decode cX5_is 4 = .ok (.ifCond .ne 9, 3) := by decide +kernel
theorem dX5_is_7 : decode cX5_is 7 = .ok (.aload_n 0, 1) := by decide +kernel
theorem dX5_is_8 : decode cX5_is 8 = .ok (.iconst 1, 1) := by decide +kernel
theorem dX5_is_9 : decode cX5_is 9 = .ok (.invokevirtual 87, 3) := by decide +kernel
theorem dX5_is_12 : decode cX5_is 12 = .ok (.ireturn, 1) := by decide +kernel
theorem dX5_is_13 : decode cX5_is 13 = .ok (.iload_n 2, 1) := by decide +kernel
theorem dX5_is_14 : decode cX5_is 14 = .ok (.iconst 0, 1) := by decide +kernel
theorem dX5_is_15 : decode cX5_is 15 = .ok (.iconst 5, 1) := by decide +kernel
theorem dX5_is_16 : decode cX5_is 16 = .ok (.invokestatic 51, 3) := by decide +kernel
theorem dX5_is_19 : decode cX5_is 19 = .ok (.ifCond .ne 9, 3) := by decide +kernel
theorem dX5_is_22 : decode cX5_is 22 = .ok (.aload_n 0, 1) := by decide +kernel
theorem dX5_is_23 : decode cX5_is 23 = .ok (.iconst 2, 1) := by decide +kernel
theorem dX5_is_24 : decode cX5_is 24 = .ok (.invokevirtual 87, 3) := by decide +kernel
theorem dX5_is_27 : decode cX5_is 27 = .ok (.ireturn, 1) := by decide +kernel
theorem dX5_is_28 : decode cX5_is 28 = .ok (.iload_n 2, 1) := by decide +kernel
theorem dX5_is_29 : decode cX5_is 29 = .ok (.iconst 4, 1) := by decide +kernel
theorem dX5_is_30 : decode cX5_is 30 = .ok (.if_icmp .ne 9, 3) := by decide +kernel
theorem dX5_is_33 : decode cX5_is 33 = .ok (.aload_n 0, 1) := by decide +kernel
theorem dX5_is_34 : decode cX5_is 34 = .ok (.iload_n 1, 1) := by decide +kernel
theorem dX5_is_35 : decode cX5_is 35 = .ok (.iload_n 1, 1) := by decide +kernel
theorem dX5_is_36 : decode cX5_is 36 = .ok (.invokevirtual 98, 3) := by decide +kernel
theorem dX5_is_39 : decode cX5_is 39 = .ok (.iconst 1, 1) := by decide +kernel
theorem dX5_is_40 : decode cX5_is 40 = .ok (.istore_n 3, 1) := by decide +kernel
theorem dX5_is_41 : decode cX5_is 41 = .ok (.iconst 0, 1) := by decide +kernel
theorem dX5_is_42 : decode cX5_is 42 = .ok (.istore 4, 2) := by decide +kernel
theorem dX5_is_44 : decode cX5_is 44 = .ok (.iload 4, 2) := by decide +kernel
theorem dX5_is_46 : decode cX5_is 46 = .ok (.aload_n 0, 1) := by decide +kernel
theorem dX5_is_47 : decode cX5_is 47 = .ok (.getfield 16, 3) := by decide +kernel
theorem dX5_is_50 : decode cX5_is 50 = .ok (.if_icmp .ge 46, 3) := by decide +kernel
theorem dX5_is_53 : decode cX5_is 53 = .ok (.iload_n 3, 1) := by decide +kernel
theorem dX5_is_54 : decode cX5_is 54 = .ok (.ifCond .eq 42, 3) := by decide +kernel
theorem dX5_is_57 : decode cX5_is 57 = .ok (.iconst 0, 1) := by decide +kernel
theorem dX5_is_58 : decode cX5_is 58 = .ok (.istore 5, 2) := by decide +kernel
theorem dX5_is_60 : decode cX5_is 60 = .ok (.iload 5, 2) := by decide +kernel
theorem dX5_is_62 : decode cX5_is 62 = .ok (.aload_n 0, 1) := by decide +kernel
theorem dX5_is_63 : decode cX5_is 63 = .ok (.getfield 16, 3) := by decide +kernel
theorem dX5_is_66 : decode cX5_is 66 = .ok (.if_icmp .ge 24, 3) := by decide +kernel
theorem dX5_is_69 : decode cX5_is 69 = .ok (.iload_n 3, 1) := by decide +kernel
theorem dX5_is_70 : decode cX5_is 70 = .ok (.ifCond .eq 20, 3) := by decide +kernel
theorem dX5_is_73 : decode cX5_is 73 = .ok (.aload_n 0, 1) := by decide +kernel
theorem dX5_is_74 : decode cX5_is 74 = .ok (.iload_n 1, 1) := by decide +kernel
theorem dX5_is_75 : decode cX5_is 75 = .ok (.iload_n 2, 1) := by decide +kernel
theorem dX5_is_76 : decode cX5_is 76 = .ok (.iload 4, 2) := by decide +kernel
theorem dX5_is_78 : decode cX5_is 78 = .ok (.iload 5, 2) := by decide +kernel
theorem dX5_is_80 : decode cX5_is 80 = .ok (.invokevirtual 118, 3) := by decide +kernel
theorem dX5_is_83 : decode cX5_is 83 = .ok (.istore_n 3, 1) := by decide +kernel
theorem dX5_is_84 : decode cX5_is 84 = .ok (.iinc 5 1, 3) := by decide +kernel
theorem dX5_is_87 : decode cX5_is 87 = .ok (.goto (-27), 3) := by decide +kernel
theorem dX5_is_90 : decode cX5_is 90 = .ok (.iinc 4 1, 3) := by decide +kernel
theorem dX5_is_93 : decode cX5_is 93 = .ok (.goto (-49), 3) := by decide +kernel
theorem dX5_is_96 : decode cX5_is 96 = .ok (.aload_n 0, 1) := by decide +kernel
theorem dX5_is_97 : decode cX5_is 97 = .ok (.iload_n 3, 1) := by decide +kernel
theorem dX5_is_98 : decode cX5_is 98 = .ok (.invokevirtual 90, 3) := by decide +kernel
theorem dX5_is_101 : decode cX5_is 101 = .ok (.ireturn, 1) := by decide +kernel
theorem dX5_steps_0 : decode cX5_steps 0 = .ok (.aload_n 0, 1) := by decide +kernel
theorem dX5_steps_1 : decode cX5_steps 1 = .ok (.iload_n 1, 1) := by decide +kernel
theorem dX5_steps_2 : decode cX5_steps 2 = .ok (.iload_n 2, 1) := by decide +kernel
theorem dX5_steps_3 : decode cX5_steps 3 = .ok (.invokevirtual 83, 3) := by decide +kernel
theorem dX5_steps_6 : decode cX5_steps 6 = .ok (.ifCond .eq 11, 3) := by decide +kernel
theorem dX5_steps_9 : decode cX5_steps 9 = .ok (.aload_n 0, 1) := by decide +kernel
theorem dX5_steps_10 : decode cX5_steps 10 = .ok (.iload_n 3, 1) := by decide +kernel
theorem dX5_steps_11 : decode cX5_steps 11 = .ok (.invokevirtual 59, 3) := by decide +kernel
theorem dX5_steps_14 : decode cX5_steps 14 = .ok (.ifCond .ne 9, 3) := by decide +kernel
theorem dX5_steps_17 : decode cX5_steps 17 = .ok (.aload_n 0, 1) := by decide +kernel
theorem dX5_steps_18 : decode cX5_steps 18 = .ok (.iconst 1, 1) := by decide +kernel
theorem dX5_steps_19 : decode cX5_steps 19 = .ok (.invokevirtual 77, 3) := by decide +kernel
theorem dX5_steps_22 : decode cX5_steps 22 = .ok (.ireturn, 1) := by decide +kernel
theorem dX5_steps_23 : decode cX5_steps 23 = .ok (.aload_n 0, 1) := by decide +kernel
theorem dX5_steps_24 : decode cX5_steps 24 = .ok (.iload_n 1, 1) := by decide +kernel
theorem dX5_steps_25 : decode cX5_steps 25 = .ok (.iload_n 2, 1) := by decide +kernel
theorem dX5_steps_26 : decode cX5_steps 26 = .ok (.invokevirtual 105, 3) := by decide +kernel
theorem dX5_steps_29 : decode cX5_steps 29 = .ok (.aload_n 0, 1) := by decide +kernel
theorem dX5_steps_30 : decode cX5_steps 30 = .ok (.aload_n 0, 1) := by decide +kernel
theorem dX5_steps_31 : decode cX5_steps 31 = .ok (.getfield 39, 3) := by decide +kernel
theorem dX5_steps_34 : decode cX5_steps 34 = .ok (.iload_n 3, 1) := by decide +kernel
theorem dX5_steps_35 : decode cX5_steps 35 = .ok (.iaload, 1) := by decide +kernel
theorem dX5_steps_36 : decode cX5_steps 36 = .ok (.invokevirtual 80, 3) := by decide +kernel
theorem dX5_steps_39 : decode cX5_steps 39 = .ok (.ireturn, 1) := by decide +kernel
theorem dX5_leastOf_0 : decode cX5_leastOf 0 = .ok (.iconst 0, 1) := by decide +kernel
theorem dX5_leastOf_1 : decode cX5_leastOf 1 = .ok (.istore_n 2, 1) := by decide +kernel
theorem dX5_leastOf_2 : decode cX5_leastOf 2 = .ok (.iload_n 2, 1) := by decide +kernel
theorem dX5_leastOf_3 : decode cX5_leastOf 3 = .ok (.iload_n 1, 1) := by decide +kernel
theorem dX5_leastOf_4 : decode cX5_leastOf 4 = .ok (.if_icmp .eq 37, 3) := by decide +kernel
theorem dX5_leastOf_7 : decode cX5_leastOf 7 = .ok (.aload_n 0, 1) := by decide +kernel
theorem dX5_leastOf_8 : decode cX5_leastOf 8 = .ok (.getfield 20, 3) := by decide +kernel
theorem dX5_leastOf_11 : decode cX5_leastOf 11 = .ok (.bipush 80, 2) := by decide +kernel
theorem dX5_leastOf_13 : decode cX5_leastOf 13 = .ok (.iload_n 2, 1) := by decide +kernel
theorem dX5_leastOf_14 : decode cX5_leastOf 14 = .ok (.imul, 1) := by decide +kernel
theorem dX5_leastOf_15 : decode cX5_leastOf 15 = .ok (.iload_n 1, 1) := by decide +kernel
theorem dX5_leastOf_16 : decode cX5_leastOf 16 = .ok (.iadd, 1) := by decide +kernel
theorem dX5_leastOf_17 : decode cX5_leastOf 17 = .ok (.baload, 1) := by decide +kernel
theorem dX5_leastOf_18 : decode cX5_leastOf 18 = .ok (.ifCond .eq 17, 3) := by decide +kernel
theorem dX5_leastOf_21 : decode cX5_leastOf 21 = .ok (.aload_n 0, 1) := by decide +kernel
theorem dX5_leastOf_22 : decode cX5_leastOf 22 = .ok (.getfield 20, 3) := by decide +kernel
theorem dX5_leastOf_25 : decode cX5_leastOf 25 = .ok (.bipush 80, 2) := by decide +kernel
theorem dX5_leastOf_27 : decode cX5_leastOf 27 = .ok (.iload_n 1, 1) := by decide +kernel
theorem dX5_leastOf_28 : decode cX5_leastOf 28 = .ok (.imul, 1) := by decide +kernel
theorem dX5_leastOf_29 : decode cX5_leastOf 29 = .ok (.iload_n 2, 1) := by decide +kernel
theorem dX5_leastOf_30 : decode cX5_leastOf 30 = .ok (.iadd, 1) := by decide +kernel
theorem dX5_leastOf_31 : decode cX5_leastOf 31 = .ok (.baload, 1) := by decide +kernel
theorem dX5_leastOf_32 : decode cX5_leastOf 32 = .ok (.ifCond .ne 9, 3) := by decide +kernel
theorem dX5_leastOf_35 : decode cX5_leastOf 35 = .ok (.iinc 2 1, 3) := by decide +kernel
theorem dX5_leastOf_38 : decode cX5_leastOf 38 = .ok (.goto (-36), 3) := by decide +kernel
theorem dX5_leastOf_41 : decode cX5_leastOf 41 = .ok (.iload_n 2, 1) := by decide +kernel
theorem dX5_leastOf_42 : decode cX5_leastOf 42 = .ok (.ireturn, 1) := by decide +kernel
theorem dX5_classOf_0 : decode cX5_classOf 0 = .ok (.aload_n 0, 1) := by decide +kernel
theorem dX5_classOf_1 : decode cX5_classOf 1 = .ok (.iload_n 1, 1) := by decide +kernel
theorem dX5_classOf_2 : decode cX5_classOf 2 = .ok (.iload_n 2, 1) := by decide +kernel
theorem dX5_classOf_3 : decode cX5_classOf 3 = .ok (.invokevirtual 83, 3) := by decide +kernel
theorem dX5_classOf_6 : decode cX5_classOf 6 = .ok (.ifCond .ne 9, 3) := by decide +kernel
theorem dX5_classOf_9 : decode cX5_classOf 9 = .ok (.aload_n 0, 1) := by decide +kernel
theorem dX5_classOf_10 : decode cX5_classOf 10 = .ok (.iconst 1, 1) := by decide +kernel
theorem dX5_classOf_11 : decode cX5_classOf 11 = .ok (.invokevirtual 77, 3) := by decide +kernel
theorem dX5_classOf_14 : decode cX5_classOf 14 = .ok (.ireturn, 1) := by decide +kernel
theorem dX5_classOf_15 : decode cX5_classOf 15 = .ok (.aload_n 0, 1) := by decide +kernel
theorem dX5_classOf_16 : decode cX5_classOf 16 = .ok (.iload_n 1, 1) := by decide +kernel
theorem dX5_classOf_17 : decode cX5_classOf 17 = .ok (.invokevirtual 108, 3) := by decide +kernel
theorem dX5_classOf_20 : decode cX5_classOf 20 = .ok (.aload_n 0, 1) := by decide +kernel
theorem dX5_classOf_21 : decode cX5_classOf 21 = .ok (.aload_n 0, 1) := by decide +kernel
theorem dX5_classOf_22 : decode cX5_classOf 22 = .ok (.iload_n 2, 1) := by decide +kernel
theorem dX5_classOf_23 : decode cX5_classOf 23 = .ok (.invokevirtual 122, 3) := by decide +kernel
theorem dX5_classOf_26 : decode cX5_classOf 26 = .ok (.invokevirtual 80, 3) := by decide +kernel
theorem dX5_classOf_29 : decode cX5_classOf 29 = .ok (.ireturn, 1) := by decide +kernel
theorem dX5_classes_0 : decode cX5_classes 0 = .ok (.iload_n 1, 1) := by decide +kernel
theorem dX5_classes_1 : decode cX5_classes 1 = .ok (.invokestatic 55, 3) := by decide +kernel
theorem dX5_classes_4 : decode cX5_classes 4 = .ok (.ifCond .ne 9, 3) := by decide +kernel
theorem dX5_classes_7 : decode cX5_classes 7 = .ok (.aload_n 0, 1) := by decide +kernel
theorem dX5_classes_8 : decode cX5_classes 8 = .ok (.iconst 1, 1) := by decide +kernel
theorem dX5_classes_9 : decode cX5_classes 9 = .ok (.invokevirtual 77, 3) := by decide +kernel
theorem dX5_classes_12 : decode cX5_classes 12 = .ok (.ireturn, 1) := by decide +kernel
theorem dX5_classes_13 : decode cX5_classes 13 = .ok (.aload_n 0, 1) := by decide +kernel
theorem dX5_classes_14 : decode cX5_classes 14 = .ok (.iload_n 1, 1) := by decide +kernel
theorem dX5_classes_15 : decode cX5_classes 15 = .ok (.invokevirtual 108, 3) := by decide +kernel
theorem dX5_classes_18 : decode cX5_classes 18 = .ok (.iconst 0, 1) := by decide +kernel
theorem dX5_classes_19 : decode cX5_classes 19 = .ok (.istore_n 2, 1) := by decide +kernel
theorem dX5_classes_20 : decode cX5_classes 20 = .ok (.iconst 0, 1) := by decide +kernel
theorem dX5_classes_21 : decode cX5_classes 21 = .ok (.istore_n 3, 1) := by decide +kernel
theorem dX5_classes_22 : decode cX5_classes 22 = .ok (.iload_n 3, 1) := by decide +kernel
theorem dX5_classes_23 : decode cX5_classes 23 = .ok (.aload_n 0, 1) := by decide +kernel
theorem dX5_classes_24 : decode cX5_classes 24 = .ok (.getfield 16, 3) := by decide +kernel
theorem dX5_classes_27 : decode cX5_classes 27 = .ok (.if_icmp .ge 26, 3) := by decide +kernel
theorem dX5_classes_30 : decode cX5_classes 30 = .ok (.iload_n 2, 1) := by decide +kernel
theorem dX5_classes_31 : decode cX5_classes 31 = .ok (.aload_n 0, 1) := by decide +kernel
theorem dX5_classes_32 : decode cX5_classes 32 = .ok (.iload_n 3, 1) := by decide +kernel
theorem dX5_classes_33 : decode cX5_classes 33 = .ok (.invokevirtual 122, 3) := by decide +kernel
theorem dX5_classes_36 : decode cX5_classes 36 = .ok (.iload_n 3, 1) := by decide +kernel
theorem dX5_classes_37 : decode cX5_classes 37 = .ok (.if_icmp .ne 7, 3) := by decide +kernel
theorem dX5_classes_40 : decode cX5_classes 40 = .ok (.iconst 1, 1) := by decide +kernel
theorem dX5_classes_41 : decode cX5_classes 41 = .ok (.goto 4, 3) := by decide +kernel
theorem dX5_classes_44 : decode cX5_classes 44 = .ok (.iconst 0, 1) := by decide +kernel
theorem dX5_classes_45 : decode cX5_classes 45 = .ok (.iadd, 1) := by decide +kernel
theorem dX5_classes_46 : decode cX5_classes 46 = .ok (.istore_n 2, 1) := by decide +kernel
theorem dX5_classes_47 : decode cX5_classes 47 = .ok (.iinc 3 1, 3) := by decide +kernel
theorem dX5_classes_50 : decode cX5_classes 50 = .ok (.goto (-28), 3) := by decide +kernel
theorem dX5_classes_53 : decode cX5_classes 53 = .ok (.aload_n 0, 1) := by decide +kernel
theorem dX5_classes_54 : decode cX5_classes 54 = .ok (.iload_n 2, 1) := by decide +kernel
theorem dX5_classes_55 : decode cX5_classes 55 = .ok (.invokevirtual 80, 3) := by decide +kernel
theorem dX5_classes_58 : decode cX5_classes 58 = .ok (.ireturn, 1) := by decide +kernel
theorem dX5_hasRing_0 : decode cX5_hasRing 0 = .ok (.iload_n 1, 1) := by decide +kernel
theorem dX5_hasRing_1 : decode cX5_hasRing 1 = .ok (.invokestatic 55, 3) := by decide +kernel
theorem dX5_hasRing_4 : decode cX5_hasRing 4 = .ok (.ifCond .eq 15, 3) := by decide +kernel
theorem dX5_hasRing_7 : decode cX5_hasRing 7 = .ok (.aload_n 0, 1) := by decide +kernel
theorem dX5_hasRing_8 : decode cX5_hasRing 8 = .ok (.aload_n 0, 1) := by decide +kernel
theorem dX5_hasRing_9 : decode cX5_hasRing 9 = .ok (.iload_n 1, 1) := by decide +kernel
theorem dX5_hasRing_10 : decode cX5_hasRing 10 = .ok (.invokevirtual 112, 3) := by decide +kernel
theorem dX5_hasRing_13 : decode cX5_hasRing 13 = .ok (.invokevirtual 90, 3) := by decide +kernel
theorem dX5_hasRing_16 : decode cX5_hasRing 16 = .ok (.goto 8, 3) := by decide +kernel
theorem dX5_hasRing_19 : decode cX5_hasRing 19 = .ok (.aload_n 0, 1) := by decide +kernel
theorem dX5_hasRing_20 : decode cX5_hasRing 20 = .ok (.iconst 1, 1) := by decide +kernel
theorem dX5_hasRing_21 : decode cX5_hasRing 21 = .ok (.invokevirtual 87, 3) := by decide +kernel
theorem dX5_hasRing_24 : decode cX5_hasRing 24 = .ok (.ireturn, 1) := by decide +kernel
theorem dX5_isFree_0 : decode cX5_isFree 0 = .ok (.aload_n 0, 1) := by decide +kernel
theorem dX5_isFree_1 : decode cX5_isFree 1 = .ok (.getfield 29, 3) := by decide +kernel
theorem dX5_isFree_4 : decode cX5_isFree 4 = .ok (.iload_n 2, 1) := by decide +kernel
theorem dX5_isFree_5 : decode cX5_isFree 5 = .ok (.baload, 1) := by decide +kernel
theorem dX5_isFree_6 : decode cX5_isFree 6 = .ok (.ifCond .ne 7, 3) := by decide +kernel
theorem dX5_isFree_9 : decode cX5_isFree 9 = .ok (.iconst 1, 1) := by decide +kernel
theorem dX5_isFree_10 : decode cX5_isFree 10 = .ok (.goto 4, 3) := by decide +kernel
theorem dX5_isFree_13 : decode cX5_isFree 13 = .ok (.iconst 0, 1) := by decide +kernel
theorem dX5_isFree_14 : decode cX5_isFree 14 = .ok (.istore_n 3, 1) := by decide +kernel
theorem dX5_isFree_15 : decode cX5_isFree 15 = .ok (.iconst 0, 1) := by decide +kernel
theorem dX5_isFree_16 : decode cX5_isFree 16 = .ok (.istore 4, 2) := by decide +kernel
theorem dX5_isFree_18 : decode cX5_isFree 18 = .ok (.iload 4, 2) := by decide +kernel
theorem dX5_isFree_20 : decode cX5_isFree 20 = .ok (.aload_n 0, 1) := by decide +kernel
theorem dX5_isFree_21 : decode cX5_isFree 21 = .ok (.getfield 16, 3) := by decide +kernel
theorem dX5_isFree_24 : decode cX5_isFree 24 = .ok (.if_icmp .ge 40, 3) := by decide +kernel
theorem dX5_isFree_27 : decode cX5_isFree 27 = .ok (.iload_n 3, 1) := by decide +kernel
theorem dX5_isFree_28 : decode cX5_isFree 28 = .ok (.ifCond .eq 36, 3) := by decide +kernel
theorem dX5_isFree_31 : decode cX5_isFree 31 = .ok (.aload_n 0, 1) := by decide +kernel
theorem dX5_isFree_32 : decode cX5_isFree 32 = .ok (.getfield 29, 3) := by decide +kernel
theorem dX5_isFree_35 : decode cX5_isFree 35 = .ok (.iload 4, 2) := by decide +kernel
theorem dX5_isFree_37 : decode cX5_isFree 37 = .ok (.baload, 1) := by decide +kernel
theorem dX5_isFree_38 : decode cX5_isFree 38 = .ok (.ifCond .ne 14, 3) := by decide +kernel
theorem dX5_isFree_41 : decode cX5_isFree 41 = .ok (.aload_n 0, 1) := by decide +kernel
theorem dX5_isFree_42 : decode cX5_isFree 42 = .ok (.iload_n 1, 1) := by decide +kernel
theorem dX5_isFree_43 : decode cX5_isFree 43 = .ok (.iload 4, 2) := by decide +kernel
theorem dX5_isFree_45 : decode cX5_isFree 45 = .ok (.iload_n 2, 1) := by decide +kernel
theorem dX5_isFree_46 : decode cX5_isFree 46 = .ok (.invokevirtual 66, 3) := by decide +kernel
theorem dX5_isFree_49 : decode cX5_isFree 49 = .ok (.ifCond .ne 7, 3) := by decide +kernel
theorem dX5_isFree_52 : decode cX5_isFree 52 = .ok (.iconst 1, 1) := by decide +kernel
theorem dX5_isFree_53 : decode cX5_isFree 53 = .ok (.goto 4, 3) := by decide +kernel
theorem dX5_isFree_56 : decode cX5_isFree 56 = .ok (.iconst 0, 1) := by decide +kernel
theorem dX5_isFree_57 : decode cX5_isFree 57 = .ok (.istore_n 3, 1) := by decide +kernel
theorem dX5_isFree_58 : decode cX5_isFree 58 = .ok (.iinc 4 1, 3) := by decide +kernel
theorem dX5_isFree_61 : decode cX5_isFree 61 = .ok (.goto (-43), 3) := by decide +kernel
theorem dX5_isFree_64 : decode cX5_isFree 64 = .ok (.iload_n 3, 1) := by decide +kernel
theorem dX5_isFree_65 : decode cX5_isFree 65 = .ok (.ireturn, 1) := by decide +kernel
theorem dX5_orders_0 : decode cX5_orders 0 = .ok (.iconst 0, 1) := by decide +kernel
theorem dX5_orders_1 : decode cX5_orders 1 = .ok (.istore_n 2, 1) := by decide +kernel
theorem dX5_orders_2 : decode cX5_orders 2 = .ok (.iload_n 2, 1) := by decide +kernel
theorem dX5_orders_3 : decode cX5_orders 3 = .ok (.aload_n 0, 1) := by decide +kernel
theorem dX5_orders_4 : decode cX5_orders 4 = .ok (.getfield 16, 3) := by decide +kernel
theorem dX5_orders_7 : decode cX5_orders 7 = .ok (.if_icmp .ge 16, 3) := by decide +kernel
theorem dX5_orders_10 : decode cX5_orders 10 = .ok (.aload_n 0, 1) := by decide +kernel
theorem dX5_orders_11 : decode cX5_orders 11 = .ok (.getfield 29, 3) := by decide +kernel
theorem dX5_orders_14 : decode cX5_orders 14 = .ok (.iload_n 2, 1) := by decide +kernel
theorem dX5_orders_15 : decode cX5_orders 15 = .ok (.iconst 0, 1) := by decide +kernel
theorem dX5_orders_16 : decode cX5_orders 16 = .ok (.bastore, 1) := by decide +kernel
theorem dX5_orders_17 : decode cX5_orders 17 = .ok (.iinc 2 1, 3) := by decide +kernel
theorem dX5_orders_20 : decode cX5_orders 20 = .ok (.goto (-18), 3) := by decide +kernel
theorem dX5_orders_23 : decode cX5_orders 23 = .ok (.iconst 0, 1) := by decide +kernel
theorem dX5_orders_24 : decode cX5_orders 24 = .ok (.istore_n 2, 1) := by decide +kernel
theorem dX5_orders_25 : decode cX5_orders 25 = .ok (.iconst 0, 1) := by decide +kernel
theorem dX5_orders_26 : decode cX5_orders 26 = .ok (.istore_n 3, 1) := by decide +kernel
theorem dX5_orders_27 : decode cX5_orders 27 = .ok (.iload_n 3, 1) := by decide +kernel
theorem dX5_orders_28 : decode cX5_orders 28 = .ok (.aload_n 0, 1) := by decide +kernel
theorem dX5_orders_29 : decode cX5_orders 29 = .ok (.getfield 16, 3) := by decide +kernel
theorem dX5_orders_32 : decode cX5_orders 32 = .ok (.if_icmp .ge 56, 3) := by decide +kernel
theorem dX5_orders_35 : decode cX5_orders 35 = .ok (.iconst 0, 1) := by decide +kernel
theorem dX5_orders_36 : decode cX5_orders 36 = .ok (.istore_n 3, 1) := by decide +kernel
theorem dX5_orders_37 : decode cX5_orders 37 = .ok (.iload_n 3, 1) := by decide +kernel
theorem dX5_orders_38 : decode cX5_orders 38 = .ok (.aload_n 0, 1) := by decide +kernel
theorem dX5_orders_39 : decode cX5_orders 39 = .ok (.getfield 16, 3) := by decide +kernel
theorem dX5_orders_42 : decode cX5_orders 42 = .ok (.if_icmp .ge 18, 3) := by decide +kernel
theorem dX5_orders_45 : decode cX5_orders 45 = .ok (.aload_n 0, 1) := by decide +kernel
theorem dX5_orders_46 : decode cX5_orders 46 = .ok (.iload_n 1, 1) := by decide +kernel
theorem dX5_orders_47 : decode cX5_orders 47 = .ok (.iload_n 3, 1) := by decide +kernel
theorem dX5_orders_48 : decode cX5_orders 48 = .ok (.invokevirtual 125, 3) := by decide +kernel
theorem dX5_orders_51 : decode cX5_orders 51 = .ok (.ifCond .ne 9, 3) := by decide +kernel
theorem dX5_orders_54 : decode cX5_orders 54 = .ok (.iinc 3 1, 3) := by decide +kernel
theorem dX5_orders_57 : decode cX5_orders 57 = .ok (.goto (-20), 3) := by decide +kernel
theorem dX5_orders_60 : decode cX5_orders 60 = .ok (.iload_n 3, 1) := by decide +kernel
theorem dX5_orders_61 : decode cX5_orders 61 = .ok (.aload_n 0, 1) := by decide +kernel
theorem dX5_orders_62 : decode cX5_orders 62 = .ok (.getfield 16, 3) := by decide +kernel
theorem dX5_orders_65 : decode cX5_orders 65 = .ok (.if_icmp .ge (-38), 3) := by decide +kernel
theorem dX5_orders_68 : decode cX5_orders 68 = .ok (.aload_n 0, 1) := by decide +kernel
theorem dX5_orders_69 : decode cX5_orders 69 = .ok (.getfield 29, 3) := by decide +kernel
theorem dX5_orders_72 : decode cX5_orders 72 = .ok (.iload_n 3, 1) := by decide +kernel
theorem dX5_orders_73 : decode cX5_orders 73 = .ok (.iconst 1, 1) := by decide +kernel
theorem dX5_orders_74 : decode cX5_orders 74 = .ok (.bastore, 1) := by decide +kernel
theorem dX5_orders_75 : decode cX5_orders 75 = .ok (.aload_n 0, 1) := by decide +kernel
theorem dX5_orders_76 : decode cX5_orders 76 = .ok (.getfield 42, 3) := by decide +kernel
theorem dX5_orders_79 : decode cX5_orders 79 = .ok (.iload_n 2, 1) := by decide +kernel
theorem dX5_orders_80 : decode cX5_orders 80 = .ok (.iload_n 3, 1) := by decide +kernel
theorem dX5_orders_81 : decode cX5_orders 81 = .ok (.iastore, 1) := by decide +kernel
theorem dX5_orders_82 : decode cX5_orders 82 = .ok (.iinc 2 1, 3) := by decide +kernel
theorem dX5_orders_85 : decode cX5_orders 85 = .ok (.goto (-58), 3) := by decide +kernel
theorem dX5_orders_88 : decode cX5_orders 88 = .ok (.iload_n 2, 1) := by decide +kernel
theorem dX5_orders_89 : decode cX5_orders 89 = .ok (.ireturn, 1) := by decide +kernel
theorem dX5_orderAt_0 : decode cX5_orderAt 0 = .ok (.aload_n 0, 1) := by decide +kernel
theorem dX5_orderAt_1 : decode cX5_orderAt 1 = .ok (.iload_n 1, 1) := by decide +kernel
theorem dX5_orderAt_2 : decode cX5_orderAt 2 = .ok (.iload_n 2, 1) := by decide +kernel
theorem dX5_orderAt_3 : decode cX5_orderAt 3 = .ok (.invokevirtual 83, 3) := by decide +kernel
theorem dX5_orderAt_6 : decode cX5_orderAt 6 = .ok (.ifCond .ne 9, 3) := by decide +kernel
theorem dX5_orderAt_9 : decode cX5_orderAt 9 = .ok (.aload_n 0, 1) := by decide +kernel
theorem dX5_orderAt_10 : decode cX5_orderAt 10 = .ok (.iconst 1, 1) := by decide +kernel
theorem dX5_orderAt_11 : decode cX5_orderAt 11 = .ok (.invokevirtual 77, 3) := by decide +kernel
theorem dX5_orderAt_14 : decode cX5_orderAt 14 = .ok (.ireturn, 1) := by decide +kernel
theorem dX5_orderAt_15 : decode cX5_orderAt 15 = .ok (.aload_n 0, 1) := by decide +kernel
theorem dX5_orderAt_16 : decode cX5_orderAt 16 = .ok (.iload_n 1, 1) := by decide +kernel
theorem dX5_orderAt_17 : decode cX5_orderAt 17 = .ok (.invokevirtual 128, 3) := by decide +kernel
theorem dX5_orderAt_20 : decode cX5_orderAt 20 = .ok (.aload_n 0, 1) := by decide +kernel
theorem dX5_orderAt_21 : decode cX5_orderAt 21 = .ok (.getfield 16, 3) := by decide +kernel
theorem dX5_orderAt_24 : decode cX5_orderAt 24 = .ok (.if_icmp .ge 11, 3) := by decide +kernel
theorem dX5_orderAt_27 : decode cX5_orderAt 27 = .ok (.aload_n 0, 1) := by decide +kernel
theorem dX5_orderAt_28 : decode cX5_orderAt 28 = .ok (.iconst 2, 1) := by decide +kernel
theorem dX5_orderAt_29 : decode cX5_orderAt 29 = .ok (.invokevirtual 77, 3) := by decide +kernel
theorem dX5_orderAt_32 : decode cX5_orderAt 32 = .ok (.goto 13, 3) := by decide +kernel
theorem dX5_orderAt_35 : decode cX5_orderAt 35 = .ok (.aload_n 0, 1) := by decide +kernel
theorem dX5_orderAt_36 : decode cX5_orderAt 36 = .ok (.aload_n 0, 1) := by decide +kernel
theorem dX5_orderAt_37 : decode cX5_orderAt 37 = .ok (.getfield 42, 3) := by decide +kernel
theorem dX5_orderAt_40 : decode cX5_orderAt 40 = .ok (.iload_n 2, 1) := by decide +kernel
theorem dX5_orderAt_41 : decode cX5_orderAt 41 = .ok (.iaload, 1) := by decide +kernel
theorem dX5_orderAt_42 : decode cX5_orderAt 42 = .ok (.invokevirtual 80, 3) := by decide +kernel
theorem dX5_orderAt_45 : decode cX5_orderAt 45 = .ok (.ireturn, 1) := by decide +kernel
theorem dX5_longestWalk_0 : decode cX5_longestWalk 0 = .ok (.iload_n 1, 1) := by decide +kernel
theorem dX5_longestWalk_1 : decode cX5_longestWalk 1 = .ok (.invokestatic 55, 3) := by decide +kernel
theorem dX5_longestWalk_4 : decode cX5_longestWalk 4 = .ok (.ifCond .ne 9, 3) := by decide +kernel
theorem dX5_longestWalk_7 : decode cX5_longestWalk 7 = .ok (.aload_n 0, 1) := by decide +kernel
theorem dX5_longestWalk_8 : decode cX5_longestWalk 8 = .ok (.iconst 1, 1) := by decide +kernel
theorem dX5_longestWalk_9 : decode cX5_longestWalk 9 = .ok (.invokevirtual 77, 3) := by decide +kernel
theorem dX5_longestWalk_12 : decode cX5_longestWalk 12 = .ok (.ireturn, 1) := by decide +kernel
theorem dX5_longestWalk_13 : decode cX5_longestWalk 13 = .ok (.aload_n 0, 1) := by decide +kernel
theorem dX5_longestWalk_14 : decode cX5_longestWalk 14 = .ok (.iload_n 1, 1) := by decide +kernel
theorem dX5_longestWalk_15 : decode cX5_longestWalk 15 = .ok (.invokevirtual 128, 3) := by decide +kernel
theorem dX5_longestWalk_18 : decode cX5_longestWalk 18 = .ok (.aload_n 0, 1) := by decide +kernel
theorem dX5_longestWalk_19 : decode cX5_longestWalk 19 = .ok (.getfield 16, 3) := by decide +kernel
theorem dX5_longestWalk_22 : decode cX5_longestWalk 22 = .ok (.if_icmp .ge 9, 3) := by decide +kernel
theorem dX5_longestWalk_25 : decode cX5_longestWalk 25 = .ok (.aload_n 0, 1) := by decide +kernel
theorem dX5_longestWalk_26 : decode cX5_longestWalk 26 = .ok (.iconst 2, 1) := by decide +kernel
theorem dX5_longestWalk_27 : decode cX5_longestWalk 27 = .ok (.invokevirtual 77, 3) := by decide +kernel
theorem dX5_longestWalk_30 : decode cX5_longestWalk 30 = .ok (.ireturn, 1) := by decide +kernel
theorem dX5_longestWalk_31 : decode cX5_longestWalk 31 = .ok (.iconst 0, 1) := by decide +kernel
theorem dX5_longestWalk_32 : decode cX5_longestWalk 32 = .ok (.istore_n 2, 1) := by decide +kernel
theorem dX5_longestWalk_33 : decode cX5_longestWalk 33 = .ok (.iconst 0, 1) := by decide +kernel
theorem dX5_longestWalk_34 : decode cX5_longestWalk 34 = .ok (.istore_n 3, 1) := by decide +kernel
theorem dX5_longestWalk_35 : decode cX5_longestWalk 35 = .ok (.iload_n 3, 1) := by decide +kernel
theorem dX5_longestWalk_36 : decode cX5_longestWalk 36 = .ok (.aload_n 0, 1) := by decide +kernel
theorem dX5_longestWalk_37 : decode cX5_longestWalk 37 = .ok (.getfield 16, 3) := by decide +kernel
theorem dX5_longestWalk_40 : decode cX5_longestWalk 40 = .ok (.if_icmp .ge 119, 3) := by decide +kernel
theorem dX5_longestWalk_43 : decode cX5_longestWalk 43 = .ok (.aload_n 0, 1) := by decide +kernel
theorem dX5_longestWalk_44 : decode cX5_longestWalk 44 = .ok (.getfield 42, 3) := by decide +kernel
theorem dX5_longestWalk_47 : decode cX5_longestWalk 47 = .ok (.iload_n 3, 1) := by decide +kernel
theorem dX5_longestWalk_48 : decode cX5_longestWalk 48 = .ok (.iaload, 1) := by decide +kernel
theorem dX5_longestWalk_49 : decode cX5_longestWalk 49 = .ok (.istore 4, 2) := by decide +kernel
theorem dX5_longestWalk_51 : decode cX5_longestWalk 51 = .ok (.aload_n 0, 1) := by decide +kernel
theorem dX5_longestWalk_52 : decode cX5_longestWalk 52 = .ok (.getfield 45, 3) := by decide +kernel
theorem dX5_longestWalk_55 : decode cX5_longestWalk 55 = .ok (.iload 4, 2) := by decide +kernel
theorem dX5_longestWalk_57 : decode cX5_longestWalk 57 = .ok (.iconst 0, 1) := by decide +kernel
theorem dX5_longestWalk_58 : decode cX5_longestWalk 58 = .ok (.iastore, 1) := by decide +kernel
theorem dX5_longestWalk_59 : decode cX5_longestWalk 59 = .ok (.iconst 0, 1) := by decide +kernel
theorem dX5_longestWalk_60 : decode cX5_longestWalk 60 = .ok (.istore 5, 2) := by decide +kernel
theorem dX5_longestWalk_62 : decode cX5_longestWalk 62 = .ok (.iload 5, 2) := by decide +kernel
theorem dX5_longestWalk_64 : decode cX5_longestWalk 64 = .ok (.iload_n 3, 1) := by decide +kernel
theorem dX5_longestWalk_65 : decode cX5_longestWalk 65 = .ok (.if_icmp .ge 65, 3) := by decide +kernel
theorem dX5_longestWalk_68 : decode cX5_longestWalk 68 = .ok (.aload_n 0, 1) := by decide +kernel
theorem dX5_longestWalk_69 : decode cX5_longestWalk 69 = .ok (.getfield 42, 3) := by decide +kernel
theorem dX5_longestWalk_72 : decode cX5_longestWalk 72 = .ok (.iload 5, 2) := by decide +kernel
theorem dX5_longestWalk_74 : decode cX5_longestWalk 74 = .ok (.iaload, 1) := by decide +kernel
theorem dX5_longestWalk_75 : decode cX5_longestWalk 75 = .ok (.istore 6, 2) := by decide +kernel
theorem dX5_longestWalk_77 : decode cX5_longestWalk 77 = .ok (.aload_n 0, 1) := by decide +kernel
theorem dX5_longestWalk_78 : decode cX5_longestWalk 78 = .ok (.iload_n 1, 1) := by decide +kernel
theorem dX5_longestWalk_79 : decode cX5_longestWalk 79 = .ok (.iload 6, 2) := by decide +kernel
theorem dX5_longestWalk_81 : decode cX5_longestWalk 81 = .ok (.iload 4, 2) := by decide +kernel
theorem dX5_longestWalk_83 : decode cX5_longestWalk 83 = .ok (.invokevirtual 66, 3) := by decide +kernel
theorem dX5_longestWalk_86 : decode cX5_longestWalk 86 = .ok (.ifCond .eq 38, 3) := by decide +kernel
theorem dX5_longestWalk_89 : decode cX5_longestWalk 89 = .ok (.aload_n 0, 1) := by decide +kernel
theorem dX5_longestWalk_90 : decode cX5_longestWalk 90 = .ok (.getfield 45, 3) := by decide +kernel
theorem dX5_longestWalk_93 : decode cX5_longestWalk 93 = .ok (.iload 6, 2) := by decide +kernel
theorem dX5_longestWalk_95 : decode cX5_longestWalk 95 = .ok (.iaload, 1) := by decide +kernel
theorem dX5_longestWalk_96 : decode cX5_longestWalk 96 = .ok (.iconst 1, 1) := by decide +kernel
theorem dX5_longestWalk_97 : decode cX5_longestWalk 97 = .ok (.iadd, 1) := by decide +kernel
theorem dX5_longestWalk_98 : decode cX5_longestWalk 98 = .ok (.aload_n 0, 1) := by decide +kernel
theorem dX5_longestWalk_99 : decode cX5_longestWalk 99 = .ok (.getfield 45, 3) := by decide +kernel
theorem dX5_longestWalk_102 : decode cX5_longestWalk 102 = .ok (.iload 4, 2) := by decide +kernel
theorem dX5_longestWalk_104 : decode cX5_longestWalk 104 = .ok (.iaload, 1) := by decide +kernel
theorem dX5_longestWalk_105 : decode cX5_longestWalk 105 = .ok (.if_icmp .le 19, 3) := by decide +kernel
theorem dX5_longestWalk_108 : decode cX5_longestWalk 108 = .ok (.aload_n 0, 1) := by decide +kernel
theorem dX5_longestWalk_109 : decode cX5_longestWalk 109 = .ok (.getfield 45, 3) := by decide +kernel
theorem dX5_longestWalk_112 : decode cX5_longestWalk 112 = .ok (.iload 4, 2) := by decide +kernel
theorem dX5_longestWalk_114 : decode cX5_longestWalk 114 = .ok (.aload_n 0, 1) := by decide +kernel
theorem dX5_longestWalk_115 : decode cX5_longestWalk 115 = .ok (.getfield 45, 3) := by decide +kernel
theorem dX5_longestWalk_118 : decode cX5_longestWalk 118 = .ok (.iload 6, 2) := by decide +kernel
theorem dX5_longestWalk_120 : decode cX5_longestWalk 120 = .ok (.iaload, 1) := by decide +kernel
theorem dX5_longestWalk_121 : decode cX5_longestWalk 121 = .ok (.iconst 1, 1) := by decide +kernel
theorem dX5_longestWalk_122 : decode cX5_longestWalk 122 = .ok (.iadd, 1) := by decide +kernel
theorem dX5_longestWalk_123 : decode cX5_longestWalk 123 = .ok (.iastore, 1) := by decide +kernel
theorem dX5_longestWalk_124 : decode cX5_longestWalk 124 = .ok (.iinc 5 1, 3) := by decide +kernel
theorem dX5_longestWalk_127 : decode cX5_longestWalk 127 = .ok (.goto (-65), 3) := by decide +kernel
theorem dX5_longestWalk_130 : decode cX5_longestWalk 130 = .ok (.aload_n 0, 1) := by decide +kernel
theorem dX5_longestWalk_131 : decode cX5_longestWalk 131 = .ok (.getfield 45, 3) := by decide +kernel
theorem dX5_longestWalk_134 : decode cX5_longestWalk 134 = .ok (.iload 4, 2) := by decide +kernel
theorem dX5_longestWalk_136 : decode cX5_longestWalk 136 = .ok (.iaload, 1) := by decide +kernel
theorem dX5_longestWalk_137 : decode cX5_longestWalk 137 = .ok (.iload_n 2, 1) := by decide +kernel
theorem dX5_longestWalk_138 : decode cX5_longestWalk 138 = .ok (.if_icmp .le 13, 3) := by decide +kernel
theorem dX5_longestWalk_141 : decode cX5_longestWalk 141 = .ok (.aload_n 0, 1) := by decide +kernel
theorem dX5_longestWalk_142 : decode cX5_longestWalk 142 = .ok (.getfield 45, 3) := by decide +kernel
theorem dX5_longestWalk_145 : decode cX5_longestWalk 145 = .ok (.iload 4, 2) := by decide +kernel
theorem dX5_longestWalk_147 : decode cX5_longestWalk 147 = .ok (.iaload, 1) := by decide +kernel
theorem dX5_longestWalk_148 : decode cX5_longestWalk 148 = .ok (.goto 4, 3) := by decide +kernel
theorem dX5_longestWalk_151 : decode cX5_longestWalk 151 = .ok (.iload_n 2, 1) := by decide +kernel
theorem dX5_longestWalk_152 : decode cX5_longestWalk 152 = .ok (.istore_n 2, 1) := by decide +kernel
theorem dX5_longestWalk_153 : decode cX5_longestWalk 153 = .ok (.iinc 3 1, 3) := by decide +kernel
theorem dX5_longestWalk_156 : decode cX5_longestWalk 156 = .ok (.goto (-121), 3) := by decide +kernel
theorem dX5_longestWalk_159 : decode cX5_longestWalk 159 = .ok (.aload_n 0, 1) := by decide +kernel
theorem dX5_longestWalk_160 : decode cX5_longestWalk 160 = .ok (.iload_n 2, 1) := by decide +kernel
theorem dX5_longestWalk_161 : decode cX5_longestWalk 161 = .ok (.invokevirtual 80, 3) := by decide +kernel
theorem dX5_longestWalk_164 : decode cX5_longestWalk 164 = .ok (.ireturn, 1) := by decide +kernel
theorem dX5_marks_0 : decode cX5_marks 0 = .ok (.iconst 0, 1) := by decide +kernel
theorem dX5_marks_1 : decode cX5_marks 1 = .ok (.istore_n 1, 1) := by decide +kernel
theorem dX5_marks_2 : decode cX5_marks 2 = .ok (.iconst 0, 1) := by decide +kernel
theorem dX5_marks_3 : decode cX5_marks 3 = .ok (.istore_n 2, 1) := by decide +kernel
theorem dX5_marks_4 : decode cX5_marks 4 = .ok (.iload_n 2, 1) := by decide +kernel
theorem dX5_marks_5 : decode cX5_marks 5 = .ok (.aload_n 0, 1) := by decide +kernel
theorem dX5_marks_6 : decode cX5_marks 6 = .ok (.getfield 16, 3) := by decide +kernel
theorem dX5_marks_9 : decode cX5_marks 9 = .ok (.if_icmp .ge 26, 3) := by decide +kernel
theorem dX5_marks_12 : decode cX5_marks 12 = .ok (.iload_n 1, 1) := by decide +kernel
theorem dX5_marks_13 : decode cX5_marks 13 = .ok (.aload_n 0, 1) := by decide +kernel
theorem dX5_marks_14 : decode cX5_marks 14 = .ok (.getfield 13, 3) := by decide +kernel
theorem dX5_marks_17 : decode cX5_marks 17 = .ok (.iload_n 2, 1) := by decide +kernel
theorem dX5_marks_18 : decode cX5_marks 18 = .ok (.baload, 1) := by decide +kernel
theorem dX5_marks_19 : decode cX5_marks 19 = .ok (.ifCond .eq 7, 3) := by decide +kernel
theorem dX5_marks_22 : decode cX5_marks 22 = .ok (.iconst 1, 1) := by decide +kernel
theorem dX5_marks_23 : decode cX5_marks 23 = .ok (.goto 4, 3) := by decide +kernel
theorem dX5_marks_26 : decode cX5_marks 26 = .ok (.iconst 0, 1) := by decide +kernel
theorem dX5_marks_27 : decode cX5_marks 27 = .ok (.iadd, 1) := by decide +kernel
theorem dX5_marks_28 : decode cX5_marks 28 = .ok (.istore_n 1, 1) := by decide +kernel
theorem dX5_marks_29 : decode cX5_marks 29 = .ok (.iinc 2 1, 3) := by decide +kernel
theorem dX5_marks_32 : decode cX5_marks 32 = .ok (.goto (-28), 3) := by decide +kernel
theorem dX5_marks_35 : decode cX5_marks 35 = .ok (.iload_n 1, 1) := by decide +kernel
theorem dX5_marks_36 : decode cX5_marks 36 = .ok (.ireturn, 1) := by decide +kernel
theorem dX5_mark_0 : decode cX5_mark 0 = .ok (.aload_n 0, 1) := by decide +kernel
theorem dX5_mark_1 : decode cX5_mark 1 = .ok (.iload_n 1, 1) := by decide +kernel
theorem dX5_mark_2 : decode cX5_mark 2 = .ok (.iload_n 2, 1) := by decide +kernel
theorem dX5_mark_3 : decode cX5_mark 3 = .ok (.invokevirtual 94, 3) := by decide +kernel
theorem dX5_mark_6 : decode cX5_mark 6 = .ok (.ifCond .ne 9, 3) := by decide +kernel
theorem dX5_mark_9 : decode cX5_mark 9 = .ok (.aload_n 0, 1) := by decide +kernel
theorem dX5_mark_10 : decode cX5_mark 10 = .ok (.iconst 1, 1) := by decide +kernel
theorem dX5_mark_11 : decode cX5_mark 11 = .ok (.invokevirtual 77, 3) := by decide +kernel
theorem dX5_mark_14 : decode cX5_mark 14 = .ok (.ireturn, 1) := by decide +kernel
theorem dX5_mark_15 : decode cX5_mark 15 = .ok (.iload_n 1, 1) := by decide +kernel
theorem dX5_mark_16 : decode cX5_mark 16 = .ok (.istore 4, 2) := by decide +kernel
theorem dX5_mark_18 : decode cX5_mark 18 = .ok (.iload 4, 2) := by decide +kernel
theorem dX5_mark_20 : decode cX5_mark 20 = .ok (.iload_n 2, 1) := by decide +kernel
theorem dX5_mark_21 : decode cX5_mark 21 = .ok (.if_icmp .ge 17, 3) := by decide +kernel
theorem dX5_mark_24 : decode cX5_mark 24 = .ok (.aload_n 0, 1) := by decide +kernel
theorem dX5_mark_25 : decode cX5_mark 25 = .ok (.getfield 13, 3) := by decide +kernel
theorem dX5_mark_28 : decode cX5_mark 28 = .ok (.iload 4, 2) := by decide +kernel
theorem dX5_mark_30 : decode cX5_mark 30 = .ok (.iload_n 3, 1) := by decide +kernel
theorem dX5_mark_31 : decode cX5_mark 31 = .ok (.bastore, 1) := by decide +kernel
theorem dX5_mark_32 : decode cX5_mark 32 = .ok (.iinc 4 1, 3) := by decide +kernel
theorem dX5_mark_35 : decode cX5_mark 35 = .ok (.goto (-17), 3) := by decide +kernel
theorem dX5_mark_38 : decode cX5_mark 38 = .ok (.aload_n 0, 1) := by decide +kernel
theorem dX5_mark_39 : decode cX5_mark 39 = .ok (.aload_n 0, 1) := by decide +kernel
theorem dX5_mark_40 : decode cX5_mark 40 = .ok (.invokevirtual 131, 3) := by decide +kernel
theorem dX5_mark_43 : decode cX5_mark 43 = .ok (.invokevirtual 80, 3) := by decide +kernel
theorem dX5_mark_46 : decode cX5_mark 46 = .ok (.ireturn, 1) := by decide +kernel
theorem dX5_spread_0 : decode cX5_spread 0 = .ok (.iload_n 1, 1) := by decide +kernel
theorem dX5_spread_1 : decode cX5_spread 1 = .ok (.invokestatic 55, 3) := by decide +kernel
theorem dX5_spread_4 : decode cX5_spread 4 = .ok (.ifCond .ne 9, 3) := by decide +kernel
theorem dX5_spread_7 : decode cX5_spread 7 = .ok (.aload_n 0, 1) := by decide +kernel
theorem dX5_spread_8 : decode cX5_spread 8 = .ok (.iconst 1, 1) := by decide +kernel
theorem dX5_spread_9 : decode cX5_spread 9 = .ok (.invokevirtual 77, 3) := by decide +kernel
theorem dX5_spread_12 : decode cX5_spread 12 = .ok (.ireturn, 1) := by decide +kernel
theorem dX5_spread_13 : decode cX5_spread 13 = .ok (.iconst 0, 1) := by decide +kernel
theorem dX5_spread_14 : decode cX5_spread 14 = .ok (.istore_n 3, 1) := by decide +kernel
theorem dX5_spread_15 : decode cX5_spread 15 = .ok (.iload_n 3, 1) := by decide +kernel
theorem dX5_spread_16 : decode cX5_spread 16 = .ok (.aload_n 0, 1) := by decide +kernel
theorem dX5_spread_17 : decode cX5_spread 17 = .ok (.getfield 16, 3) := by decide +kernel
theorem dX5_spread_20 : decode cX5_spread 20 = .ok (.if_icmp .ge 21, 3) := by decide +kernel
theorem dX5_spread_23 : decode cX5_spread 23 = .ok (.aload_n 0, 1) := by decide +kernel
theorem dX5_spread_24 : decode cX5_spread 24 = .ok (.getfield 32, 3) := by decide +kernel
theorem dX5_spread_27 : decode cX5_spread 27 = .ok (.iload_n 3, 1) := by decide +kernel
theorem dX5_spread_28 : decode cX5_spread 28 = .ok (.aload_n 0, 1) := by decide +kernel
theorem dX5_spread_29 : decode cX5_spread 29 = .ok (.getfield 13, 3) := by decide +kernel
theorem dX5_spread_32 : decode cX5_spread 32 = .ok (.iload_n 3, 1) := by decide +kernel
theorem dX5_spread_33 : decode cX5_spread 33 = .ok (.baload, 1) := by decide +kernel
theorem dX5_spread_34 : decode cX5_spread 34 = .ok (.bastore, 1) := by decide +kernel
theorem dX5_spread_35 : decode cX5_spread 35 = .ok (.iinc 3 1, 3) := by decide +kernel
theorem dX5_spread_38 : decode cX5_spread 38 = .ok (.goto (-23), 3) := by decide +kernel
theorem dX5_spread_41 : decode cX5_spread 41 = .ok (.iconst 0, 1) := by decide +kernel
theorem dX5_spread_42 : decode cX5_spread 42 = .ok (.istore_n 3, 1) := by decide +kernel
theorem dX5_spread_43 : decode cX5_spread 43 = .ok (.iload_n 3, 1) := by decide +kernel
theorem dX5_spread_44 : decode cX5_spread 44 = .ok (.aload_n 0, 1) := by decide +kernel
theorem dX5_spread_45 : decode cX5_spread 45 = .ok (.getfield 16, 3) := by decide +kernel
theorem dX5_spread_48 : decode cX5_spread 48 = .ok (.if_icmp .ge 88, 3) := by decide +kernel
theorem dX5_spread_51 : decode cX5_spread 51 = .ok (.iload_n 2, 1) := by decide +kernel
theorem dX5_spread_52 : decode cX5_spread 52 = .ok (.ifCond .eq 16, 3) := by decide +kernel
theorem dX5_spread_55 : decode cX5_spread 55 = .ok (.aload_n 0, 1) := by decide +kernel
theorem dX5_spread_56 : decode cX5_spread 56 = .ok (.getfield 32, 3) := by decide +kernel
theorem dX5_spread_59 : decode cX5_spread 59 = .ok (.iload_n 3, 1) := by decide +kernel
theorem dX5_spread_60 : decode cX5_spread 60 = .ok (.baload, 1) := by decide +kernel
theorem dX5_spread_61 : decode cX5_spread 61 = .ok (.ifCond .eq 7, 3) := by decide +kernel
theorem dX5_spread_64 : decode cX5_spread 64 = .ok (.iconst 1, 1) := by decide +kernel
theorem dX5_spread_65 : decode cX5_spread 65 = .ok (.goto 4, 3) := by decide +kernel
theorem dX5_spread_68 : decode cX5_spread 68 = .ok (.iconst 0, 1) := by decide +kernel
theorem dX5_spread_69 : decode cX5_spread 69 = .ok (.istore 4, 2) := by decide +kernel
theorem dX5_spread_71 : decode cX5_spread 71 = .ok (.iconst 0, 1) := by decide +kernel
theorem dX5_spread_72 : decode cX5_spread 72 = .ok (.istore 5, 2) := by decide +kernel
theorem dX5_spread_74 : decode cX5_spread 74 = .ok (.iload 5, 2) := by decide +kernel
theorem dX5_spread_76 : decode cX5_spread 76 = .ok (.aload_n 0, 1) := by decide +kernel
theorem dX5_spread_77 : decode cX5_spread 77 = .ok (.getfield 16, 3) := by decide +kernel
theorem dX5_spread_80 : decode cX5_spread 80 = .ok (.if_icmp .ge 42, 3) := by decide +kernel
theorem dX5_spread_83 : decode cX5_spread 83 = .ok (.iload 4, 2) := by decide +kernel
theorem dX5_spread_85 : decode cX5_spread 85 = .ok (.ifCond .ne 24, 3) := by decide +kernel
theorem dX5_spread_88 : decode cX5_spread 88 = .ok (.aload_n 0, 1) := by decide +kernel
theorem dX5_spread_89 : decode cX5_spread 89 = .ok (.getfield 32, 3) := by decide +kernel
theorem dX5_spread_92 : decode cX5_spread 92 = .ok (.iload 5, 2) := by decide +kernel
theorem dX5_spread_94 : decode cX5_spread 94 = .ok (.baload, 1) := by decide +kernel
theorem dX5_spread_95 : decode cX5_spread 95 = .ok (.ifCond .eq 18, 3) := by decide +kernel
theorem dX5_spread_98 : decode cX5_spread 98 = .ok (.aload_n 0, 1) := by decide +kernel
theorem dX5_spread_99 : decode cX5_spread 99 = .ok (.iload_n 1, 1) := by decide +kernel
theorem dX5_spread_100 : decode cX5_spread 100 = .ok (.iload 5, 2) := by decide +kernel
theorem dX5_spread_102 : decode cX5_spread 102 = .ok (.iload_n 3, 1) := by decide +kernel
theorem dX5_spread_103 : decode cX5_spread 103 = .ok (.invokevirtual 66, 3) := by decide +kernel
theorem dX5_spread_106 : decode cX5_spread 106 = .ok (.ifCond .eq 7, 3) := by decide +kernel
theorem dX5_spread_109 : decode cX5_spread 109 = .ok (.iconst 1, 1) := by decide +kernel
theorem dX5_spread_110 : decode cX5_spread 110 = .ok (.goto 4, 3) := by decide +kernel
theorem dX5_spread_113 : decode cX5_spread 113 = .ok (.iconst 0, 1) := by decide +kernel
theorem dX5_spread_114 : decode cX5_spread 114 = .ok (.istore 4, 2) := by decide +kernel
theorem dX5_spread_116 : decode cX5_spread 116 = .ok (.iinc 5 1, 3) := by decide +kernel
theorem dX5_spread_119 : decode cX5_spread 119 = .ok (.goto (-45), 3) := by decide +kernel
theorem dX5_spread_122 : decode cX5_spread 122 = .ok (.aload_n 0, 1) := by decide +kernel
theorem dX5_spread_123 : decode cX5_spread 123 = .ok (.getfield 13, 3) := by decide +kernel
theorem dX5_spread_126 : decode cX5_spread 126 = .ok (.iload_n 3, 1) := by decide +kernel
theorem dX5_spread_127 : decode cX5_spread 127 = .ok (.iload 4, 2) := by decide +kernel
theorem dX5_spread_129 : decode cX5_spread 129 = .ok (.bastore, 1) := by decide +kernel
theorem dX5_spread_130 : decode cX5_spread 130 = .ok (.iinc 3 1, 3) := by decide +kernel
theorem dX5_spread_133 : decode cX5_spread 133 = .ok (.goto (-90), 3) := by decide +kernel
theorem dX5_spread_136 : decode cX5_spread 136 = .ok (.aload_n 0, 1) := by decide +kernel
theorem dX5_spread_137 : decode cX5_spread 137 = .ok (.aload_n 0, 1) := by decide +kernel
theorem dX5_spread_138 : decode cX5_spread 138 = .ok (.invokevirtual 131, 3) := by decide +kernel
theorem dX5_spread_141 : decode cX5_spread 141 = .ok (.invokevirtual 80, 3) := by decide +kernel
theorem dX5_spread_144 : decode cX5_spread 144 = .ok (.ireturn, 1) := by decide +kernel
theorem dX5_markedAt_0 : decode cX5_markedAt 0 = .ok (.iload_n 1, 1) := by decide +kernel
theorem dX5_markedAt_1 : decode cX5_markedAt 1 = .ok (.istore_n 2, 1) := by decide +kernel
theorem dX5_markedAt_2 : decode cX5_markedAt 2 = .ok (.iconst 0, 1) := by decide +kernel
theorem dX5_markedAt_3 : decode cX5_markedAt 3 = .ok (.istore_n 3, 1) := by decide +kernel
theorem dX5_markedAt_4 : decode cX5_markedAt 4 = .ok (.iload_n 3, 1) := by decide +kernel
theorem dX5_markedAt_5 : decode cX5_markedAt 5 = .ok (.aload_n 0, 1) := by decide +kernel
theorem dX5_markedAt_6 : decode cX5_markedAt 6 = .ok (.getfield 16, 3) := by decide +kernel
theorem dX5_markedAt_9 : decode cX5_markedAt 9 = .ok (.if_icmp .ge 35, 3) := by decide +kernel
theorem dX5_markedAt_12 : decode cX5_markedAt 12 = .ok (.iload_n 1, 1) := by decide +kernel
theorem dX5_markedAt_13 : decode cX5_markedAt 13 = .ok (.ifCond .lt 31, 3) := by decide +kernel
theorem dX5_markedAt_16 : decode cX5_markedAt 16 = .ok (.aload_n 0, 1) := by decide +kernel
theorem dX5_markedAt_17 : decode cX5_markedAt 17 = .ok (.getfield 13, 3) := by decide +kernel
theorem dX5_markedAt_20 : decode cX5_markedAt 20 = .ok (.iload_n 3, 1) := by decide +kernel
theorem dX5_markedAt_21 : decode cX5_markedAt 21 = .ok (.baload, 1) := by decide +kernel
theorem dX5_markedAt_22 : decode cX5_markedAt 22 = .ok (.ifCond .eq 16, 3) := by decide +kernel
theorem dX5_markedAt_25 : decode cX5_markedAt 25 = .ok (.iload_n 2, 1) := by decide +kernel
theorem dX5_markedAt_26 : decode cX5_markedAt 26 = .ok (.ifCond .ne 9, 3) := by decide +kernel
theorem dX5_markedAt_29 : decode cX5_markedAt 29 = .ok (.aload_n 0, 1) := by decide +kernel
theorem dX5_markedAt_30 : decode cX5_markedAt 30 = .ok (.iload_n 3, 1) := by decide +kernel
theorem dX5_markedAt_31 : decode cX5_markedAt 31 = .ok (.invokevirtual 80, 3) := by decide +kernel
theorem dX5_markedAt_34 : decode cX5_markedAt 34 = .ok (.ireturn, 1) := by decide +kernel
theorem dX5_markedAt_35 : decode cX5_markedAt 35 = .ok (.iinc 2 (-1), 3) := by decide +kernel
theorem dX5_markedAt_38 : decode cX5_markedAt 38 = .ok (.iinc 3 1, 3) := by decide +kernel
theorem dX5_markedAt_41 : decode cX5_markedAt 41 = .ok (.goto (-37), 3) := by decide +kernel
theorem dX5_markedAt_44 : decode cX5_markedAt 44 = .ok (.aload_n 0, 1) := by decide +kernel
theorem dX5_markedAt_45 : decode cX5_markedAt 45 = .ok (.iconst 1, 1) := by decide +kernel
theorem dX5_markedAt_46 : decode cX5_markedAt 46 = .ok (.invokevirtual 77, 3) := by decide +kernel
theorem dX5_markedAt_49 : decode cX5_markedAt 49 = .ok (.ireturn, 1) := by decide +kernel
theorem dX5_endOfMarks_0 : decode cX5_endOfMarks 0 = .ok (.iconst 0, 1) := by decide +kernel
theorem dX5_endOfMarks_1 : decode cX5_endOfMarks 1 = .ok (.istore_n 1, 1) := by decide +kernel
theorem dX5_endOfMarks_2 : decode cX5_endOfMarks 2 = .ok (.iconst 0, 1) := by decide +kernel
theorem dX5_endOfMarks_3 : decode cX5_endOfMarks 3 = .ok (.istore_n 2, 1) := by decide +kernel
theorem dX5_endOfMarks_4 : decode cX5_endOfMarks 4 = .ok (.iload_n 2, 1) := by decide +kernel
theorem dX5_endOfMarks_5 : decode cX5_endOfMarks 5 = .ok (.aload_n 0, 1) := by decide +kernel
theorem dX5_endOfMarks_6 : decode cX5_endOfMarks 6 = .ok (.getfield 16, 3) := by decide +kernel
theorem dX5_endOfMarks_9 : decode cX5_endOfMarks 9 = .ok (.if_icmp .ge 26, 3) := by decide +kernel
theorem dX5_endOfMarks_12 : decode cX5_endOfMarks 12 = .ok (.aload_n 0, 1) := by decide +kernel
theorem dX5_endOfMarks_13 : decode cX5_endOfMarks 13 = .ok (.getfield 13, 3) := by decide +kernel
theorem dX5_endOfMarks_16 : decode cX5_endOfMarks 16 = .ok (.iload_n 2, 1) := by decide +kernel
theorem dX5_endOfMarks_17 : decode cX5_endOfMarks 17 = .ok (.baload, 1) := by decide +kernel
theorem dX5_endOfMarks_18 : decode cX5_endOfMarks 18 = .ok (.ifCond .eq 9, 3) := by decide +kernel
theorem dX5_endOfMarks_21 : decode cX5_endOfMarks 21 = .ok (.iload_n 2, 1) := by decide +kernel
theorem dX5_endOfMarks_22 : decode cX5_endOfMarks 22 = .ok (.iconst 1, 1) := by decide +kernel
theorem dX5_endOfMarks_23 : decode cX5_endOfMarks 23 = .ok (.iadd, 1) := by decide +kernel
theorem dX5_endOfMarks_24 : decode cX5_endOfMarks 24 = .ok (.goto 4, 3) := by decide +kernel
theorem dX5_endOfMarks_27 : decode cX5_endOfMarks 27 = .ok (.iload_n 1, 1) := by decide +kernel
theorem dX5_endOfMarks_28 : decode cX5_endOfMarks 28 = .ok (.istore_n 1, 1) := by decide +kernel
theorem dX5_endOfMarks_29 : decode cX5_endOfMarks 29 = .ok (.iinc 2 1, 3) := by decide +kernel
theorem dX5_endOfMarks_32 : decode cX5_endOfMarks 32 = .ok (.goto (-28), 3) := by decide +kernel
theorem dX5_endOfMarks_35 : decode cX5_endOfMarks 35 = .ok (.aload_n 0, 1) := by decide +kernel
theorem dX5_endOfMarks_36 : decode cX5_endOfMarks 36 = .ok (.iload_n 1, 1) := by decide +kernel
theorem dX5_endOfMarks_37 : decode cX5_endOfMarks 37 = .ok (.invokevirtual 80, 3) := by decide +kernel
theorem dX5_endOfMarks_40 : decode cX5_endOfMarks 40 = .ok (.ireturn, 1) := by decide +kernel
theorem dX5_meanRow_0 : decode cX5_meanRow 0 = .ok (.aload_n 0, 1) := by decide +kernel
theorem dX5_meanRow_1 : decode cX5_meanRow 1 = .ok (.iload_n 1, 1) := by decide +kernel
theorem dX5_meanRow_2 : decode cX5_meanRow 2 = .ok (.invokestatic 55, 3) := by decide +kernel
theorem dX5_meanRow_5 : decode cX5_meanRow 5 = .ok (.ifCond .eq 7, 3) := by decide +kernel
theorem dX5_meanRow_8 : decode cX5_meanRow 8 = .ok (.iconst 0, 1) := by decide +kernel
theorem dX5_meanRow_9 : decode cX5_meanRow 9 = .ok (.goto 4, 3) := by decide +kernel
theorem dX5_meanRow_12 : decode cX5_meanRow 12 = .ok (.iconst 1, 1) := by decide +kernel
theorem dX5_meanRow_13 : decode cX5_meanRow 13 = .ok (.putfield 48, 3) := by decide +kernel
theorem dX5_meanRow_16 : decode cX5_meanRow 16 = .ok (.aload_n 0, 1) := by decide +kernel
theorem dX5_meanRow_17 : decode cX5_meanRow 17 = .ok (.getfield 48, 3) := by decide +kernel
theorem dX5_meanRow_20 : decode cX5_meanRow 20 = .ok (.ifCond .eq 7, 3) := by decide +kernel
theorem dX5_meanRow_23 : decode cX5_meanRow 23 = .ok (.dconst 0, 1) := by decide +kernel
theorem dX5_meanRow_24 : decode cX5_meanRow 24 = .ok (.goto 15, 3) := by decide +kernel
theorem dX5_meanRow_27 : decode cX5_meanRow 27 = .ok (.aload_n 0, 1) := by decide +kernel
theorem dX5_meanRow_28 : decode cX5_meanRow 28 = .ok (.iload_n 1, 1) := by decide +kernel
theorem dX5_meanRow_29 : decode cX5_meanRow 29 = .ok (.invokevirtual 73, 3) := by decide +kernel
theorem dX5_meanRow_32 : decode cX5_meanRow 32 = .ok (.i2d, 1) := by decide +kernel
theorem dX5_meanRow_33 : decode cX5_meanRow 33 = .ok (.aload_n 0, 1) := by decide +kernel
theorem dX5_meanRow_34 : decode cX5_meanRow 34 = .ok (.getfield 16, 3) := by decide +kernel
theorem dX5_meanRow_37 : decode cX5_meanRow 37 = .ok (.i2d, 1) := by decide +kernel
theorem dX5_meanRow_38 : decode cX5_meanRow 38 = .ok (.ddiv, 1) := by decide +kernel
theorem dX5_meanRow_39 : decode cX5_meanRow 39 = .ok (.dreturn, 1) := by decide +kernel
theorem dX5_share_0 : decode cX5_share 0 = .ok (.aload_n 0, 1) := by decide +kernel
theorem dX5_share_1 : decode cX5_share 1 = .ok (.iload_n 1, 1) := by decide +kernel
theorem dX5_share_2 : decode cX5_share 2 = .ok (.invokestatic 55, 3) := by decide +kernel
theorem dX5_share_5 : decode cX5_share 5 = .ok (.ifCond .eq 7, 3) := by decide +kernel
theorem dX5_share_8 : decode cX5_share 8 = .ok (.iconst 0, 1) := by decide +kernel
theorem dX5_share_9 : decode cX5_share 9 = .ok (.goto 4, 3) := by decide +kernel
theorem dX5_share_12 : decode cX5_share 12 = .ok (.iconst 1, 1) := by decide +kernel
theorem dX5_share_13 : decode cX5_share 13 = .ok (.putfield 48, 3) := by decide +kernel
theorem dX5_share_16 : decode cX5_share 16 = .ok (.aload_n 0, 1) := by decide +kernel
theorem dX5_share_17 : decode cX5_share 17 = .ok (.getfield 48, 3) := by decide +kernel
theorem dX5_share_20 : decode cX5_share 20 = .ok (.ifCond .eq 7, 3) := by decide +kernel
theorem dX5_share_23 : decode cX5_share 23 = .ok (.fconst 0, 1) := by decide +kernel
theorem dX5_share_24 : decode cX5_share 24 = .ok (.goto 20, 3) := by decide +kernel
theorem dX5_share_27 : decode cX5_share 27 = .ok (.aload_n 0, 1) := by decide +kernel
theorem dX5_share_28 : decode cX5_share 28 = .ok (.iload_n 1, 1) := by decide +kernel
theorem dX5_share_29 : decode cX5_share 29 = .ok (.invokevirtual 73, 3) := by decide +kernel
theorem dX5_share_32 : decode cX5_share 32 = .ok (.i2f, 1) := by decide +kernel
theorem dX5_share_33 : decode cX5_share 33 = .ok (.aload_n 0, 1) := by decide +kernel
theorem dX5_share_34 : decode cX5_share 34 = .ok (.getfield 16, 3) := by decide +kernel
theorem dX5_share_37 : decode cX5_share 37 = .ok (.aload_n 0, 1) := by decide +kernel
theorem dX5_share_38 : decode cX5_share 38 = .ok (.getfield 16, 3) := by decide +kernel
theorem dX5_share_41 : decode cX5_share 41 = .ok (.imul, 1) := by decide +kernel
theorem dX5_share_42 : decode cX5_share 42 = .ok (.i2f, 1) := by decide +kernel
theorem dX5_share_43 : decode cX5_share 43 = .ok (.fdiv, 1) := by decide +kernel
theorem dX5_share_44 : decode cX5_share 44 = .ok (.freturn, 1) := by decide +kernel
theorem dX5_isClosed_0 : decode cX5_isClosed 0 = .ok (.aload_n 0, 1) := by decide +kernel
theorem dX5_isClosed_1 : decode cX5_isClosed 1 = .ok (.iload_n 1, 1) := by decide +kernel
theorem dX5_isClosed_2 : decode cX5_isClosed 2 = .ok (.invokevirtual 108, 3) := by decide +kernel
theorem dX5_isClosed_5 : decode cX5_isClosed 5 = .ok (.iconst 0, 1) := by decide +kernel
theorem dX5_isClosed_6 : decode cX5_isClosed 6 = .ok (.istore_n 2, 1) := by decide +kernel
theorem dX5_isClosed_7 : decode cX5_isClosed 7 = .ok (.iload_n 2, 1) := by decide +kernel
theorem dX5_isClosed_8 : decode cX5_isClosed 8 = .ok (.aload_n 0, 1) := by decide +kernel
theorem dX5_isClosed_9 : decode cX5_isClosed 9 = .ok (.getfield 16, 3) := by decide +kernel
theorem dX5_isClosed_12 : decode cX5_isClosed 12 = .ok (.if_icmp .ge 112, 3) := by decide +kernel
theorem dX5_isClosed_15 : decode cX5_isClosed 15 = .ok (.iconst 0, 1) := by decide +kernel
theorem dX5_isClosed_16 : decode cX5_isClosed 16 = .ok (.istore_n 3, 1) := by decide +kernel
theorem dX5_isClosed_17 : decode cX5_isClosed 17 = .ok (.iload_n 3, 1) := by decide +kernel
theorem dX5_isClosed_18 : decode cX5_isClosed 18 = .ok (.aload_n 0, 1) := by decide +kernel
theorem dX5_isClosed_19 : decode cX5_isClosed 19 = .ok (.getfield 16, 3) := by decide +kernel
theorem dX5_isClosed_22 : decode cX5_isClosed 22 = .ok (.if_icmp .ge 96, 3) := by decide +kernel
theorem dX5_isClosed_25 : decode cX5_isClosed 25 = .ok (.aload_n 0, 1) := by decide +kernel
theorem dX5_isClosed_26 : decode cX5_isClosed 26 = .ok (.getfield 20, 3) := by decide +kernel
theorem dX5_isClosed_29 : decode cX5_isClosed 29 = .ok (.bipush 80, 2) := by decide +kernel
theorem dX5_isClosed_31 : decode cX5_isClosed 31 = .ok (.iload_n 2, 1) := by decide +kernel
theorem dX5_isClosed_32 : decode cX5_isClosed 32 = .ok (.imul, 1) := by decide +kernel
theorem dX5_isClosed_33 : decode cX5_isClosed 33 = .ok (.iload_n 3, 1) := by decide +kernel
theorem dX5_isClosed_34 : decode cX5_isClosed 34 = .ok (.iadd, 1) := by decide +kernel
theorem dX5_isClosed_35 : decode cX5_isClosed 35 = .ok (.baload, 1) := by decide +kernel
theorem dX5_isClosed_36 : decode cX5_isClosed 36 = .ok (.istore 4, 2) := by decide +kernel
theorem dX5_isClosed_38 : decode cX5_isClosed 38 = .ok (.aload_n 0, 1) := by decide +kernel
theorem dX5_isClosed_39 : decode cX5_isClosed 39 = .ok (.iload_n 1, 1) := by decide +kernel
theorem dX5_isClosed_40 : decode cX5_isClosed 40 = .ok (.iload_n 2, 1) := by decide +kernel
theorem dX5_isClosed_41 : decode cX5_isClosed 41 = .ok (.iload_n 3, 1) := by decide +kernel
theorem dX5_isClosed_42 : decode cX5_isClosed 42 = .ok (.invokevirtual 66, 3) := by decide +kernel
theorem dX5_isClosed_45 : decode cX5_isClosed 45 = .ok (.istore 5, 2) := by decide +kernel
theorem dX5_isClosed_47 : decode cX5_isClosed 47 = .ok (.iconst 0, 1) := by decide +kernel
theorem dX5_isClosed_48 : decode cX5_isClosed 48 = .ok (.istore 6, 2) := by decide +kernel
theorem dX5_isClosed_50 : decode cX5_isClosed 50 = .ok (.iload 6, 2) := by decide +kernel
theorem dX5_isClosed_52 : decode cX5_isClosed 52 = .ok (.aload_n 0, 1) := by decide +kernel
theorem dX5_isClosed_53 : decode cX5_isClosed 53 = .ok (.getfield 16, 3) := by decide +kernel
theorem dX5_isClosed_56 : decode cX5_isClosed 56 = .ok (.if_icmp .ge 47, 3) := by decide +kernel
theorem dX5_isClosed_59 : decode cX5_isClosed 59 = .ok (.iload 5, 2) := by decide +kernel
theorem dX5_isClosed_61 : decode cX5_isClosed 61 = .ok (.ifCond .ne 42, 3) := by decide +kernel
theorem dX5_isClosed_64 : decode cX5_isClosed 64 = .ok (.aload_n 0, 1) := by decide +kernel
theorem dX5_isClosed_65 : decode cX5_isClosed 65 = .ok (.iload_n 1, 1) := by decide +kernel
theorem dX5_isClosed_66 : decode cX5_isClosed 66 = .ok (.iload_n 2, 1) := by decide +kernel
theorem dX5_isClosed_67 : decode cX5_isClosed 67 = .ok (.iload 6, 2) := by decide +kernel
theorem dX5_isClosed_69 : decode cX5_isClosed 69 = .ok (.invokevirtual 66, 3) := by decide +kernel
theorem dX5_isClosed_72 : decode cX5_isClosed 72 = .ok (.ifCond .eq 22, 3) := by decide +kernel
theorem dX5_isClosed_75 : decode cX5_isClosed 75 = .ok (.aload_n 0, 1) := by decide +kernel
theorem dX5_isClosed_76 : decode cX5_isClosed 76 = .ok (.getfield 20, 3) := by decide +kernel
theorem dX5_isClosed_79 : decode cX5_isClosed 79 = .ok (.bipush 80, 2) := by decide +kernel
theorem dX5_isClosed_81 : decode cX5_isClosed 81 = .ok (.iload 6, 2) := by decide +kernel
theorem dX5_isClosed_83 : decode cX5_isClosed 83 = .ok (.imul, 1) := by decide +kernel
theorem dX5_isClosed_84 : decode cX5_isClosed 84 = .ok (.iload_n 3, 1) := by decide +kernel
theorem dX5_isClosed_85 : decode cX5_isClosed 85 = .ok (.iadd, 1) := by decide +kernel
theorem dX5_isClosed_86 : decode cX5_isClosed 86 = .ok (.baload, 1) := by decide +kernel
theorem dX5_isClosed_87 : decode cX5_isClosed 87 = .ok (.ifCond .eq 7, 3) := by decide +kernel
theorem dX5_isClosed_90 : decode cX5_isClosed 90 = .ok (.iconst 1, 1) := by decide +kernel
theorem dX5_isClosed_91 : decode cX5_isClosed 91 = .ok (.goto 4, 3) := by decide +kernel
theorem dX5_isClosed_94 : decode cX5_isClosed 94 = .ok (.iconst 0, 1) := by decide +kernel
theorem dX5_isClosed_95 : decode cX5_isClosed 95 = .ok (.istore 5, 2) := by decide +kernel
theorem dX5_isClosed_97 : decode cX5_isClosed 97 = .ok (.iinc 6 1, 3) := by decide +kernel
theorem dX5_isClosed_100 : decode cX5_isClosed 100 = .ok (.goto (-50), 3) := by decide +kernel
theorem dX5_isClosed_103 : decode cX5_isClosed 103 = .ok (.iload 4, 2) := by decide +kernel
theorem dX5_isClosed_105 : decode cX5_isClosed 105 = .ok (.iload 5, 2) := by decide +kernel
theorem dX5_isClosed_107 : decode cX5_isClosed 107 = .ok (.if_icmp .eq 5, 3) := by decide +kernel
theorem dX5_isClosed_110 : decode cX5_isClosed 110 = .ok (.iconst 0, 1) := by decide +kernel
theorem dX5_isClosed_111 : decode cX5_isClosed 111 = .ok (.ireturn, 1) := by decide +kernel
theorem dX5_isClosed_112 : decode cX5_isClosed 112 = .ok (.iinc 3 1, 3) := by decide +kernel
theorem dX5_isClosed_115 : decode cX5_isClosed 115 = .ok (.goto (-98), 3) := by decide +kernel
theorem dX5_isClosed_118 : decode cX5_isClosed 118 = .ok (.iinc 2 1, 3) := by decide +kernel
theorem dX5_isClosed_121 : decode cX5_isClosed 121 = .ok (.goto (-114), 3) := by decide +kernel
theorem dX5_isClosed_124 : decode cX5_isClosed 124 = .ok (.iconst 1, 1) := by decide +kernel
theorem dX5_isClosed_125 : decode cX5_isClosed 125 = .ok (.ireturn, 1) := by decide +kernel
theorem dX5_isOrdered_0 : decode cX5_isOrdered 0 = .ok (.aload_n 0, 1) := by decide +kernel
theorem dX5_isOrdered_1 : decode cX5_isOrdered 1 = .ok (.iload_n 1, 1) := by decide +kernel
theorem dX5_isOrdered_2 : decode cX5_isOrdered 2 = .ok (.invokevirtual 128, 3) := by decide +kernel
theorem dX5_isOrdered_5 : decode cX5_isOrdered 5 = .ok (.aload_n 0, 1) := by decide +kernel
theorem dX5_isOrdered_6 : decode cX5_isOrdered 6 = .ok (.getfield 16, 3) := by decide +kernel
theorem dX5_isOrdered_9 : decode cX5_isOrdered 9 = .ok (.if_icmp .ne 7, 3) := by decide +kernel
theorem dX5_isOrdered_12 : decode cX5_isOrdered 12 = .ok (.iconst 1, 1) := by decide +kernel
theorem dX5_isOrdered_13 : decode cX5_isOrdered 13 = .ok (.goto 4, 3) := by decide +kernel
theorem dX5_isOrdered_16 : decode cX5_isOrdered 16 = .ok (.iconst 0, 1) := by decide +kernel
theorem dX5_isOrdered_17 : decode cX5_isOrdered 17 = .ok (.istore_n 2, 1) := by decide +kernel
theorem dX5_isOrdered_18 : decode cX5_isOrdered 18 = .ok (.iload_n 2, 1) := by decide +kernel
theorem dX5_isOrdered_19 : decode cX5_isOrdered 19 = .ok (.aload_n 0, 1) := by decide +kernel
theorem dX5_isOrdered_20 : decode cX5_isOrdered 20 = .ok (.iload_n 1, 1) := by decide +kernel
theorem dX5_isOrdered_21 : decode cX5_isOrdered 21 = .ok (.invokevirtual 112, 3) := by decide +kernel
theorem dX5_isOrdered_24 : decode cX5_isOrdered 24 = .ok (.if_icmp .eq 7, 3) := by decide +kernel
theorem dX5_isOrdered_27 : decode cX5_isOrdered 27 = .ok (.iconst 1, 1) := by decide +kernel
theorem dX5_isOrdered_28 : decode cX5_isOrdered 28 = .ok (.goto 4, 3) := by decide +kernel
theorem dX5_isOrdered_31 : decode cX5_isOrdered 31 = .ok (.iconst 0, 1) := by decide +kernel
theorem dX5_isOrdered_32 : decode cX5_isOrdered 32 = .ok (.ireturn, 1) := by decide +kernel
theorem dX5_areComposed_0 : decode cX5_areComposed 0 = .ok (.aload_n 0, 1) := by decide +kernel
theorem dX5_areComposed_1 : decode cX5_areComposed 1 = .ok (.iconst 0, 1) := by decide +kernel
theorem dX5_areComposed_2 : decode cX5_areComposed 2 = .ok (.iconst 1, 1) := by decide +kernel
theorem dX5_areComposed_3 : decode cX5_areComposed 3 = .ok (.invokevirtual 98, 3) := by decide +kernel
theorem dX5_areComposed_6 : decode cX5_areComposed 6 = .ok (.iconst 0, 1) := by decide +kernel
theorem dX5_areComposed_7 : decode cX5_areComposed 7 = .ok (.istore_n 1, 1) := by decide +kernel
theorem dX5_areComposed_8 : decode cX5_areComposed 8 = .ok (.iload_n 1, 1) := by decide +kernel
theorem dX5_areComposed_9 : decode cX5_areComposed 9 = .ok (.sipush 6400, 3) := by decide +kernel
theorem dX5_areComposed_12 : decode cX5_areComposed 12 = .ok (.if_icmp .ge 21, 3) := by decide +kernel
theorem dX5_areComposed_15 : decode cX5_areComposed 15 = .ok (.aload_n 0, 1) := by decide +kernel
theorem dX5_areComposed_16 : decode cX5_areComposed 16 = .ok (.getfield 26, 3) := by decide +kernel
theorem dX5_areComposed_19 : decode cX5_areComposed 19 = .ok (.iload_n 1, 1) := by decide +kernel
theorem dX5_areComposed_20 : decode cX5_areComposed 20 = .ok (.aload_n 0, 1) := by decide +kernel
theorem dX5_areComposed_21 : decode cX5_areComposed 21 = .ok (.getfield 20, 3) := by decide +kernel
theorem dX5_areComposed_24 : decode cX5_areComposed 24 = .ok (.iload_n 1, 1) := by decide +kernel
theorem dX5_areComposed_25 : decode cX5_areComposed 25 = .ok (.baload, 1) := by decide +kernel
theorem dX5_areComposed_26 : decode cX5_areComposed 26 = .ok (.bastore, 1) := by decide +kernel
theorem dX5_areComposed_27 : decode cX5_areComposed 27 = .ok (.iinc 1 1, 3) := by decide +kernel
theorem dX5_areComposed_30 : decode cX5_areComposed 30 = .ok (.goto (-22), 3) := by decide +kernel
theorem dX5_areComposed_33 : decode cX5_areComposed 33 = .ok (.aload_n 0, 1) := by decide +kernel
theorem dX5_areComposed_34 : decode cX5_areComposed 34 = .ok (.iconst 1, 1) := by decide +kernel
theorem dX5_areComposed_35 : decode cX5_areComposed 35 = .ok (.iconst 2, 1) := by decide +kernel
theorem dX5_areComposed_36 : decode cX5_areComposed 36 = .ok (.invokevirtual 98, 3) := by decide +kernel
theorem dX5_areComposed_39 : decode cX5_areComposed 39 = .ok (.iconst 0, 1) := by decide +kernel
theorem dX5_areComposed_40 : decode cX5_areComposed 40 = .ok (.istore_n 1, 1) := by decide +kernel
theorem dX5_areComposed_41 : decode cX5_areComposed 41 = .ok (.iload_n 1, 1) := by decide +kernel
theorem dX5_areComposed_42 : decode cX5_areComposed 42 = .ok (.aload_n 0, 1) := by decide +kernel
theorem dX5_areComposed_43 : decode cX5_areComposed 43 = .ok (.getfield 16, 3) := by decide +kernel
theorem dX5_areComposed_46 : decode cX5_areComposed 46 = .ok (.if_icmp .ge 130, 3) := by decide +kernel
theorem dX5_areComposed_49 : decode cX5_areComposed 49 = .ok (.iconst 0, 1) := by decide +kernel
theorem dX5_areComposed_50 : decode cX5_areComposed 50 = .ok (.istore_n 2, 1) := by decide +kernel
theorem dX5_areComposed_51 : decode cX5_areComposed 51 = .ok (.iload_n 2, 1) := by decide +kernel
theorem dX5_areComposed_52 : decode cX5_areComposed 52 = .ok (.aload_n 0, 1) := by decide +kernel
theorem dX5_areComposed_53 : decode cX5_areComposed 53 = .ok (.getfield 16, 3) := by decide +kernel
theorem dX5_areComposed_56 : decode cX5_areComposed 56 = .ok (.if_icmp .ge 114, 3) := by decide +kernel
theorem dX5_areComposed_59 : decode cX5_areComposed 59 = .ok (.iconst 0, 1) := by decide +kernel
theorem dX5_areComposed_60 : decode cX5_areComposed 60 = .ok (.istore_n 3, 1) := by decide +kernel
theorem dX5_areComposed_61 : decode cX5_areComposed 61 = .ok (.iconst 0, 1) := by decide +kernel
theorem dX5_areComposed_62 : decode cX5_areComposed 62 = .ok (.istore 4, 2) := by decide +kernel
theorem dX5_areComposed_64 : decode cX5_areComposed 64 = .ok (.iconst 0, 1) := by decide +kernel
theorem dX5_areComposed_65 : decode cX5_areComposed 65 = .ok (.istore 5, 2) := by decide +kernel
theorem dX5_areComposed_67 : decode cX5_areComposed 67 = .ok (.iload 5, 2) := by decide +kernel
theorem dX5_areComposed_69 : decode cX5_areComposed 69 = .ok (.aload_n 0, 1) := by decide +kernel
theorem dX5_areComposed_70 : decode cX5_areComposed 70 = .ok (.getfield 16, 3) := by decide +kernel
theorem dX5_areComposed_73 : decode cX5_areComposed 73 = .ok (.if_icmp .ge 83, 3) := by decide +kernel
theorem dX5_areComposed_76 : decode cX5_areComposed 76 = .ok (.iload_n 3, 1) := by decide +kernel
theorem dX5_areComposed_77 : decode cX5_areComposed 77 = .ok (.ifCond .ne 29, 3) := by decide +kernel
theorem dX5_areComposed_80 : decode cX5_areComposed 80 = .ok (.aload_n 0, 1) := by decide +kernel
theorem dX5_areComposed_81 : decode cX5_areComposed 81 = .ok (.getfield 26, 3) := by decide +kernel
theorem dX5_areComposed_84 : decode cX5_areComposed 84 = .ok (.bipush 80, 2) := by decide +kernel
theorem dX5_areComposed_86 : decode cX5_areComposed 86 = .ok (.iload_n 1, 1) := by decide +kernel
theorem dX5_areComposed_87 : decode cX5_areComposed 87 = .ok (.imul, 1) := by decide +kernel
theorem dX5_areComposed_88 : decode cX5_areComposed 88 = .ok (.iload 5, 2) := by decide +kernel
theorem dX5_areComposed_90 : decode cX5_areComposed 90 = .ok (.iadd, 1) := by decide +kernel
theorem dX5_areComposed_91 : decode cX5_areComposed 91 = .ok (.baload, 1) := by decide +kernel
theorem dX5_areComposed_92 : decode cX5_areComposed 92 = .ok (.ifCond .eq 18, 3) := by decide +kernel
theorem dX5_areComposed_95 : decode cX5_areComposed 95 = .ok (.aload_n 0, 1) := by decide +kernel
theorem dX5_areComposed_96 : decode cX5_areComposed 96 = .ok (.iconst 2, 1) := by decide +kernel
theorem dX5_areComposed_97 : decode cX5_areComposed 97 = .ok (.iload 5, 2) := by decide +kernel
theorem dX5_areComposed_99 : decode cX5_areComposed 99 = .ok (.iload_n 2, 1) := by decide +kernel
theorem dX5_areComposed_100 : decode cX5_areComposed 100 = .ok (.invokevirtual 66, 3) := by decide +kernel
theorem dX5_areComposed_103 : decode cX5_areComposed 103 = .ok (.ifCond .eq 7, 3) := by decide +kernel
theorem dX5_areComposed_106 : decode cX5_areComposed 106 = .ok (.iconst 1, 1) := by decide +kernel
theorem dX5_areComposed_107 : decode cX5_areComposed 107 = .ok (.goto 4, 3) := by decide +kernel
theorem dX5_areComposed_110 : decode cX5_areComposed 110 = .ok (.iconst 0, 1) := by decide +kernel
theorem dX5_areComposed_111 : decode cX5_areComposed 111 = .ok (.istore_n 3, 1) := by decide +kernel
theorem dX5_areComposed_112 : decode cX5_areComposed 112 = .ok (.iload 4, 2) := by decide +kernel
theorem dX5_areComposed_114 : decode cX5_areComposed 114 = .ok (.ifCond .ne 29, 3) := by decide +kernel
theorem dX5_areComposed_117 : decode cX5_areComposed 117 = .ok (.aload_n 0, 1) := by decide +kernel
theorem dX5_areComposed_118 : decode cX5_areComposed 118 = .ok (.iconst 0, 1) := by decide +kernel
theorem dX5_areComposed_119 : decode cX5_areComposed 119 = .ok (.iload_n 1, 1) := by decide +kernel
theorem dX5_areComposed_120 : decode cX5_areComposed 120 = .ok (.iload 5, 2) := by decide +kernel
theorem dX5_areComposed_122 : decode cX5_areComposed 122 = .ok (.invokevirtual 66, 3) := by decide +kernel
theorem dX5_areComposed_125 : decode cX5_areComposed 125 = .ok (.ifCond .eq 22, 3) := by decide +kernel
theorem dX5_areComposed_128 : decode cX5_areComposed 128 = .ok (.aload_n 0, 1) := by decide +kernel
theorem dX5_areComposed_129 : decode cX5_areComposed 129 = .ok (.getfield 20, 3) := by decide +kernel
theorem dX5_areComposed_132 : decode cX5_areComposed 132 = .ok (.bipush 80, 2) := by decide +kernel
theorem dX5_areComposed_134 : decode cX5_areComposed 134 = .ok (.iload 5, 2) := by decide +kernel
theorem dX5_areComposed_136 : decode cX5_areComposed 136 = .ok (.imul, 1) := by decide +kernel
theorem dX5_areComposed_137 : decode cX5_areComposed 137 = .ok (.iload_n 2, 1) := by decide +kernel
theorem dX5_areComposed_138 : decode cX5_areComposed 138 = .ok (.iadd, 1) := by decide +kernel
theorem dX5_areComposed_139 : decode cX5_areComposed 139 = .ok (.baload, 1) := by decide +kernel
theorem dX5_areComposed_140 : decode cX5_areComposed 140 = .ok (.ifCond .eq 7, 3) := by decide +kernel
theorem dX5_areComposed_143 : decode cX5_areComposed 143 = .ok (.iconst 1, 1) := by decide +kernel
theorem dX5_areComposed_144 : decode cX5_areComposed 144 = .ok (.goto 4, 3) := by decide +kernel
theorem dX5_areComposed_147 : decode cX5_areComposed 147 = .ok (.iconst 0, 1) := by decide +kernel
theorem dX5_areComposed_148 : decode cX5_areComposed 148 = .ok (.istore 4, 2) := by decide +kernel
theorem dX5_areComposed_150 : decode cX5_areComposed 150 = .ok (.iinc 5 1, 3) := by decide +kernel
theorem dX5_areComposed_153 : decode cX5_areComposed 153 = .ok (.goto (-86), 3) := by decide +kernel
theorem dX5_areComposed_156 : decode cX5_areComposed 156 = .ok (.iload_n 3, 1) := by decide +kernel
theorem dX5_areComposed_157 : decode cX5_areComposed 157 = .ok (.iload 4, 2) := by decide +kernel
theorem dX5_areComposed_159 : decode cX5_areComposed 159 = .ok (.if_icmp .eq 5, 3) := by decide +kernel
theorem dX5_areComposed_162 : decode cX5_areComposed 162 = .ok (.iconst 0, 1) := by decide +kernel
theorem dX5_areComposed_163 : decode cX5_areComposed 163 = .ok (.ireturn, 1) := by decide +kernel
theorem dX5_areComposed_164 : decode cX5_areComposed 164 = .ok (.iinc 2 1, 3) := by decide +kernel
theorem dX5_areComposed_167 : decode cX5_areComposed 167 = .ok (.goto (-116), 3) := by decide +kernel
theorem dX5_areComposed_170 : decode cX5_areComposed 170 = .ok (.iinc 1 1, 3) := by decide +kernel
theorem dX5_areComposed_173 : decode cX5_areComposed 173 = .ok (.goto (-132), 3) := by decide +kernel
theorem dX5_areComposed_176 : decode cX5_areComposed 176 = .ok (.iconst 1, 1) := by decide +kernel
theorem dX5_areComposed_177 : decode cX5_areComposed 177 = .ok (.ireturn, 1) := by decide +kernel
theorem dX5_errors_0 : decode cX5_errors 0 = .ok (.aload_n 0, 1) := by decide +kernel
theorem dX5_errors_1 : decode cX5_errors 1 = .ok (.invokevirtual 135, 3) := by decide +kernel
theorem dX5_errors_4 : decode cX5_errors 4 = .ok (.ifCond .eq 7, 3) := by decide +kernel
theorem dX5_errors_7 : decode cX5_errors 7 = .ok (.iconst 0, 1) := by decide +kernel
theorem dX5_errors_8 : decode cX5_errors 8 = .ok (.goto 4, 3) := by decide +kernel
theorem dX5_errors_11 : decode cX5_errors 11 = .ok (.iconst 1, 1) := by decide +kernel
theorem dX5_errors_12 : decode cX5_errors 12 = .ok (.istore_n 1, 1) := by decide +kernel
theorem dX5_errors_13 : decode cX5_errors 13 = .ok (.iconst 0, 1) := by decide +kernel
theorem dX5_errors_14 : decode cX5_errors 14 = .ok (.istore_n 2, 1) := by decide +kernel
theorem dX5_errors_15 : decode cX5_errors 15 = .ok (.iload_n 2, 1) := by decide +kernel
theorem dX5_errors_16 : decode cX5_errors 16 = .ok (.iconst 3, 1) := by decide +kernel
theorem dX5_errors_17 : decode cX5_errors 17 = .ok (.if_icmp .ge 41, 3) := by decide +kernel
theorem dX5_errors_20 : decode cX5_errors 20 = .ok (.iload_n 1, 1) := by decide +kernel
theorem dX5_errors_21 : decode cX5_errors 21 = .ok (.aload_n 0, 1) := by decide +kernel
theorem dX5_errors_22 : decode cX5_errors 22 = .ok (.iload_n 2, 1) := by decide +kernel
theorem dX5_errors_23 : decode cX5_errors 23 = .ok (.invokevirtual 139, 3) := by decide +kernel
theorem dX5_errors_26 : decode cX5_errors 26 = .ok (.ifCond .eq 7, 3) := by decide +kernel
theorem dX5_errors_29 : decode cX5_errors 29 = .ok (.iconst 0, 1) := by decide +kernel
theorem dX5_errors_30 : decode cX5_errors 30 = .ok (.goto 4, 3) := by decide +kernel
theorem dX5_errors_33 : decode cX5_errors 33 = .ok (.iconst 1, 1) := by decide +kernel
theorem dX5_errors_34 : decode cX5_errors 34 = .ok (.iadd, 1) := by decide +kernel
theorem dX5_errors_35 : decode cX5_errors 35 = .ok (.istore_n 1, 1) := by decide +kernel
theorem dX5_errors_36 : decode cX5_errors 36 = .ok (.iload_n 1, 1) := by decide +kernel
theorem dX5_errors_37 : decode cX5_errors 37 = .ok (.aload_n 0, 1) := by decide +kernel
theorem dX5_errors_38 : decode cX5_errors 38 = .ok (.iload_n 2, 1) := by decide +kernel
theorem dX5_errors_39 : decode cX5_errors 39 = .ok (.invokevirtual 142, 3) := by decide +kernel
theorem dX5_errors_42 : decode cX5_errors 42 = .ok (.ifCond .eq 7, 3) := by decide +kernel
theorem dX5_errors_45 : decode cX5_errors 45 = .ok (.iconst 0, 1) := by decide +kernel
theorem dX5_errors_46 : decode cX5_errors 46 = .ok (.goto 4, 3) := by decide +kernel
theorem dX5_errors_49 : decode cX5_errors 49 = .ok (.iconst 1, 1) := by decide +kernel
theorem dX5_errors_50 : decode cX5_errors 50 = .ok (.iadd, 1) := by decide +kernel
theorem dX5_errors_51 : decode cX5_errors 51 = .ok (.istore_n 1, 1) := by decide +kernel
theorem dX5_errors_52 : decode cX5_errors 52 = .ok (.iinc 2 1, 3) := by decide +kernel
theorem dX5_errors_55 : decode cX5_errors 55 = .ok (.goto (-40), 3) := by decide +kernel
theorem dX5_errors_58 : decode cX5_errors 58 = .ok (.aload_n 0, 1) := by decide +kernel
theorem dX5_errors_59 : decode cX5_errors 59 = .ok (.iload_n 1, 1) := by decide +kernel
theorem dX5_errors_60 : decode cX5_errors 60 = .ok (.invokevirtual 80, 3) := by decide +kernel
theorem dX5_errors_63 : decode cX5_errors 63 = .ok (.ireturn, 1) := by decide +kernel
end
section
theorem dL_begin_0 : decode cL_begin 0 = .ok (.aload_n 2, 1) := by decide +kernel
theorem dL_begin_1 : decode cL_begin 1 = .ok (.iconst 0, 1) := by decide +kernel
theorem dL_begin_2 : decode cL_begin 2 = .ok (.aload_n 0, 1) := by decide +kernel
theorem dL_begin_3 : decode cL_begin 3 = .ok (.iload_n 1, 1) := by decide +kernel
theorem dL_begin_4 : decode cL_begin 4 = .ok (.invokevirtual 7, 3) := by decide +kernel
theorem dL_begin_7 : decode cL_begin 7 = .ok (.i2l, 1) := by decide +kernel
theorem dL_begin_8 : decode cL_begin 8 = .ok (.lastore, 1) := by decide +kernel
theorem dL_begin_9 : decode cL_begin 9 = .ok (.goto 6, 3) := by decide +kernel
theorem dL_begin_12 : decode cL_begin 12 = .ok (.astore_n 3, 1) := by decide +kernel
theorem dL_begin_13 : decode cL_begin 13 = .ok (.iconst 1, 1) := by decide +kernel
theorem dL_begin_14 : decode cL_begin 14 = .ok (.ireturn, 1) := by decide +kernel
theorem dL_begin_15 : decode cL_begin 15 = .ok (.iconst 0, 1) := by decide +kernel
theorem dL_begin_16 : decode cL_begin 16 = .ok (.ireturn, 1) := by decide +kernel
theorem dL_set_0 : decode cL_set 0 = .ok (.aload 5, 2) := by decide +kernel
theorem dL_set_2 : decode cL_set 2 = .ok (.iconst 0, 1) := by decide +kernel
theorem dL_set_3 : decode cL_set 3 = .ok (.aload_n 0, 1) := by decide +kernel
theorem dL_set_4 : decode cL_set 4 = .ok (.iload_n 1, 1) := by decide +kernel
theorem dL_set_5 : decode cL_set 5 = .ok (.iload_n 2, 1) := by decide +kernel
theorem dL_set_6 : decode cL_set 6 = .ok (.iload_n 3, 1) := by decide +kernel
theorem dL_set_7 : decode cL_set 7 = .ok (.iload 4, 2) := by decide +kernel
theorem dL_set_9 : decode cL_set 9 = .ok (.invokevirtual 15, 3) := by decide +kernel
theorem dL_set_12 : decode cL_set 12 = .ok (.ifCond .eq 7, 3) := by decide +kernel
theorem dL_set_15 : decode cL_set 15 = .ok (.lconst 1, 1) := by decide +kernel
theorem dL_set_16 : decode cL_set 16 = .ok (.goto 4, 3) := by decide +kernel
theorem dL_set_19 : decode cL_set 19 = .ok (.lconst 0, 1) := by decide +kernel
theorem dL_set_20 : decode cL_set 20 = .ok (.lastore, 1) := by decide +kernel
theorem dL_set_21 : decode cL_set 21 = .ok (.goto 7, 3) := by decide +kernel
theorem dL_set_24 : decode cL_set 24 = .ok (.astore 6, 2) := by decide +kernel
theorem dL_set_26 : decode cL_set 26 = .ok (.iconst 1, 1) := by decide +kernel
theorem dL_set_27 : decode cL_set 27 = .ok (.ireturn, 1) := by decide +kernel
theorem dL_set_28 : decode cL_set 28 = .ok (.iconst 0, 1) := by decide +kernel
theorem dL_set_29 : decode cL_set 29 = .ok (.ireturn, 1) := by decide +kernel
theorem dL_setRange_0 : decode cL_setRange 0 = .ok (.aload 6, 2) := by decide +kernel
theorem dL_setRange_2 : decode cL_setRange 2 = .ok (.iconst 0, 1) := by decide +kernel
theorem dL_setRange_3 : decode cL_setRange 3 = .ok (.aload_n 0, 1) := by decide +kernel
theorem dL_setRange_4 : decode cL_setRange 4 = .ok (.iload_n 1, 1) := by decide +kernel
theorem dL_setRange_5 : decode cL_setRange 5 = .ok (.iload_n 2, 1) := by decide +kernel
theorem dL_setRange_6 : decode cL_setRange 6 = .ok (.iload_n 3, 1) := by decide +kernel
theorem dL_setRange_7 : decode cL_setRange 7 = .ok (.iload 4, 2) := by decide +kernel
theorem dL_setRange_9 : decode cL_setRange 9 = .ok (.iload 5, 2) := by decide +kernel
theorem dL_setRange_11 : decode cL_setRange 11 = .ok (.invokevirtual 21, 3) := by decide +kernel
theorem dL_setRange_14 : decode cL_setRange 14 = .ok (.i2l, 1) := by decide +kernel
theorem dL_setRange_15 : decode cL_setRange 15 = .ok (.lastore, 1) := by decide +kernel
theorem dL_setRange_16 : decode cL_setRange 16 = .ok (.goto 7, 3) := by decide +kernel
theorem dL_setRange_19 : decode cL_setRange 19 = .ok (.astore 7, 2) := by decide +kernel
theorem dL_setRange_21 : decode cL_setRange 21 = .ok (.iconst 1, 1) := by decide +kernel
theorem dL_setRange_22 : decode cL_setRange 22 = .ok (.ireturn, 1) := by decide +kernel
theorem dL_setRange_23 : decode cL_setRange 23 = .ok (.iconst 0, 1) := by decide +kernel
theorem dL_setRange_24 : decode cL_setRange 24 = .ok (.ireturn, 1) := by decide +kernel
theorem dL_flipRange_0 : decode cL_flipRange 0 = .ok (.aload 5, 2) := by decide +kernel
theorem dL_flipRange_2 : decode cL_flipRange 2 = .ok (.iconst 0, 1) := by decide +kernel
theorem dL_flipRange_3 : decode cL_flipRange 3 = .ok (.aload_n 0, 1) := by decide +kernel
theorem dL_flipRange_4 : decode cL_flipRange 4 = .ok (.iload_n 1, 1) := by decide +kernel
theorem dL_flipRange_5 : decode cL_flipRange 5 = .ok (.iload_n 2, 1) := by decide +kernel
theorem dL_flipRange_6 : decode cL_flipRange 6 = .ok (.iload_n 3, 1) := by decide +kernel
theorem dL_flipRange_7 : decode cL_flipRange 7 = .ok (.iload 4, 2) := by decide +kernel
theorem dL_flipRange_9 : decode cL_flipRange 9 = .ok (.invokevirtual 25, 3) := by decide +kernel
theorem dL_flipRange_12 : decode cL_flipRange 12 = .ok (.i2l, 1) := by decide +kernel
theorem dL_flipRange_13 : decode cL_flipRange 13 = .ok (.lastore, 1) := by decide +kernel
theorem dL_flipRange_14 : decode cL_flipRange 14 = .ok (.goto 7, 3) := by decide +kernel
theorem dL_flipRange_17 : decode cL_flipRange 17 = .ok (.astore 6, 2) := by decide +kernel
theorem dL_flipRange_19 : decode cL_flipRange 19 = .ok (.iconst 1, 1) := by decide +kernel
theorem dL_flipRange_20 : decode cL_flipRange 20 = .ok (.ireturn, 1) := by decide +kernel
theorem dL_flipRange_21 : decode cL_flipRange 21 = .ok (.iconst 0, 1) := by decide +kernel
theorem dL_flipRange_22 : decode cL_flipRange 22 = .ok (.ireturn, 1) := by decide +kernel
theorem dL_setRow_0 : decode cL_setRow 0 = .ok (.aload 5, 2) := by decide +kernel
theorem dL_setRow_2 : decode cL_setRow 2 = .ok (.iconst 0, 1) := by decide +kernel
theorem dL_setRow_3 : decode cL_setRow 3 = .ok (.aload_n 0, 1) := by decide +kernel
theorem dL_setRow_4 : decode cL_setRow 4 = .ok (.iload_n 1, 1) := by decide +kernel
theorem dL_setRow_5 : decode cL_setRow 5 = .ok (.iload_n 2, 1) := by decide +kernel
theorem dL_setRow_6 : decode cL_setRow 6 = .ok (.lload_n 3, 1) := by decide +kernel
theorem dL_setRow_7 : decode cL_setRow 7 = .ok (.invokevirtual 29, 3) := by decide +kernel
theorem dL_setRow_10 : decode cL_setRow 10 = .ok (.i2l, 1) := by decide +kernel
theorem dL_setRow_11 : decode cL_setRow 11 = .ok (.lastore, 1) := by decide +kernel
theorem dL_setRow_12 : decode cL_setRow 12 = .ok (.goto 7, 3) := by decide +kernel
theorem dL_setRow_15 : decode cL_setRow 15 = .ok (.astore 6, 2) := by decide +kernel
theorem dL_setRow_17 : decode cL_setRow 17 = .ok (.iconst 1, 1) := by decide +kernel
theorem dL_setRow_18 : decode cL_setRow 18 = .ok (.ireturn, 1) := by decide +kernel
theorem dL_setRow_19 : decode cL_setRow 19 = .ok (.iconst 0, 1) := by decide +kernel
theorem dL_setRow_20 : decode cL_setRow 20 = .ok (.ireturn, 1) := by decide +kernel
theorem dL_chain_0 : decode cL_chain 0 = .ok (.aload_n 2, 1) := by decide +kernel
theorem dL_chain_1 : decode cL_chain 1 = .ok (.iconst 0, 1) := by decide +kernel
theorem dL_chain_2 : decode cL_chain 2 = .ok (.aload_n 0, 1) := by decide +kernel
theorem dL_chain_3 : decode cL_chain 3 = .ok (.iload_n 1, 1) := by decide +kernel
theorem dL_chain_4 : decode cL_chain 4 = .ok (.invokevirtual 33, 3) := by decide +kernel
theorem dL_chain_7 : decode cL_chain 7 = .ok (.i2l, 1) := by decide +kernel
theorem dL_chain_8 : decode cL_chain 8 = .ok (.lastore, 1) := by decide +kernel
theorem dL_chain_9 : decode cL_chain 9 = .ok (.goto 6, 3) := by decide +kernel
theorem dL_chain_12 : decode cL_chain 12 = .ok (.astore_n 3, 1) := by decide +kernel
theorem dL_chain_13 : decode cL_chain 13 = .ok (.iconst 1, 1) := by decide +kernel
theorem dL_chain_14 : decode cL_chain 14 = .ok (.ireturn, 1) := by decide +kernel
theorem dL_chain_15 : decode cL_chain 15 = .ok (.iconst 0, 1) := by decide +kernel
theorem dL_chain_16 : decode cL_chain 16 = .ok (.ireturn, 1) := by decide +kernel
theorem dL_draw_0 : decode cL_draw 0 = .ok (.aload 4, 2) := by decide +kernel
theorem dL_draw_2 : decode cL_draw 2 = .ok (.iconst 0, 1) := by decide +kernel
theorem dL_draw_3 : decode cL_draw 3 = .ok (.aload_n 0, 1) := by decide +kernel
theorem dL_draw_4 : decode cL_draw 4 = .ok (.iload_n 1, 1) := by decide +kernel
theorem dL_draw_5 : decode cL_draw 5 = .ok (.iload_n 2, 1) := by decide +kernel
theorem dL_draw_6 : decode cL_draw 6 = .ok (.iload_n 3, 1) := by decide +kernel
theorem dL_draw_7 : decode cL_draw 7 = .ok (.invokevirtual 36, 3) := by decide +kernel
theorem dL_draw_10 : decode cL_draw 10 = .ok (.i2l, 1) := by decide +kernel
theorem dL_draw_11 : decode cL_draw 11 = .ok (.lastore, 1) := by decide +kernel
theorem dL_draw_12 : decode cL_draw 12 = .ok (.goto 11, 3) := by decide +kernel
theorem dL_draw_15 : decode cL_draw 15 = .ok (.astore 5, 2) := by decide +kernel
theorem dL_draw_17 : decode cL_draw 17 = .ok (.iconst 1, 1) := by decide +kernel
theorem dL_draw_18 : decode cL_draw 18 = .ok (.ireturn, 1) := by decide +kernel
theorem dL_draw_19 : decode cL_draw 19 = .ok (.astore 5, 2) := by decide +kernel
theorem dL_draw_21 : decode cL_draw 21 = .ok (.iconst 2, 1) := by decide +kernel
theorem dL_draw_22 : decode cL_draw 22 = .ok (.ireturn, 1) := by decide +kernel
theorem dL_draw_23 : decode cL_draw 23 = .ok (.iconst 0, 1) := by decide +kernel
theorem dL_draw_24 : decode cL_draw 24 = .ok (.ireturn, 1) := by decide +kernel
theorem dL_copy_0 : decode cL_copy 0 = .ok (.aload_n 3, 1) := by decide +kernel
theorem dL_copy_1 : decode cL_copy 1 = .ok (.iconst 0, 1) := by decide +kernel
theorem dL_copy_2 : decode cL_copy 2 = .ok (.aload_n 0, 1) := by decide +kernel
theorem dL_copy_3 : decode cL_copy 3 = .ok (.iload_n 1, 1) := by decide +kernel
theorem dL_copy_4 : decode cL_copy 4 = .ok (.iload_n 2, 1) := by decide +kernel
theorem dL_copy_5 : decode cL_copy 5 = .ok (.invokevirtual 40, 3) := by decide +kernel
theorem dL_copy_8 : decode cL_copy 8 = .ok (.i2l, 1) := by decide +kernel
theorem dL_copy_9 : decode cL_copy 9 = .ok (.lastore, 1) := by decide +kernel
theorem dL_copy_10 : decode cL_copy 10 = .ok (.goto 7, 3) := by decide +kernel
theorem dL_copy_13 : decode cL_copy 13 = .ok (.astore 4, 2) := by decide +kernel
theorem dL_copy_15 : decode cL_copy 15 = .ok (.iconst 1, 1) := by decide +kernel
theorem dL_copy_16 : decode cL_copy 16 = .ok (.ireturn, 1) := by decide +kernel
theorem dL_copy_17 : decode cL_copy 17 = .ok (.iconst 0, 1) := by decide +kernel
theorem dL_copy_18 : decode cL_copy 18 = .ok (.ireturn, 1) := by decide +kernel
theorem dL_combine_0 : decode cL_combine 0 = .ok (.aload 4, 2) := by decide +kernel
theorem dL_combine_2 : decode cL_combine 2 = .ok (.iconst 0, 1) := by decide +kernel
theorem dL_combine_3 : decode cL_combine 3 = .ok (.aload_n 0, 1) := by decide +kernel
theorem dL_combine_4 : decode cL_combine 4 = .ok (.iload_n 1, 1) := by decide +kernel
theorem dL_combine_5 : decode cL_combine 5 = .ok (.iload_n 2, 1) := by decide +kernel
theorem dL_combine_6 : decode cL_combine 6 = .ok (.iload_n 3, 1) := by decide +kernel
theorem dL_combine_7 : decode cL_combine 7 = .ok (.invokevirtual 44, 3) := by decide +kernel
theorem dL_combine_10 : decode cL_combine 10 = .ok (.i2l, 1) := by decide +kernel
theorem dL_combine_11 : decode cL_combine 11 = .ok (.lastore, 1) := by decide +kernel
theorem dL_combine_12 : decode cL_combine 12 = .ok (.goto 11, 3) := by decide +kernel
theorem dL_combine_15 : decode cL_combine 15 = .ok (.astore 5, 2) := by decide +kernel
theorem dL_combine_17 : decode cL_combine 17 = .ok (.iconst 1, 1) := by decide +kernel
theorem dL_combine_18 : decode cL_combine 18 = .ok (.ireturn, 1) := by decide +kernel
theorem dL_combine_19 : decode cL_combine 19 = .ok (.astore 5, 2) := by decide +kernel
theorem dL_combine_21 : decode cL_combine 21 = .ok (.iconst 2, 1) := by decide +kernel
theorem dL_combine_22 : decode cL_combine 22 = .ok (.ireturn, 1) := by decide +kernel
theorem dL_combine_23 : decode cL_combine 23 = .ok (.iconst 0, 1) := by decide +kernel
theorem dL_combine_24 : decode cL_combine 24 = .ok (.ireturn, 1) := by decide +kernel
theorem dL_compose_0 : decode cL_compose 0 = .ok (.aload 4, 2) := by decide +kernel
theorem dL_compose_2 : decode cL_compose 2 = .ok (.iconst 0, 1) := by decide +kernel
theorem dL_compose_3 : decode cL_compose 3 = .ok (.aload_n 0, 1) := by decide +kernel
theorem dL_compose_4 : decode cL_compose 4 = .ok (.iload_n 1, 1) := by decide +kernel
theorem dL_compose_5 : decode cL_compose 5 = .ok (.iload_n 2, 1) := by decide +kernel
theorem dL_compose_6 : decode cL_compose 6 = .ok (.iload_n 3, 1) := by decide +kernel
theorem dL_compose_7 : decode cL_compose 7 = .ok (.invokevirtual 47, 3) := by decide +kernel
theorem dL_compose_10 : decode cL_compose 10 = .ok (.i2l, 1) := by decide +kernel
theorem dL_compose_11 : decode cL_compose 11 = .ok (.lastore, 1) := by decide +kernel
theorem dL_compose_12 : decode cL_compose 12 = .ok (.goto 7, 3) := by decide +kernel
theorem dL_compose_15 : decode cL_compose 15 = .ok (.astore 5, 2) := by decide +kernel
theorem dL_compose_17 : decode cL_compose 17 = .ok (.iconst 1, 1) := by decide +kernel
theorem dL_compose_18 : decode cL_compose 18 = .ok (.ireturn, 1) := by decide +kernel
theorem dL_compose_19 : decode cL_compose 19 = .ok (.iconst 0, 1) := by decide +kernel
theorem dL_compose_20 : decode cL_compose 20 = .ok (.ireturn, 1) := by decide +kernel
theorem dL_turn_0 : decode cL_turn 0 = .ok (.aload_n 2, 1) := by decide +kernel
theorem dL_turn_1 : decode cL_turn 1 = .ok (.iconst 0, 1) := by decide +kernel
theorem dL_turn_2 : decode cL_turn 2 = .ok (.aload_n 0, 1) := by decide +kernel
theorem dL_turn_3 : decode cL_turn 3 = .ok (.iload_n 1, 1) := by decide +kernel
theorem dL_turn_4 : decode cL_turn 4 = .ok (.invokevirtual 50, 3) := by decide +kernel
theorem dL_turn_7 : decode cL_turn 7 = .ok (.i2l, 1) := by decide +kernel
theorem dL_turn_8 : decode cL_turn 8 = .ok (.lastore, 1) := by decide +kernel
theorem dL_turn_9 : decode cL_turn 9 = .ok (.goto 6, 3) := by decide +kernel
theorem dL_turn_12 : decode cL_turn 12 = .ok (.astore_n 3, 1) := by decide +kernel
theorem dL_turn_13 : decode cL_turn 13 = .ok (.iconst 1, 1) := by decide +kernel
theorem dL_turn_14 : decode cL_turn 14 = .ok (.ireturn, 1) := by decide +kernel
theorem dL_turn_15 : decode cL_turn 15 = .ok (.iconst 0, 1) := by decide +kernel
theorem dL_turn_16 : decode cL_turn 16 = .ok (.ireturn, 1) := by decide +kernel
theorem dL_oppose_0 : decode cL_oppose 0 = .ok (.aload_n 2, 1) := by decide +kernel
theorem dL_oppose_1 : decode cL_oppose 1 = .ok (.iconst 0, 1) := by decide +kernel
theorem dL_oppose_2 : decode cL_oppose 2 = .ok (.aload_n 0, 1) := by decide +kernel
theorem dL_oppose_3 : decode cL_oppose 3 = .ok (.iload_n 1, 1) := by decide +kernel
theorem dL_oppose_4 : decode cL_oppose 4 = .ok (.invokevirtual 53, 3) := by decide +kernel
theorem dL_oppose_7 : decode cL_oppose 7 = .ok (.i2l, 1) := by decide +kernel
theorem dL_oppose_8 : decode cL_oppose 8 = .ok (.lastore, 1) := by decide +kernel
theorem dL_oppose_9 : decode cL_oppose 9 = .ok (.goto 6, 3) := by decide +kernel
theorem dL_oppose_12 : decode cL_oppose 12 = .ok (.astore_n 3, 1) := by decide +kernel
theorem dL_oppose_13 : decode cL_oppose 13 = .ok (.iconst 1, 1) := by decide +kernel
theorem dL_oppose_14 : decode cL_oppose 14 = .ok (.ireturn, 1) := by decide +kernel
theorem dL_oppose_15 : decode cL_oppose 15 = .ok (.iconst 0, 1) := by decide +kernel
theorem dL_oppose_16 : decode cL_oppose 16 = .ok (.ireturn, 1) := by decide +kernel
theorem dL_close_0 : decode cL_close 0 = .ok (.aload_n 3, 1) := by decide +kernel
theorem dL_close_1 : decode cL_close 1 = .ok (.iconst 0, 1) := by decide +kernel
theorem dL_close_2 : decode cL_close 2 = .ok (.aload_n 0, 1) := by decide +kernel
theorem dL_close_3 : decode cL_close 3 = .ok (.iload_n 1, 1) := by decide +kernel
theorem dL_close_4 : decode cL_close 4 = .ok (.iload_n 2, 1) := by decide +kernel
theorem dL_close_5 : decode cL_close 5 = .ok (.invokevirtual 56, 3) := by decide +kernel
theorem dL_close_8 : decode cL_close 8 = .ok (.i2l, 1) := by decide +kernel
theorem dL_close_9 : decode cL_close 9 = .ok (.lastore, 1) := by decide +kernel
theorem dL_close_10 : decode cL_close 10 = .ok (.goto 7, 3) := by decide +kernel
theorem dL_close_13 : decode cL_close 13 = .ok (.astore 4, 2) := by decide +kernel
theorem dL_close_15 : decode cL_close 15 = .ok (.iconst 1, 1) := by decide +kernel
theorem dL_close_16 : decode cL_close 16 = .ok (.ireturn, 1) := by decide +kernel
theorem dL_close_17 : decode cL_close 17 = .ok (.iconst 0, 1) := by decide +kernel
theorem dL_close_18 : decode cL_close 18 = .ok (.ireturn, 1) := by decide +kernel
theorem dL_cover_0 : decode cL_cover 0 = .ok (.aload_n 3, 1) := by decide +kernel
theorem dL_cover_1 : decode cL_cover 1 = .ok (.iconst 0, 1) := by decide +kernel
theorem dL_cover_2 : decode cL_cover 2 = .ok (.aload_n 0, 1) := by decide +kernel
theorem dL_cover_3 : decode cL_cover 3 = .ok (.iload_n 1, 1) := by decide +kernel
theorem dL_cover_4 : decode cL_cover 4 = .ok (.iload_n 2, 1) := by decide +kernel
theorem dL_cover_5 : decode cL_cover 5 = .ok (.invokevirtual 60, 3) := by decide +kernel
theorem dL_cover_8 : decode cL_cover 8 = .ok (.i2l, 1) := by decide +kernel
theorem dL_cover_9 : decode cL_cover 9 = .ok (.lastore, 1) := by decide +kernel
theorem dL_cover_10 : decode cL_cover 10 = .ok (.goto 11, 3) := by decide +kernel
theorem dL_cover_13 : decode cL_cover 13 = .ok (.astore 4, 2) := by decide +kernel
theorem dL_cover_15 : decode cL_cover 15 = .ok (.iconst 1, 1) := by decide +kernel
theorem dL_cover_16 : decode cL_cover 16 = .ok (.ireturn, 1) := by decide +kernel
theorem dL_cover_17 : decode cL_cover 17 = .ok (.astore 4, 2) := by decide +kernel
theorem dL_cover_19 : decode cL_cover 19 = .ok (.iconst 2, 1) := by decide +kernel
theorem dL_cover_20 : decode cL_cover 20 = .ok (.ireturn, 1) := by decide +kernel
theorem dL_cover_21 : decode cL_cover 21 = .ok (.iconst 0, 1) := by decide +kernel
theorem dL_cover_22 : decode cL_cover 22 = .ok (.ireturn, 1) := by decide +kernel
theorem dL_has_0 : decode cL_has 0 = .ok (.aload 4, 2) := by decide +kernel
theorem dL_has_2 : decode cL_has 2 = .ok (.iconst 0, 1) := by decide +kernel
theorem dL_has_3 : decode cL_has 3 = .ok (.aload_n 0, 1) := by decide +kernel
theorem dL_has_4 : decode cL_has 4 = .ok (.iload_n 1, 1) := by decide +kernel
theorem dL_has_5 : decode cL_has 5 = .ok (.iload_n 2, 1) := by decide +kernel
theorem dL_has_6 : decode cL_has 6 = .ok (.iload_n 3, 1) := by decide +kernel
theorem dL_has_7 : decode cL_has 7 = .ok (.invokevirtual 65, 3) := by decide +kernel
theorem dL_has_10 : decode cL_has 10 = .ok (.ifCond .eq 7, 3) := by decide +kernel
theorem dL_has_13 : decode cL_has 13 = .ok (.lconst 1, 1) := by decide +kernel
theorem dL_has_14 : decode cL_has 14 = .ok (.goto 4, 3) := by decide +kernel
theorem dL_has_17 : decode cL_has 17 = .ok (.lconst 0, 1) := by decide +kernel
theorem dL_has_18 : decode cL_has 18 = .ok (.lastore, 1) := by decide +kernel
theorem dL_has_19 : decode cL_has 19 = .ok (.goto 7, 3) := by decide +kernel
theorem dL_has_22 : decode cL_has 22 = .ok (.astore 5, 2) := by decide +kernel
theorem dL_has_24 : decode cL_has 24 = .ok (.iconst 1, 1) := by decide +kernel
theorem dL_has_25 : decode cL_has 25 = .ok (.ireturn, 1) := by decide +kernel
theorem dL_has_26 : decode cL_has 26 = .ok (.iconst 0, 1) := by decide +kernel
theorem dL_has_27 : decode cL_has 27 = .ok (.ireturn, 1) := by decide +kernel
theorem dL_count_0 : decode cL_count 0 = .ok (.aload_n 2, 1) := by decide +kernel
theorem dL_count_1 : decode cL_count 1 = .ok (.iconst 0, 1) := by decide +kernel
theorem dL_count_2 : decode cL_count 2 = .ok (.aload_n 0, 1) := by decide +kernel
theorem dL_count_3 : decode cL_count 3 = .ok (.iload_n 1, 1) := by decide +kernel
theorem dL_count_4 : decode cL_count 4 = .ok (.invokevirtual 69, 3) := by decide +kernel
theorem dL_count_7 : decode cL_count 7 = .ok (.i2l, 1) := by decide +kernel
theorem dL_count_8 : decode cL_count 8 = .ok (.lastore, 1) := by decide +kernel
theorem dL_count_9 : decode cL_count 9 = .ok (.goto 6, 3) := by decide +kernel
theorem dL_count_12 : decode cL_count 12 = .ok (.astore_n 3, 1) := by decide +kernel
theorem dL_count_13 : decode cL_count 13 = .ok (.iconst 1, 1) := by decide +kernel
theorem dL_count_14 : decode cL_count 14 = .ok (.ireturn, 1) := by decide +kernel
theorem dL_count_15 : decode cL_count 15 = .ok (.iconst 0, 1) := by decide +kernel
theorem dL_count_16 : decode cL_count 16 = .ok (.ireturn, 1) := by decide +kernel
theorem dL_countOf_0 : decode cL_countOf 0 = .ok (.aload_n 3, 1) := by decide +kernel
theorem dL_countOf_1 : decode cL_countOf 1 = .ok (.iconst 0, 1) := by decide +kernel
theorem dL_countOf_2 : decode cL_countOf 2 = .ok (.aload_n 0, 1) := by decide +kernel
theorem dL_countOf_3 : decode cL_countOf 3 = .ok (.iload_n 1, 1) := by decide +kernel
theorem dL_countOf_4 : decode cL_countOf 4 = .ok (.iload_n 2, 1) := by decide +kernel
theorem dL_countOf_5 : decode cL_countOf 5 = .ok (.invokevirtual 72, 3) := by decide +kernel
theorem dL_countOf_8 : decode cL_countOf 8 = .ok (.i2l, 1) := by decide +kernel
theorem dL_countOf_9 : decode cL_countOf 9 = .ok (.lastore, 1) := by decide +kernel
theorem dL_countOf_10 : decode cL_countOf 10 = .ok (.goto 7, 3) := by decide +kernel
theorem dL_countOf_13 : decode cL_countOf 13 = .ok (.astore 4, 2) := by decide +kernel
theorem dL_countOf_15 : decode cL_countOf 15 = .ok (.iconst 1, 1) := by decide +kernel
theorem dL_countOf_16 : decode cL_countOf 16 = .ok (.ireturn, 1) := by decide +kernel
theorem dL_countOf_17 : decode cL_countOf 17 = .ok (.iconst 0, 1) := by decide +kernel
theorem dL_countOf_18 : decode cL_countOf 18 = .ok (.ireturn, 1) := by decide +kernel
theorem dL_beside_0 : decode cL_beside 0 = .ok (.aload 5, 2) := by decide +kernel
theorem dL_beside_2 : decode cL_beside 2 = .ok (.iconst 0, 1) := by decide +kernel
theorem dL_beside_3 : decode cL_beside 3 = .ok (.aload_n 0, 1) := by decide +kernel
theorem dL_beside_4 : decode cL_beside 4 = .ok (.iload_n 1, 1) := by decide +kernel
theorem dL_beside_5 : decode cL_beside 5 = .ok (.iload_n 2, 1) := by decide +kernel
theorem dL_beside_6 : decode cL_beside 6 = .ok (.iload_n 3, 1) := by decide +kernel
theorem dL_beside_7 : decode cL_beside 7 = .ok (.iload 4, 2) := by decide +kernel
theorem dL_beside_9 : decode cL_beside 9 = .ok (.invokevirtual 75, 3) := by decide +kernel
theorem dL_beside_12 : decode cL_beside 12 = .ok (.i2l, 1) := by decide +kernel
theorem dL_beside_13 : decode cL_beside 13 = .ok (.lastore, 1) := by decide +kernel
theorem dL_beside_14 : decode cL_beside 14 = .ok (.goto 11, 3) := by decide +kernel
theorem dL_beside_17 : decode cL_beside 17 = .ok (.astore 6, 2) := by decide +kernel
theorem dL_beside_19 : decode cL_beside 19 = .ok (.iconst 1, 1) := by decide +kernel
theorem dL_beside_20 : decode cL_beside 20 = .ok (.ireturn, 1) := by decide +kernel
theorem dL_beside_21 : decode cL_beside 21 = .ok (.astore 6, 2) := by decide +kernel
theorem dL_beside_23 : decode cL_beside 23 = .ok (.iconst 2, 1) := by decide +kernel
theorem dL_beside_24 : decode cL_beside 24 = .ok (.ireturn, 1) := by decide +kernel
theorem dL_beside_25 : decode cL_beside 25 = .ok (.iconst 0, 1) := by decide +kernel
theorem dL_beside_26 : decode cL_beside 26 = .ok (.ireturn, 1) := by decide +kernel
theorem dL_wordOf_0 : decode cL_wordOf 0 = .ok (.aload 4, 2) := by decide +kernel
theorem dL_wordOf_2 : decode cL_wordOf 2 = .ok (.iconst 0, 1) := by decide +kernel
theorem dL_wordOf_3 : decode cL_wordOf 3 = .ok (.aload_n 0, 1) := by decide +kernel
theorem dL_wordOf_4 : decode cL_wordOf 4 = .ok (.iload_n 1, 1) := by decide +kernel
theorem dL_wordOf_5 : decode cL_wordOf 5 = .ok (.iload_n 2, 1) := by decide +kernel
theorem dL_wordOf_6 : decode cL_wordOf 6 = .ok (.iload_n 3, 1) := by decide +kernel
theorem dL_wordOf_7 : decode cL_wordOf 7 = .ok (.invokevirtual 78, 3) := by decide +kernel
theorem dL_wordOf_10 : decode cL_wordOf 10 = .ok (.lastore, 1) := by decide +kernel
theorem dL_wordOf_11 : decode cL_wordOf 11 = .ok (.goto 11, 3) := by decide +kernel
theorem dL_wordOf_14 : decode cL_wordOf 14 = .ok (.astore 5, 2) := by decide +kernel
theorem dL_wordOf_16 : decode cL_wordOf 16 = .ok (.iconst 1, 1) := by decide +kernel
theorem dL_wordOf_17 : decode cL_wordOf 17 = .ok (.ireturn, 1) := by decide +kernel
theorem dL_wordOf_18 : decode cL_wordOf 18 = .ok (.astore 5, 2) := by decide +kernel
theorem dL_wordOf_20 : decode cL_wordOf 20 = .ok (.iconst 2, 1) := by decide +kernel
theorem dL_wordOf_21 : decode cL_wordOf 21 = .ok (.ireturn, 1) := by decide +kernel
theorem dL_wordOf_22 : decode cL_wordOf 22 = .ok (.iconst 0, 1) := by decide +kernel
theorem dL_wordOf_23 : decode cL_wordOf 23 = .ok (.ireturn, 1) := by decide +kernel
theorem dL_meet_0 : decode cL_meet 0 = .ok (.aload 5, 2) := by decide +kernel
theorem dL_meet_2 : decode cL_meet 2 = .ok (.iconst 0, 1) := by decide +kernel
theorem dL_meet_3 : decode cL_meet 3 = .ok (.aload_n 0, 1) := by decide +kernel
theorem dL_meet_4 : decode cL_meet 4 = .ok (.iload_n 1, 1) := by decide +kernel
theorem dL_meet_5 : decode cL_meet 5 = .ok (.iload_n 2, 1) := by decide +kernel
theorem dL_meet_6 : decode cL_meet 6 = .ok (.iload_n 3, 1) := by decide +kernel
theorem dL_meet_7 : decode cL_meet 7 = .ok (.iload 4, 2) := by decide +kernel
theorem dL_meet_9 : decode cL_meet 9 = .ok (.invokevirtual 82, 3) := by decide +kernel
theorem dL_meet_12 : decode cL_meet 12 = .ok (.ifCond .eq 7, 3) := by decide +kernel
theorem dL_meet_15 : decode cL_meet 15 = .ok (.lconst 1, 1) := by decide +kernel
theorem dL_meet_16 : decode cL_meet 16 = .ok (.goto 4, 3) := by decide +kernel
theorem dL_meet_19 : decode cL_meet 19 = .ok (.lconst 0, 1) := by decide +kernel
theorem dL_meet_20 : decode cL_meet 20 = .ok (.lastore, 1) := by decide +kernel
theorem dL_meet_21 : decode cL_meet 21 = .ok (.goto 7, 3) := by decide +kernel
theorem dL_meet_24 : decode cL_meet 24 = .ok (.astore 6, 2) := by decide +kernel
theorem dL_meet_26 : decode cL_meet 26 = .ok (.iconst 1, 1) := by decide +kernel
theorem dL_meet_27 : decode cL_meet 27 = .ok (.ireturn, 1) := by decide +kernel
theorem dL_meet_28 : decode cL_meet 28 = .ok (.iconst 0, 1) := by decide +kernel
theorem dL_meet_29 : decode cL_meet 29 = .ok (.ireturn, 1) := by decide +kernel
theorem dL_compare_0 : decode cL_compare 0 = .ok (.aload_n 3, 1) := by decide +kernel
theorem dL_compare_1 : decode cL_compare 1 = .ok (.iconst 0, 1) := by decide +kernel
theorem dL_compare_2 : decode cL_compare 2 = .ok (.aload_n 0, 1) := by decide +kernel
theorem dL_compare_3 : decode cL_compare 3 = .ok (.iload_n 1, 1) := by decide +kernel
theorem dL_compare_4 : decode cL_compare 4 = .ok (.iload_n 2, 1) := by decide +kernel
theorem dL_compare_5 : decode cL_compare 5 = .ok (.invokevirtual 86, 3) := by decide +kernel
theorem dL_compare_8 : decode cL_compare 8 = .ok (.i2l, 1) := by decide +kernel
theorem dL_compare_9 : decode cL_compare 9 = .ok (.lastore, 1) := by decide +kernel
theorem dL_compare_10 : decode cL_compare 10 = .ok (.goto 7, 3) := by decide +kernel
theorem dL_compare_13 : decode cL_compare 13 = .ok (.astore 4, 2) := by decide +kernel
theorem dL_compare_15 : decode cL_compare 15 = .ok (.iconst 1, 1) := by decide +kernel
theorem dL_compare_16 : decode cL_compare 16 = .ok (.ireturn, 1) := by decide +kernel
theorem dL_compare_17 : decode cL_compare 17 = .ok (.iconst 0, 1) := by decide +kernel
theorem dL_compare_18 : decode cL_compare 18 = .ok (.ireturn, 1) := by decide +kernel
theorem dL_is_0 : decode cL_is 0 = .ok (.aload_n 3, 1) := by decide +kernel
theorem dL_is_1 : decode cL_is 1 = .ok (.iconst 0, 1) := by decide +kernel
theorem dL_is_2 : decode cL_is 2 = .ok (.aload_n 0, 1) := by decide +kernel
theorem dL_is_3 : decode cL_is 3 = .ok (.iload_n 1, 1) := by decide +kernel
theorem dL_is_4 : decode cL_is 4 = .ok (.iload_n 2, 1) := by decide +kernel
theorem dL_is_5 : decode cL_is 5 = .ok (.invokevirtual 89, 3) := by decide +kernel
theorem dL_is_8 : decode cL_is 8 = .ok (.ifCond .eq 7, 3) := by decide +kernel
theorem dL_is_11 : decode cL_is 11 = .ok (.lconst 1, 1) := by decide +kernel
theorem dL_is_12 : decode cL_is 12 = .ok (.goto 4, 3) := by decide +kernel
theorem dL_is_15 : decode cL_is 15 = .ok (.lconst 0, 1) := by decide +kernel
theorem dL_is_16 : decode cL_is 16 = .ok (.lastore, 1) := by decide +kernel
theorem dL_is_17 : decode cL_is 17 = .ok (.goto 11, 3) := by decide +kernel
theorem dL_is_20 : decode cL_is 20 = .ok (.astore 4, 2) := by decide +kernel
theorem dL_is_22 : decode cL_is 22 = .ok (.iconst 1, 1) := by decide +kernel
theorem dL_is_23 : decode cL_is 23 = .ok (.ireturn, 1) := by decide +kernel
theorem dL_is_24 : decode cL_is 24 = .ok (.astore 4, 2) := by decide +kernel
theorem dL_is_26 : decode cL_is 26 = .ok (.iconst 2, 1) := by decide +kernel
theorem dL_is_27 : decode cL_is 27 = .ok (.ireturn, 1) := by decide +kernel
theorem dL_is_28 : decode cL_is 28 = .ok (.iconst 0, 1) := by decide +kernel
theorem dL_is_29 : decode cL_is 29 = .ok (.ireturn, 1) := by decide +kernel
theorem dL_steps_0 : decode cL_steps 0 = .ok (.aload 4, 2) := by decide +kernel
theorem dL_steps_2 : decode cL_steps 2 = .ok (.iconst 0, 1) := by decide +kernel
theorem dL_steps_3 : decode cL_steps 3 = .ok (.aload_n 0, 1) := by decide +kernel
theorem dL_steps_4 : decode cL_steps 4 = .ok (.iload_n 1, 1) := by decide +kernel
theorem dL_steps_5 : decode cL_steps 5 = .ok (.iload_n 2, 1) := by decide +kernel
theorem dL_steps_6 : decode cL_steps 6 = .ok (.iload_n 3, 1) := by decide +kernel
theorem dL_steps_7 : decode cL_steps 7 = .ok (.invokevirtual 93, 3) := by decide +kernel
theorem dL_steps_10 : decode cL_steps 10 = .ok (.i2l, 1) := by decide +kernel
theorem dL_steps_11 : decode cL_steps 11 = .ok (.lastore, 1) := by decide +kernel
theorem dL_steps_12 : decode cL_steps 12 = .ok (.goto 7, 3) := by decide +kernel
theorem dL_steps_15 : decode cL_steps 15 = .ok (.astore 5, 2) := by decide +kernel
theorem dL_steps_17 : decode cL_steps 17 = .ok (.iconst 1, 1) := by decide +kernel
theorem dL_steps_18 : decode cL_steps 18 = .ok (.ireturn, 1) := by decide +kernel
theorem dL_steps_19 : decode cL_steps 19 = .ok (.iconst 0, 1) := by decide +kernel
theorem dL_steps_20 : decode cL_steps 20 = .ok (.ireturn, 1) := by decide +kernel
theorem dL_classOf_0 : decode cL_classOf 0 = .ok (.aload_n 3, 1) := by decide +kernel
theorem dL_classOf_1 : decode cL_classOf 1 = .ok (.iconst 0, 1) := by decide +kernel
theorem dL_classOf_2 : decode cL_classOf 2 = .ok (.aload_n 0, 1) := by decide +kernel
theorem dL_classOf_3 : decode cL_classOf 3 = .ok (.iload_n 1, 1) := by decide +kernel
theorem dL_classOf_4 : decode cL_classOf 4 = .ok (.iload_n 2, 1) := by decide +kernel
theorem dL_classOf_5 : decode cL_classOf 5 = .ok (.invokevirtual 96, 3) := by decide +kernel
theorem dL_classOf_8 : decode cL_classOf 8 = .ok (.i2l, 1) := by decide +kernel
theorem dL_classOf_9 : decode cL_classOf 9 = .ok (.lastore, 1) := by decide +kernel
theorem dL_classOf_10 : decode cL_classOf 10 = .ok (.goto 7, 3) := by decide +kernel
theorem dL_classOf_13 : decode cL_classOf 13 = .ok (.astore 4, 2) := by decide +kernel
theorem dL_classOf_15 : decode cL_classOf 15 = .ok (.iconst 1, 1) := by decide +kernel
theorem dL_classOf_16 : decode cL_classOf 16 = .ok (.ireturn, 1) := by decide +kernel
theorem dL_classOf_17 : decode cL_classOf 17 = .ok (.iconst 0, 1) := by decide +kernel
theorem dL_classOf_18 : decode cL_classOf 18 = .ok (.ireturn, 1) := by decide +kernel
theorem dL_classes_0 : decode cL_classes 0 = .ok (.aload_n 2, 1) := by decide +kernel
theorem dL_classes_1 : decode cL_classes 1 = .ok (.iconst 0, 1) := by decide +kernel
theorem dL_classes_2 : decode cL_classes 2 = .ok (.aload_n 0, 1) := by decide +kernel
theorem dL_classes_3 : decode cL_classes 3 = .ok (.iload_n 1, 1) := by decide +kernel
theorem dL_classes_4 : decode cL_classes 4 = .ok (.invokevirtual 99, 3) := by decide +kernel
theorem dL_classes_7 : decode cL_classes 7 = .ok (.i2l, 1) := by decide +kernel
theorem dL_classes_8 : decode cL_classes 8 = .ok (.lastore, 1) := by decide +kernel
theorem dL_classes_9 : decode cL_classes 9 = .ok (.goto 6, 3) := by decide +kernel
theorem dL_classes_12 : decode cL_classes 12 = .ok (.astore_n 3, 1) := by decide +kernel
theorem dL_classes_13 : decode cL_classes 13 = .ok (.iconst 1, 1) := by decide +kernel
theorem dL_classes_14 : decode cL_classes 14 = .ok (.ireturn, 1) := by decide +kernel
theorem dL_classes_15 : decode cL_classes 15 = .ok (.iconst 0, 1) := by decide +kernel
theorem dL_classes_16 : decode cL_classes 16 = .ok (.ireturn, 1) := by decide +kernel
theorem dL_hasRing_0 : decode cL_hasRing 0 = .ok (.aload_n 2, 1) := by decide +kernel
theorem dL_hasRing_1 : decode cL_hasRing 1 = .ok (.iconst 0, 1) := by decide +kernel
theorem dL_hasRing_2 : decode cL_hasRing 2 = .ok (.aload_n 0, 1) := by decide +kernel
theorem dL_hasRing_3 : decode cL_hasRing 3 = .ok (.iload_n 1, 1) := by decide +kernel
theorem dL_hasRing_4 : decode cL_hasRing 4 = .ok (.invokevirtual 102, 3) := by decide +kernel
theorem dL_hasRing_7 : decode cL_hasRing 7 = .ok (.ifCond .eq 7, 3) := by decide +kernel
theorem dL_hasRing_10 : decode cL_hasRing 10 = .ok (.lconst 1, 1) := by decide +kernel
theorem dL_hasRing_11 : decode cL_hasRing 11 = .ok (.goto 4, 3) := by decide +kernel
theorem dL_hasRing_14 : decode cL_hasRing 14 = .ok (.lconst 0, 1) := by decide +kernel
theorem dL_hasRing_15 : decode cL_hasRing 15 = .ok (.lastore, 1) := by decide +kernel
theorem dL_hasRing_16 : decode cL_hasRing 16 = .ok (.goto 6, 3) := by decide +kernel
theorem dL_hasRing_19 : decode cL_hasRing 19 = .ok (.astore_n 3, 1) := by decide +kernel
theorem dL_hasRing_20 : decode cL_hasRing 20 = .ok (.iconst 1, 1) := by decide +kernel
theorem dL_hasRing_21 : decode cL_hasRing 21 = .ok (.ireturn, 1) := by decide +kernel
theorem dL_hasRing_22 : decode cL_hasRing 22 = .ok (.iconst 0, 1) := by decide +kernel
theorem dL_hasRing_23 : decode cL_hasRing 23 = .ok (.ireturn, 1) := by decide +kernel
theorem dL_orderAt_0 : decode cL_orderAt 0 = .ok (.aload_n 3, 1) := by decide +kernel
theorem dL_orderAt_1 : decode cL_orderAt 1 = .ok (.iconst 0, 1) := by decide +kernel
theorem dL_orderAt_2 : decode cL_orderAt 2 = .ok (.aload_n 0, 1) := by decide +kernel
theorem dL_orderAt_3 : decode cL_orderAt 3 = .ok (.iload_n 1, 1) := by decide +kernel
theorem dL_orderAt_4 : decode cL_orderAt 4 = .ok (.iload_n 2, 1) := by decide +kernel
theorem dL_orderAt_5 : decode cL_orderAt 5 = .ok (.invokevirtual 106, 3) := by decide +kernel
theorem dL_orderAt_8 : decode cL_orderAt 8 = .ok (.i2l, 1) := by decide +kernel
theorem dL_orderAt_9 : decode cL_orderAt 9 = .ok (.lastore, 1) := by decide +kernel
theorem dL_orderAt_10 : decode cL_orderAt 10 = .ok (.goto 11, 3) := by decide +kernel
theorem dL_orderAt_13 : decode cL_orderAt 13 = .ok (.astore 4, 2) := by decide +kernel
theorem dL_orderAt_15 : decode cL_orderAt 15 = .ok (.iconst 1, 1) := by decide +kernel
theorem dL_orderAt_16 : decode cL_orderAt 16 = .ok (.ireturn, 1) := by decide +kernel
theorem dL_orderAt_17 : decode cL_orderAt 17 = .ok (.astore 4, 2) := by decide +kernel
theorem dL_orderAt_19 : decode cL_orderAt 19 = .ok (.iconst 2, 1) := by decide +kernel
theorem dL_orderAt_20 : decode cL_orderAt 20 = .ok (.ireturn, 1) := by decide +kernel
theorem dL_orderAt_21 : decode cL_orderAt 21 = .ok (.iconst 0, 1) := by decide +kernel
theorem dL_orderAt_22 : decode cL_orderAt 22 = .ok (.ireturn, 1) := by decide +kernel
theorem dL_longestWalk_0 : decode cL_longestWalk 0 = .ok (.aload_n 2, 1) := by decide +kernel
theorem dL_longestWalk_1 : decode cL_longestWalk 1 = .ok (.iconst 0, 1) := by decide +kernel
theorem dL_longestWalk_2 : decode cL_longestWalk 2 = .ok (.aload_n 0, 1) := by decide +kernel
theorem dL_longestWalk_3 : decode cL_longestWalk 3 = .ok (.iload_n 1, 1) := by decide +kernel
theorem dL_longestWalk_4 : decode cL_longestWalk 4 = .ok (.invokevirtual 109, 3) := by decide +kernel
theorem dL_longestWalk_7 : decode cL_longestWalk 7 = .ok (.i2l, 1) := by decide +kernel
theorem dL_longestWalk_8 : decode cL_longestWalk 8 = .ok (.lastore, 1) := by decide +kernel
theorem dL_longestWalk_9 : decode cL_longestWalk 9 = .ok (.goto 9, 3) := by decide +kernel
theorem dL_longestWalk_12 : decode cL_longestWalk 12 = .ok (.astore_n 3, 1) := by decide +kernel
theorem dL_longestWalk_13 : decode cL_longestWalk 13 = .ok (.iconst 1, 1) := by decide +kernel
theorem dL_longestWalk_14 : decode cL_longestWalk 14 = .ok (.ireturn, 1) := by decide +kernel
theorem dL_longestWalk_15 : decode cL_longestWalk 15 = .ok (.astore_n 3, 1) := by decide +kernel
theorem dL_longestWalk_16 : decode cL_longestWalk 16 = .ok (.iconst 2, 1) := by decide +kernel
theorem dL_longestWalk_17 : decode cL_longestWalk 17 = .ok (.ireturn, 1) := by decide +kernel
theorem dL_longestWalk_18 : decode cL_longestWalk 18 = .ok (.iconst 0, 1) := by decide +kernel
theorem dL_longestWalk_19 : decode cL_longestWalk 19 = .ok (.ireturn, 1) := by decide +kernel
theorem dL_mark_0 : decode cL_mark 0 = .ok (.aload 4, 2) := by decide +kernel
theorem dL_mark_2 : decode cL_mark 2 = .ok (.iconst 0, 1) := by decide +kernel
theorem dL_mark_3 : decode cL_mark 3 = .ok (.aload_n 0, 1) := by decide +kernel
theorem dL_mark_4 : decode cL_mark 4 = .ok (.iload_n 1, 1) := by decide +kernel
theorem dL_mark_5 : decode cL_mark 5 = .ok (.iload_n 2, 1) := by decide +kernel
theorem dL_mark_6 : decode cL_mark 6 = .ok (.iload_n 3, 1) := by decide +kernel
theorem dL_mark_7 : decode cL_mark 7 = .ok (.invokevirtual 112, 3) := by decide +kernel
theorem dL_mark_10 : decode cL_mark 10 = .ok (.i2l, 1) := by decide +kernel
theorem dL_mark_11 : decode cL_mark 11 = .ok (.lastore, 1) := by decide +kernel
theorem dL_mark_12 : decode cL_mark 12 = .ok (.goto 7, 3) := by decide +kernel
theorem dL_mark_15 : decode cL_mark 15 = .ok (.astore 5, 2) := by decide +kernel
theorem dL_mark_17 : decode cL_mark 17 = .ok (.iconst 1, 1) := by decide +kernel
theorem dL_mark_18 : decode cL_mark 18 = .ok (.ireturn, 1) := by decide +kernel
theorem dL_mark_19 : decode cL_mark 19 = .ok (.iconst 0, 1) := by decide +kernel
theorem dL_mark_20 : decode cL_mark 20 = .ok (.ireturn, 1) := by decide +kernel
theorem dL_spread_0 : decode cL_spread 0 = .ok (.aload_n 3, 1) := by decide +kernel
theorem dL_spread_1 : decode cL_spread 1 = .ok (.iconst 0, 1) := by decide +kernel
theorem dL_spread_2 : decode cL_spread 2 = .ok (.aload_n 0, 1) := by decide +kernel
theorem dL_spread_3 : decode cL_spread 3 = .ok (.iload_n 1, 1) := by decide +kernel
theorem dL_spread_4 : decode cL_spread 4 = .ok (.iload_n 2, 1) := by decide +kernel
theorem dL_spread_5 : decode cL_spread 5 = .ok (.invokevirtual 116, 3) := by decide +kernel
theorem dL_spread_8 : decode cL_spread 8 = .ok (.i2l, 1) := by decide +kernel
theorem dL_spread_9 : decode cL_spread 9 = .ok (.lastore, 1) := by decide +kernel
theorem dL_spread_10 : decode cL_spread 10 = .ok (.goto 7, 3) := by decide +kernel
theorem dL_spread_13 : decode cL_spread 13 = .ok (.astore 4, 2) := by decide +kernel
theorem dL_spread_15 : decode cL_spread 15 = .ok (.iconst 1, 1) := by decide +kernel
theorem dL_spread_16 : decode cL_spread 16 = .ok (.ireturn, 1) := by decide +kernel
theorem dL_spread_17 : decode cL_spread 17 = .ok (.iconst 0, 1) := by decide +kernel
theorem dL_spread_18 : decode cL_spread 18 = .ok (.ireturn, 1) := by decide +kernel
theorem dL_markedAt_0 : decode cL_markedAt 0 = .ok (.aload_n 2, 1) := by decide +kernel
theorem dL_markedAt_1 : decode cL_markedAt 1 = .ok (.iconst 0, 1) := by decide +kernel
theorem dL_markedAt_2 : decode cL_markedAt 2 = .ok (.aload_n 0, 1) := by decide +kernel
theorem dL_markedAt_3 : decode cL_markedAt 3 = .ok (.iload_n 1, 1) := by decide +kernel
theorem dL_markedAt_4 : decode cL_markedAt 4 = .ok (.invokevirtual 119, 3) := by decide +kernel
theorem dL_markedAt_7 : decode cL_markedAt 7 = .ok (.i2l, 1) := by decide +kernel
theorem dL_markedAt_8 : decode cL_markedAt 8 = .ok (.lastore, 1) := by decide +kernel
theorem dL_markedAt_9 : decode cL_markedAt 9 = .ok (.goto 6, 3) := by decide +kernel
theorem dL_markedAt_12 : decode cL_markedAt 12 = .ok (.astore_n 3, 1) := by decide +kernel
theorem dL_markedAt_13 : decode cL_markedAt 13 = .ok (.iconst 1, 1) := by decide +kernel
theorem dL_markedAt_14 : decode cL_markedAt 14 = .ok (.ireturn, 1) := by decide +kernel
theorem dL_markedAt_15 : decode cL_markedAt 15 = .ok (.iconst 0, 1) := by decide +kernel
theorem dL_markedAt_16 : decode cL_markedAt 16 = .ok (.ireturn, 1) := by decide +kernel
theorem dL_meanRow_0 : decode cL_meanRow 0 = .ok (.aload_n 2, 1) := by decide +kernel
theorem dL_meanRow_1 : decode cL_meanRow 1 = .ok (.iconst 0, 1) := by decide +kernel
theorem dL_meanRow_2 : decode cL_meanRow 2 = .ok (.aload_n 0, 1) := by decide +kernel
theorem dL_meanRow_3 : decode cL_meanRow 3 = .ok (.iload_n 1, 1) := by decide +kernel
theorem dL_meanRow_4 : decode cL_meanRow 4 = .ok (.invokevirtual 124, 3) := by decide +kernel
theorem dL_meanRow_7 : decode cL_meanRow 7 = .ok (.dastore, 1) := by decide +kernel
theorem dL_meanRow_8 : decode cL_meanRow 8 = .ok (.goto 6, 3) := by decide +kernel
theorem dL_meanRow_11 : decode cL_meanRow 11 = .ok (.astore_n 3, 1) := by decide +kernel
theorem dL_meanRow_12 : decode cL_meanRow 12 = .ok (.iconst 1, 1) := by decide +kernel
theorem dL_meanRow_13 : decode cL_meanRow 13 = .ok (.ireturn, 1) := by decide +kernel
theorem dL_meanRow_14 : decode cL_meanRow 14 = .ok (.iconst 0, 1) := by decide +kernel
theorem dL_meanRow_15 : decode cL_meanRow 15 = .ok (.ireturn, 1) := by decide +kernel
theorem dL_share_0 : decode cL_share 0 = .ok (.aload_n 2, 1) := by decide +kernel
theorem dL_share_1 : decode cL_share 1 = .ok (.iconst 0, 1) := by decide +kernel
theorem dL_share_2 : decode cL_share 2 = .ok (.aload_n 0, 1) := by decide +kernel
theorem dL_share_3 : decode cL_share 3 = .ok (.iload_n 1, 1) := by decide +kernel
theorem dL_share_4 : decode cL_share 4 = .ok (.invokevirtual 128, 3) := by decide +kernel
theorem dL_share_7 : decode cL_share 7 = .ok (.f2d, 1) := by decide +kernel
theorem dL_share_8 : decode cL_share 8 = .ok (.dastore, 1) := by decide +kernel
theorem dL_share_9 : decode cL_share 9 = .ok (.goto 6, 3) := by decide +kernel
theorem dL_share_12 : decode cL_share 12 = .ok (.astore_n 3, 1) := by decide +kernel
theorem dL_share_13 : decode cL_share 13 = .ok (.iconst 1, 1) := by decide +kernel
theorem dL_share_14 : decode cL_share 14 = .ok (.ireturn, 1) := by decide +kernel
theorem dL_share_15 : decode cL_share 15 = .ok (.iconst 0, 1) := by decide +kernel
theorem dL_share_16 : decode cL_share 16 = .ok (.ireturn, 1) := by decide +kernel
end
section
theorem dL_law_0 : decode cL_law 0 = .ok (.new 8, 3) := by decide +kernel
theorem dL_law_3 : decode cL_law 3 = .ok (.dup, 1) := by decide +kernel
theorem dL_law_4 : decode cL_law 4 = .ok (.invokespecial 132, 3) := by decide +kernel
theorem dL_law_7 : decode cL_law 7 = .ok (.astore_n 1, 1) := by decide +kernel
theorem dL_law_8 : decode cL_law 8 = .ok (.new 133, 3) := by decide +kernel
theorem dL_law_11 : decode cL_law 11 = .ok (.dup, 1) := by decide +kernel
theorem dL_law_12 : decode cL_law 12 = .ok (.invokespecial 135, 3) := by decide +kernel
theorem dL_law_15 : decode cL_law 15 = .ok (.astore_n 2, 1) := by decide +kernel
theorem dL_law_16 : decode cL_law 16 = .ok (.iconst 1, 1) := by decide +kernel
theorem dL_law_17 : decode cL_law 17 = .ok (.newarray .long, 2) := by decide +kernel
theorem dL_law_19 : decode cL_law 19 = .ok (.astore_n 3, 1) := by decide +kernel
theorem dL_law_20 : decode cL_law 20 = .ok (.iconst 1, 1) := by decide +kernel
theorem dL_law_21 : decode cL_law 21 = .ok (.newarray .double, 2) := by decide +kernel
theorem dL_law_23 : decode cL_law 23 = .ok (.astore 4, 2) := by decide +kernel
theorem dL_law_25 : decode cL_law 25 = .ok (.iconst 0, 1) := by decide +kernel
theorem dL_law_26 : decode cL_law 26 = .ok (.istore 5, 2) := by decide +kernel
theorem dL_law_28 : decode cL_law 28 = .ok (.iload 5, 2) := by decide +kernel
theorem dL_law_30 : decode cL_law 30 = .ok (.aload_n 0, 1) := by decide +kernel
theorem dL_law_31 : decode cL_law 31 = .ok (.arraylength, 1) := by decide +kernel
theorem dL_law_32 : decode cL_law 32 = .ok (.bipush 6, 2) := by decide +kernel
theorem dL_law_34 : decode cL_law 34 = .ok (.isub, 1) := by decide +kernel
theorem dL_law_35 : decode cL_law 35 = .ok (.if_icmp .gt 2726, 3) := by decide +kernel
theorem dL_law_38 : decode cL_law 38 = .ok (.aload_n 0, 1) := by decide +kernel
theorem dL_law_39 : decode cL_law 39 = .ok (.iload 5, 2) := by decide +kernel
theorem dL_law_41 : decode cL_law 41 = .ok (.iaload, 1) := by decide +kernel
theorem dL_law_42 : decode cL_law 42 = .ok (.bipush 63, 2) := by decide +kernel
theorem dL_law_44 : decode cL_law 44 = .ok (.iand, 1) := by decide +kernel
theorem dL_law_45 : decode cL_law 45 = .ok (.tableswitch 2710 0 34 #[155, 211, 326, 446, 538, 650, 706, 786, 854, 934, 1014, 1070, 1126, 1210, 1278, 1365, 1421, 1489, 1581, 1660, 1759, 1827, 1902, 1982, 2050, 2106, 2169, 2237, 2293, 2389, 2473, 2529, 2542, 2619, 2697], 155) := by decide +kernel
theorem dL_law_200 : decode cL_law 200 = .ok (.aload_n 1, 1) := by decide +kernel
theorem dL_law_201 : decode cL_law 201 = .ok (.aload_n 0, 1) := by decide +kernel
theorem dL_law_202 : decode cL_law 202 = .ok (.iload 5, 2) := by decide +kernel
theorem dL_law_204 : decode cL_law 204 = .ok (.iconst 1, 1) := by decide +kernel
theorem dL_law_205 : decode cL_law 205 = .ok (.iadd, 1) := by decide +kernel
theorem dL_law_206 : decode cL_law 206 = .ok (.iaload, 1) := by decide +kernel
theorem dL_law_207 : decode cL_law 207 = .ok (.aload_n 3, 1) := by decide +kernel
theorem dL_law_208 : decode cL_law 208 = .ok (.invokestatic 136, 3) := by decide +kernel
theorem dL_law_211 : decode cL_law 211 = .ok (.istore 6, 2) := by decide +kernel
theorem dL_law_213 : decode cL_law 213 = .ok (.aload_n 2, 1) := by decide +kernel
theorem dL_law_214 : decode cL_law 214 = .ok (.aload_n 0, 1) := by decide +kernel
theorem dL_law_215 : decode cL_law 215 = .ok (.iload 5, 2) := by decide +kernel
theorem dL_law_217 : decode cL_law 217 = .ok (.iconst 1, 1) := by decide +kernel
theorem dL_law_218 : decode cL_law 218 = .ok (.iadd, 1) := by decide +kernel
theorem dL_law_219 : decode cL_law 219 = .ok (.iaload, 1) := by decide +kernel
theorem dL_law_220 : decode cL_law 220 = .ok (.invokevirtual 141, 3) := by decide +kernel
theorem dL_law_223 : decode cL_law 223 = .ok (.istore 7, 2) := by decide +kernel
theorem dL_law_225 : decode cL_law 225 = .ok (.aload_n 2, 1) := by decide +kernel
theorem dL_law_226 : decode cL_law 226 = .ok (.invokevirtual 142, 3) := by decide +kernel
theorem dL_law_229 : decode cL_law 229 = .ok (.iload 6, 2) := by decide +kernel
theorem dL_law_231 : decode cL_law 231 = .ok (.if_icmp .eq 5, 3) := by decide +kernel
theorem dL_law_234 : decode cL_law 234 = .ok (.iconst 0, 1) := by decide +kernel
theorem dL_law_235 : decode cL_law 235 = .ok (.ireturn, 1) := by decide +kernel
theorem dL_law_236 : decode cL_law 236 = .ok (.iload 6, 2) := by decide +kernel
theorem dL_law_238 : decode cL_law 238 = .ok (.ifCond .ne 15, 3) := by decide +kernel
theorem dL_law_241 : decode cL_law 241 = .ok (.aload_n 3, 1) := by decide +kernel
theorem dL_law_242 : decode cL_law 242 = .ok (.iconst 0, 1) := by decide +kernel
theorem dL_law_243 : decode cL_law 243 = .ok (.laload, 1) := by decide +kernel
theorem dL_law_244 : decode cL_law 244 = .ok (.iload 7, 2) := by decide +kernel
theorem dL_law_246 : decode cL_law 246 = .ok (.i2l, 1) := by decide +kernel
theorem dL_law_247 : decode cL_law 247 = .ok (.lcmp, 1) := by decide +kernel
theorem dL_law_248 : decode cL_law 248 = .ok (.ifCond .eq 5, 3) := by decide +kernel
theorem dL_law_251 : decode cL_law 251 = .ok (.iconst 0, 1) := by decide +kernel
theorem dL_law_252 : decode cL_law 252 = .ok (.ireturn, 1) := by decide +kernel
theorem dL_law_253 : decode cL_law 253 = .ok (.goto 2502, 3) := by decide +kernel
theorem dL_law_256 : decode cL_law 256 = .ok (.aload_n 1, 1) := by decide +kernel
theorem dL_law_257 : decode cL_law 257 = .ok (.aload_n 0, 1) := by decide +kernel
theorem dL_law_258 : decode cL_law 258 = .ok (.iload 5, 2) := by decide +kernel
theorem dL_law_260 : decode cL_law 260 = .ok (.iconst 1, 1) := by decide +kernel
theorem dL_law_261 : decode cL_law 261 = .ok (.iadd, 1) := by decide +kernel
theorem dL_law_262 : decode cL_law 262 = .ok (.iaload, 1) := by decide +kernel
theorem dL_law_263 : decode cL_law 263 = .ok (.aload_n 0, 1) := by decide +kernel
theorem dL_law_264 : decode cL_law 264 = .ok (.iload 5, 2) := by decide +kernel
theorem dL_law_266 : decode cL_law 266 = .ok (.iconst 2, 1) := by decide +kernel
theorem dL_law_267 : decode cL_law 267 = .ok (.iadd, 1) := by decide +kernel
theorem dL_law_268 : decode cL_law 268 = .ok (.iaload, 1) := by decide +kernel
theorem dL_law_269 : decode cL_law 269 = .ok (.aload_n 0, 1) := by decide +kernel
theorem dL_law_270 : decode cL_law 270 = .ok (.iload 5, 2) := by decide +kernel
theorem dL_law_272 : decode cL_law 272 = .ok (.iconst 3, 1) := by decide +kernel
theorem dL_law_273 : decode cL_law 273 = .ok (.iadd, 1) := by decide +kernel
theorem dL_law_274 : decode cL_law 274 = .ok (.iaload, 1) := by decide +kernel
theorem dL_law_275 : decode cL_law 275 = .ok (.aload_n 0, 1) := by decide +kernel
theorem dL_law_276 : decode cL_law 276 = .ok (.iload 5, 2) := by decide +kernel
theorem dL_law_278 : decode cL_law 278 = .ok (.iconst 4, 1) := by decide +kernel
theorem dL_law_279 : decode cL_law 279 = .ok (.iadd, 1) := by decide +kernel
theorem dL_law_280 : decode cL_law 280 = .ok (.iaload, 1) := by decide +kernel
theorem dL_law_281 : decode cL_law 281 = .ok (.ifCond .eq 7, 3) := by decide +kernel
theorem dL_law_284 : decode cL_law 284 = .ok (.iconst 1, 1) := by decide +kernel
theorem dL_law_285 : decode cL_law 285 = .ok (.goto 4, 3) := by decide +kernel
theorem dL_law_288 : decode cL_law 288 = .ok (.iconst 0, 1) := by decide +kernel
theorem dL_law_289 : decode cL_law 289 = .ok (.aload_n 3, 1) := by decide +kernel
theorem dL_law_290 : decode cL_law 290 = .ok (.invokestatic 146, 3) := by decide +kernel
theorem dL_law_293 : decode cL_law 293 = .ok (.istore 6, 2) := by decide +kernel
theorem dL_law_295 : decode cL_law 295 = .ok (.aload_n 2, 1) := by decide +kernel
theorem dL_law_296 : decode cL_law 296 = .ok (.aload_n 0, 1) := by decide +kernel
theorem dL_law_297 : decode cL_law 297 = .ok (.iload 5, 2) := by decide +kernel
theorem dL_law_299 : decode cL_law 299 = .ok (.iconst 1, 1) := by decide +kernel
theorem dL_law_300 : decode cL_law 300 = .ok (.iadd, 1) := by decide +kernel
theorem dL_law_301 : decode cL_law 301 = .ok (.iaload, 1) := by decide +kernel
theorem dL_law_302 : decode cL_law 302 = .ok (.aload_n 0, 1) := by decide +kernel
theorem dL_law_303 : decode cL_law 303 = .ok (.iload 5, 2) := by decide +kernel
theorem dL_law_305 : decode cL_law 305 = .ok (.iconst 2, 1) := by decide +kernel
theorem dL_law_306 : decode cL_law 306 = .ok (.iadd, 1) := by decide +kernel
theorem dL_law_307 : decode cL_law 307 = .ok (.iaload, 1) := by decide +kernel
theorem dL_law_308 : decode cL_law 308 = .ok (.aload_n 0, 1) := by decide +kernel
theorem dL_law_309 : decode cL_law 309 = .ok (.iload 5, 2) := by decide +kernel
theorem dL_law_311 : decode cL_law 311 = .ok (.iconst 3, 1) := by decide +kernel
theorem dL_law_312 : decode cL_law 312 = .ok (.iadd, 1) := by decide +kernel
theorem dL_law_313 : decode cL_law 313 = .ok (.iaload, 1) := by decide +kernel
theorem dL_law_314 : decode cL_law 314 = .ok (.aload_n 0, 1) := by decide +kernel
theorem dL_law_315 : decode cL_law 315 = .ok (.iload 5, 2) := by decide +kernel
theorem dL_law_317 : decode cL_law 317 = .ok (.iconst 4, 1) := by decide +kernel
theorem dL_law_318 : decode cL_law 318 = .ok (.iadd, 1) := by decide +kernel
theorem dL_law_319 : decode cL_law 319 = .ok (.iaload, 1) := by decide +kernel
theorem dL_law_320 : decode cL_law 320 = .ok (.ifCond .eq 7, 3) := by decide +kernel
theorem dL_law_323 : decode cL_law 323 = .ok (.iconst 1, 1) := by decide +kernel
theorem dL_law_324 : decode cL_law 324 = .ok (.goto 4, 3) := by decide +kernel
theorem dL_law_327 : decode cL_law 327 = .ok (.iconst 0, 1) := by decide +kernel
theorem dL_law_328 : decode cL_law 328 = .ok (.invokevirtual 149, 3) := by decide +kernel
theorem dL_law_331 : decode cL_law 331 = .ok (.istore 7, 2) := by decide +kernel
theorem dL_law_333 : decode cL_law 333 = .ok (.aload_n 2, 1) := by decide +kernel
theorem dL_law_334 : decode cL_law 334 = .ok (.invokevirtual 142, 3) := by decide +kernel
theorem dL_law_337 : decode cL_law 337 = .ok (.iload 6, 2) := by decide +kernel
theorem dL_law_339 : decode cL_law 339 = .ok (.if_icmp .eq 5, 3) := by decide +kernel
theorem dL_law_342 : decode cL_law 342 = .ok (.iconst 0, 1) := by decide +kernel
theorem dL_law_343 : decode cL_law 343 = .ok (.ireturn, 1) := by decide +kernel
theorem dL_law_344 : decode cL_law 344 = .ok (.iload 6, 2) := by decide +kernel
theorem dL_law_346 : decode cL_law 346 = .ok (.ifCond .ne 22, 3) := by decide +kernel
theorem dL_law_349 : decode cL_law 349 = .ok (.aload_n 3, 1) := by decide +kernel
theorem dL_law_350 : decode cL_law 350 = .ok (.iconst 0, 1) := by decide +kernel
theorem dL_law_351 : decode cL_law 351 = .ok (.laload, 1) := by decide +kernel
theorem dL_law_352 : decode cL_law 352 = .ok (.iload 7, 2) := by decide +kernel
theorem dL_law_354 : decode cL_law 354 = .ok (.ifCond .eq 7, 3) := by decide +kernel
theorem dL_law_357 : decode cL_law 357 = .ok (.lconst 1, 1) := by decide +kernel
theorem dL_law_358 : decode cL_law 358 = .ok (.goto 4, 3) := by decide +kernel
theorem dL_law_361 : decode cL_law 361 = .ok (.lconst 0, 1) := by decide +kernel
theorem dL_law_362 : decode cL_law 362 = .ok (.lcmp, 1) := by decide +kernel
theorem dL_law_363 : decode cL_law 363 = .ok (.ifCond .eq 5, 3) := by decide +kernel
theorem dL_law_366 : decode cL_law 366 = .ok (.iconst 0, 1) := by decide +kernel
theorem dL_law_367 : decode cL_law 367 = .ok (.ireturn, 1) := by decide +kernel
theorem dL_law_368 : decode cL_law 368 = .ok (.goto 2387, 3) := by decide +kernel
theorem dL_law_371 : decode cL_law 371 = .ok (.aload_n 1, 1) := by decide +kernel
theorem dL_law_372 : decode cL_law 372 = .ok (.aload_n 0, 1) := by decide +kernel
theorem dL_law_373 : decode cL_law 373 = .ok (.iload 5, 2) := by decide +kernel
theorem dL_law_375 : decode cL_law 375 = .ok (.iconst 1, 1) := by decide +kernel
theorem dL_law_376 : decode cL_law 376 = .ok (.iadd, 1) := by decide +kernel
theorem dL_law_377 : decode cL_law 377 = .ok (.iaload, 1) := by decide +kernel
theorem dL_law_378 : decode cL_law 378 = .ok (.aload_n 0, 1) := by decide +kernel
theorem dL_law_379 : decode cL_law 379 = .ok (.iload 5, 2) := by decide +kernel
theorem dL_law_381 : decode cL_law 381 = .ok (.iconst 2, 1) := by decide +kernel
theorem dL_law_382 : decode cL_law 382 = .ok (.iadd, 1) := by decide +kernel
theorem dL_law_383 : decode cL_law 383 = .ok (.iaload, 1) := by decide +kernel
theorem dL_law_384 : decode cL_law 384 = .ok (.aload_n 0, 1) := by decide +kernel
theorem dL_law_385 : decode cL_law 385 = .ok (.iload 5, 2) := by decide +kernel
theorem dL_law_387 : decode cL_law 387 = .ok (.iconst 3, 1) := by decide +kernel
theorem dL_law_388 : decode cL_law 388 = .ok (.iadd, 1) := by decide +kernel
theorem dL_law_389 : decode cL_law 389 = .ok (.iaload, 1) := by decide +kernel
theorem dL_law_390 : decode cL_law 390 = .ok (.aload_n 0, 1) := by decide +kernel
theorem dL_law_391 : decode cL_law 391 = .ok (.iload 5, 2) := by decide +kernel
theorem dL_law_393 : decode cL_law 393 = .ok (.iconst 4, 1) := by decide +kernel
theorem dL_law_394 : decode cL_law 394 = .ok (.iadd, 1) := by decide +kernel
theorem dL_law_395 : decode cL_law 395 = .ok (.iaload, 1) := by decide +kernel
theorem dL_law_396 : decode cL_law 396 = .ok (.aload_n 0, 1) := by decide +kernel
theorem dL_law_397 : decode cL_law 397 = .ok (.iload 5, 2) := by decide +kernel
theorem dL_law_399 : decode cL_law 399 = .ok (.iconst 5, 1) := by decide +kernel
theorem dL_law_400 : decode cL_law 400 = .ok (.iadd, 1) := by decide +kernel
theorem dL_law_401 : decode cL_law 401 = .ok (.iaload, 1) := by decide +kernel
theorem dL_law_402 : decode cL_law 402 = .ok (.ifCond .eq 7, 3) := by decide +kernel
theorem dL_law_405 : decode cL_law 405 = .ok (.iconst 1, 1) := by decide +kernel
theorem dL_law_406 : decode cL_law 406 = .ok (.goto 4, 3) := by decide +kernel
theorem dL_law_409 : decode cL_law 409 = .ok (.iconst 0, 1) := by decide +kernel
theorem dL_law_410 : decode cL_law 410 = .ok (.aload_n 3, 1) := by decide +kernel
theorem dL_law_411 : decode cL_law 411 = .ok (.invokestatic 150, 3) := by decide +kernel
theorem dL_law_414 : decode cL_law 414 = .ok (.istore 6, 2) := by decide +kernel
theorem dL_law_416 : decode cL_law 416 = .ok (.aload_n 2, 1) := by decide +kernel
theorem dL_law_417 : decode cL_law 417 = .ok (.aload_n 0, 1) := by decide +kernel
theorem dL_law_418 : decode cL_law 418 = .ok (.iload 5, 2) := by decide +kernel
theorem dL_law_420 : decode cL_law 420 = .ok (.iconst 1, 1) := by decide +kernel
theorem dL_law_421 : decode cL_law 421 = .ok (.iadd, 1) := by decide +kernel
theorem dL_law_422 : decode cL_law 422 = .ok (.iaload, 1) := by decide +kernel
theorem dL_law_423 : decode cL_law 423 = .ok (.aload_n 0, 1) := by decide +kernel
theorem dL_law_424 : decode cL_law 424 = .ok (.iload 5, 2) := by decide +kernel
theorem dL_law_426 : decode cL_law 426 = .ok (.iconst 2, 1) := by decide +kernel
theorem dL_law_427 : decode cL_law 427 = .ok (.iadd, 1) := by decide +kernel
theorem dL_law_428 : decode cL_law 428 = .ok (.iaload, 1) := by decide +kernel
theorem dL_law_429 : decode cL_law 429 = .ok (.aload_n 0, 1) := by decide +kernel
theorem dL_law_430 : decode cL_law 430 = .ok (.iload 5, 2) := by decide +kernel
theorem dL_law_432 : decode cL_law 432 = .ok (.iconst 3, 1) := by decide +kernel
theorem dL_law_433 : decode cL_law 433 = .ok (.iadd, 1) := by decide +kernel
theorem dL_law_434 : decode cL_law 434 = .ok (.iaload, 1) := by decide +kernel
theorem dL_law_435 : decode cL_law 435 = .ok (.aload_n 0, 1) := by decide +kernel
theorem dL_law_436 : decode cL_law 436 = .ok (.iload 5, 2) := by decide +kernel
theorem dL_law_438 : decode cL_law 438 = .ok (.iconst 4, 1) := by decide +kernel
theorem dL_law_439 : decode cL_law 439 = .ok (.iadd, 1) := by decide +kernel
theorem dL_law_440 : decode cL_law 440 = .ok (.iaload, 1) := by decide +kernel
theorem dL_law_441 : decode cL_law 441 = .ok (.aload_n 0, 1) := by decide +kernel
theorem dL_law_442 : decode cL_law 442 = .ok (.iload 5, 2) := by decide +kernel
theorem dL_law_444 : decode cL_law 444 = .ok (.iconst 5, 1) := by decide +kernel
theorem dL_law_445 : decode cL_law 445 = .ok (.iadd, 1) := by decide +kernel
theorem dL_law_446 : decode cL_law 446 = .ok (.iaload, 1) := by decide +kernel
theorem dL_law_447 : decode cL_law 447 = .ok (.ifCond .eq 7, 3) := by decide +kernel
theorem dL_law_450 : decode cL_law 450 = .ok (.iconst 1, 1) := by decide +kernel
theorem dL_law_451 : decode cL_law 451 = .ok (.goto 4, 3) := by decide +kernel
theorem dL_law_454 : decode cL_law 454 = .ok (.iconst 0, 1) := by decide +kernel
theorem dL_law_455 : decode cL_law 455 = .ok (.invokevirtual 153, 3) := by decide +kernel
theorem dL_law_458 : decode cL_law 458 = .ok (.istore 7, 2) := by decide +kernel
theorem dL_law_460 : decode cL_law 460 = .ok (.aload_n 2, 1) := by decide +kernel
theorem dL_law_461 : decode cL_law 461 = .ok (.invokevirtual 142, 3) := by decide +kernel
theorem dL_law_464 : decode cL_law 464 = .ok (.iload 6, 2) := by decide +kernel
theorem dL_law_466 : decode cL_law 466 = .ok (.if_icmp .eq 5, 3) := by decide +kernel
theorem dL_law_469 : decode cL_law 469 = .ok (.iconst 0, 1) := by decide +kernel
theorem dL_law_470 : decode cL_law 470 = .ok (.ireturn, 1) := by decide +kernel
theorem dL_law_471 : decode cL_law 471 = .ok (.iload 6, 2) := by decide +kernel
theorem dL_law_473 : decode cL_law 473 = .ok (.ifCond .ne 15, 3) := by decide +kernel
theorem dL_law_476 : decode cL_law 476 = .ok (.aload_n 3, 1) := by decide +kernel
theorem dL_law_477 : decode cL_law 477 = .ok (.iconst 0, 1) := by decide +kernel
theorem dL_law_478 : decode cL_law 478 = .ok (.laload, 1) := by decide +kernel
theorem dL_law_479 : decode cL_law 479 = .ok (.iload 7, 2) := by decide +kernel
theorem dL_law_481 : decode cL_law 481 = .ok (.i2l, 1) := by decide +kernel
theorem dL_law_482 : decode cL_law 482 = .ok (.lcmp, 1) := by decide +kernel
theorem dL_law_483 : decode cL_law 483 = .ok (.ifCond .eq 5, 3) := by decide +kernel
theorem dL_law_486 : decode cL_law 486 = .ok (.iconst 0, 1) := by decide +kernel
theorem dL_law_487 : decode cL_law 487 = .ok (.ireturn, 1) := by decide +kernel
theorem dL_law_488 : decode cL_law 488 = .ok (.goto 2267, 3) := by decide +kernel
theorem dL_law_491 : decode cL_law 491 = .ok (.aload_n 1, 1) := by decide +kernel
theorem dL_law_492 : decode cL_law 492 = .ok (.aload_n 0, 1) := by decide +kernel
theorem dL_law_493 : decode cL_law 493 = .ok (.iload 5, 2) := by decide +kernel
theorem dL_law_495 : decode cL_law 495 = .ok (.iconst 1, 1) := by decide +kernel
theorem dL_law_496 : decode cL_law 496 = .ok (.iadd, 1) := by decide +kernel
theorem dL_law_497 : decode cL_law 497 = .ok (.iaload, 1) := by decide +kernel
theorem dL_law_498 : decode cL_law 498 = .ok (.aload_n 0, 1) := by decide +kernel
theorem dL_law_499 : decode cL_law 499 = .ok (.iload 5, 2) := by decide +kernel
theorem dL_law_501 : decode cL_law 501 = .ok (.iconst 2, 1) := by decide +kernel
theorem dL_law_502 : decode cL_law 502 = .ok (.iadd, 1) := by decide +kernel
theorem dL_law_503 : decode cL_law 503 = .ok (.iaload, 1) := by decide +kernel
theorem dL_law_504 : decode cL_law 504 = .ok (.aload_n 0, 1) := by decide +kernel
theorem dL_law_505 : decode cL_law 505 = .ok (.iload 5, 2) := by decide +kernel
theorem dL_law_507 : decode cL_law 507 = .ok (.iconst 3, 1) := by decide +kernel
theorem dL_law_508 : decode cL_law 508 = .ok (.iadd, 1) := by decide +kernel
theorem dL_law_509 : decode cL_law 509 = .ok (.iaload, 1) := by decide +kernel
theorem dL_law_510 : decode cL_law 510 = .ok (.aload_n 0, 1) := by decide +kernel
theorem dL_law_511 : decode cL_law 511 = .ok (.iload 5, 2) := by decide +kernel
theorem dL_law_513 : decode cL_law 513 = .ok (.iconst 4, 1) := by decide +kernel
theorem dL_law_514 : decode cL_law 514 = .ok (.iadd, 1) := by decide +kernel
theorem dL_law_515 : decode cL_law 515 = .ok (.iaload, 1) := by decide +kernel
theorem dL_law_516 : decode cL_law 516 = .ok (.aload_n 3, 1) := by decide +kernel
theorem dL_law_517 : decode cL_law 517 = .ok (.invokestatic 154, 3) := by decide +kernel
theorem dL_law_520 : decode cL_law 520 = .ok (.istore 6, 2) := by decide +kernel
theorem dL_law_522 : decode cL_law 522 = .ok (.aload_n 2, 1) := by decide +kernel
theorem dL_law_523 : decode cL_law 523 = .ok (.aload_n 0, 1) := by decide +kernel
theorem dL_law_524 : decode cL_law 524 = .ok (.iload 5, 2) := by decide +kernel
theorem dL_law_526 : decode cL_law 526 = .ok (.iconst 1, 1) := by decide +kernel
theorem dL_law_527 : decode cL_law 527 = .ok (.iadd, 1) := by decide +kernel
theorem dL_law_528 : decode cL_law 528 = .ok (.iaload, 1) := by decide +kernel
theorem dL_law_529 : decode cL_law 529 = .ok (.aload_n 0, 1) := by decide +kernel
theorem dL_law_530 : decode cL_law 530 = .ok (.iload 5, 2) := by decide +kernel
theorem dL_law_532 : decode cL_law 532 = .ok (.iconst 2, 1) := by decide +kernel
theorem dL_law_533 : decode cL_law 533 = .ok (.iadd, 1) := by decide +kernel
theorem dL_law_534 : decode cL_law 534 = .ok (.iaload, 1) := by decide +kernel
theorem dL_law_535 : decode cL_law 535 = .ok (.aload_n 0, 1) := by decide +kernel
theorem dL_law_536 : decode cL_law 536 = .ok (.iload 5, 2) := by decide +kernel
theorem dL_law_538 : decode cL_law 538 = .ok (.iconst 3, 1) := by decide +kernel
theorem dL_law_539 : decode cL_law 539 = .ok (.iadd, 1) := by decide +kernel
theorem dL_law_540 : decode cL_law 540 = .ok (.iaload, 1) := by decide +kernel
theorem dL_law_541 : decode cL_law 541 = .ok (.aload_n 0, 1) := by decide +kernel
theorem dL_law_542 : decode cL_law 542 = .ok (.iload 5, 2) := by decide +kernel
theorem dL_law_544 : decode cL_law 544 = .ok (.iconst 4, 1) := by decide +kernel
theorem dL_law_545 : decode cL_law 545 = .ok (.iadd, 1) := by decide +kernel
theorem dL_law_546 : decode cL_law 546 = .ok (.iaload, 1) := by decide +kernel
theorem dL_law_547 : decode cL_law 547 = .ok (.invokevirtual 157, 3) := by decide +kernel
theorem dL_law_550 : decode cL_law 550 = .ok (.istore 7, 2) := by decide +kernel
theorem dL_law_552 : decode cL_law 552 = .ok (.aload_n 2, 1) := by decide +kernel
theorem dL_law_553 : decode cL_law 553 = .ok (.invokevirtual 142, 3) := by decide +kernel
theorem dL_law_556 : decode cL_law 556 = .ok (.iload 6, 2) := by decide +kernel
theorem dL_law_558 : decode cL_law 558 = .ok (.if_icmp .eq 5, 3) := by decide +kernel
theorem dL_law_561 : decode cL_law 561 = .ok (.iconst 0, 1) := by decide +kernel
theorem dL_law_562 : decode cL_law 562 = .ok (.ireturn, 1) := by decide +kernel
theorem dL_law_563 : decode cL_law 563 = .ok (.iload 6, 2) := by decide +kernel
theorem dL_law_565 : decode cL_law 565 = .ok (.ifCond .ne 15, 3) := by decide +kernel
theorem dL_law_568 : decode cL_law 568 = .ok (.aload_n 3, 1) := by decide +kernel
theorem dL_law_569 : decode cL_law 569 = .ok (.iconst 0, 1) := by decide +kernel
theorem dL_law_570 : decode cL_law 570 = .ok (.laload, 1) := by decide +kernel
theorem dL_law_571 : decode cL_law 571 = .ok (.iload 7, 2) := by decide +kernel
theorem dL_law_573 : decode cL_law 573 = .ok (.i2l, 1) := by decide +kernel
theorem dL_law_574 : decode cL_law 574 = .ok (.lcmp, 1) := by decide +kernel
theorem dL_law_575 : decode cL_law 575 = .ok (.ifCond .eq 5, 3) := by decide +kernel
theorem dL_law_578 : decode cL_law 578 = .ok (.iconst 0, 1) := by decide +kernel
theorem dL_law_579 : decode cL_law 579 = .ok (.ireturn, 1) := by decide +kernel
theorem dL_law_580 : decode cL_law 580 = .ok (.goto 2175, 3) := by decide +kernel
theorem dL_law_583 : decode cL_law 583 = .ok (.aload_n 1, 1) := by decide +kernel
theorem dL_law_584 : decode cL_law 584 = .ok (.aload_n 0, 1) := by decide +kernel
theorem dL_law_585 : decode cL_law 585 = .ok (.iload 5, 2) := by decide +kernel
theorem dL_law_587 : decode cL_law 587 = .ok (.iconst 1, 1) := by decide +kernel
theorem dL_law_588 : decode cL_law 588 = .ok (.iadd, 1) := by decide +kernel
theorem dL_law_589 : decode cL_law 589 = .ok (.iaload, 1) := by decide +kernel
theorem dL_law_590 : decode cL_law 590 = .ok (.aload_n 0, 1) := by decide +kernel
theorem dL_law_591 : decode cL_law 591 = .ok (.iload 5, 2) := by decide +kernel
theorem dL_law_593 : decode cL_law 593 = .ok (.iconst 2, 1) := by decide +kernel
theorem dL_law_594 : decode cL_law 594 = .ok (.iadd, 1) := by decide +kernel
theorem dL_law_595 : decode cL_law 595 = .ok (.iaload, 1) := by decide +kernel
theorem dL_law_596 : decode cL_law 596 = .ok (.aload_n 0, 1) := by decide +kernel
theorem dL_law_597 : decode cL_law 597 = .ok (.iload 5, 2) := by decide +kernel
theorem dL_law_599 : decode cL_law 599 = .ok (.iconst 3, 1) := by decide +kernel
theorem dL_law_600 : decode cL_law 600 = .ok (.iadd, 1) := by decide +kernel
theorem dL_law_601 : decode cL_law 601 = .ok (.iaload, 1) := by decide +kernel
theorem dL_law_602 : decode cL_law 602 = .ok (.i2l, 1) := by decide +kernel
theorem dL_law_603 : decode cL_law 603 = .ok (.bipush 32, 2) := by decide +kernel
theorem dL_law_605 : decode cL_law 605 = .ok (.lshl, 1) := by decide +kernel
theorem dL_law_606 : decode cL_law 606 = .ok (.aload_n 0, 1) := by decide +kernel
theorem dL_law_607 : decode cL_law 607 = .ok (.iload 5, 2) := by decide +kernel
theorem dL_law_609 : decode cL_law 609 = .ok (.iconst 4, 1) := by decide +kernel
theorem dL_law_610 : decode cL_law 610 = .ok (.iadd, 1) := by decide +kernel
theorem dL_law_611 : decode cL_law 611 = .ok (.iaload, 1) := by decide +kernel
theorem dL_law_612 : decode cL_law 612 = .ok (.i2l, 1) := by decide +kernel
theorem dL_law_613 : decode cL_law 613 = .ok (.ldc2_w 158, 3) := by decide +kernel
theorem dL_law_616 : decode cL_law 616 = .ok (.land, 1) := by decide +kernel
theorem dL_law_617 : decode cL_law 617 = .ok (.lor, 1) := by decide +kernel
theorem dL_law_618 : decode cL_law 618 = .ok (.aload_n 3, 1) := by decide +kernel
theorem dL_law_619 : decode cL_law 619 = .ok (.invokestatic 160, 3) := by decide +kernel
theorem dL_law_622 : decode cL_law 622 = .ok (.istore 6, 2) := by decide +kernel
theorem dL_law_624 : decode cL_law 624 = .ok (.aload_n 2, 1) := by decide +kernel
theorem dL_law_625 : decode cL_law 625 = .ok (.aload_n 0, 1) := by decide +kernel
theorem dL_law_626 : decode cL_law 626 = .ok (.iload 5, 2) := by decide +kernel
theorem dL_law_628 : decode cL_law 628 = .ok (.iconst 1, 1) := by decide +kernel
theorem dL_law_629 : decode cL_law 629 = .ok (.iadd, 1) := by decide +kernel
theorem dL_law_630 : decode cL_law 630 = .ok (.iaload, 1) := by decide +kernel
theorem dL_law_631 : decode cL_law 631 = .ok (.aload_n 0, 1) := by decide +kernel
theorem dL_law_632 : decode cL_law 632 = .ok (.iload 5, 2) := by decide +kernel
theorem dL_law_634 : decode cL_law 634 = .ok (.iconst 2, 1) := by decide +kernel
theorem dL_law_635 : decode cL_law 635 = .ok (.iadd, 1) := by decide +kernel
theorem dL_law_636 : decode cL_law 636 = .ok (.iaload, 1) := by decide +kernel
theorem dL_law_637 : decode cL_law 637 = .ok (.aload_n 0, 1) := by decide +kernel
theorem dL_law_638 : decode cL_law 638 = .ok (.iload 5, 2) := by decide +kernel
theorem dL_law_640 : decode cL_law 640 = .ok (.iconst 3, 1) := by decide +kernel
theorem dL_law_641 : decode cL_law 641 = .ok (.iadd, 1) := by decide +kernel
theorem dL_law_642 : decode cL_law 642 = .ok (.iaload, 1) := by decide +kernel
theorem dL_law_643 : decode cL_law 643 = .ok (.i2l, 1) := by decide +kernel
theorem dL_law_644 : decode cL_law 644 = .ok (.bipush 32, 2) := by decide +kernel
theorem dL_law_646 : decode cL_law 646 = .ok (.lshl, 1) := by decide +kernel
theorem dL_law_647 : decode cL_law 647 = .ok (.aload_n 0, 1) := by decide +kernel
theorem dL_law_648 : decode cL_law 648 = .ok (.iload 5, 2) := by decide +kernel
theorem dL_law_650 : decode cL_law 650 = .ok (.iconst 4, 1) := by decide +kernel
theorem dL_law_651 : decode cL_law 651 = .ok (.iadd, 1) := by decide +kernel
theorem dL_law_652 : decode cL_law 652 = .ok (.iaload, 1) := by decide +kernel
theorem dL_law_653 : decode cL_law 653 = .ok (.i2l, 1) := by decide +kernel
theorem dL_law_654 : decode cL_law 654 = .ok (.ldc2_w 158, 3) := by decide +kernel
theorem dL_law_657 : decode cL_law 657 = .ok (.land, 1) := by decide +kernel
theorem dL_law_658 : decode cL_law 658 = .ok (.lor, 1) := by decide +kernel
theorem dL_law_659 : decode cL_law 659 = .ok (.invokevirtual 163, 3) := by decide +kernel
theorem dL_law_662 : decode cL_law 662 = .ok (.istore 7, 2) := by decide +kernel
theorem dL_law_664 : decode cL_law 664 = .ok (.aload_n 2, 1) := by decide +kernel
theorem dL_law_665 : decode cL_law 665 = .ok (.invokevirtual 142, 3) := by decide +kernel
theorem dL_law_668 : decode cL_law 668 = .ok (.iload 6, 2) := by decide +kernel
theorem dL_law_670 : decode cL_law 670 = .ok (.if_icmp .eq 5, 3) := by decide +kernel
theorem dL_law_673 : decode cL_law 673 = .ok (.iconst 0, 1) := by decide +kernel
theorem dL_law_674 : decode cL_law 674 = .ok (.ireturn, 1) := by decide +kernel
theorem dL_law_675 : decode cL_law 675 = .ok (.iload 6, 2) := by decide +kernel
theorem dL_law_677 : decode cL_law 677 = .ok (.ifCond .ne 15, 3) := by decide +kernel
theorem dL_law_680 : decode cL_law 680 = .ok (.aload_n 3, 1) := by decide +kernel
theorem dL_law_681 : decode cL_law 681 = .ok (.iconst 0, 1) := by decide +kernel
theorem dL_law_682 : decode cL_law 682 = .ok (.laload, 1) := by decide +kernel
theorem dL_law_683 : decode cL_law 683 = .ok (.iload 7, 2) := by decide +kernel
theorem dL_law_685 : decode cL_law 685 = .ok (.i2l, 1) := by decide +kernel
theorem dL_law_686 : decode cL_law 686 = .ok (.lcmp, 1) := by decide +kernel
theorem dL_law_687 : decode cL_law 687 = .ok (.ifCond .eq 5, 3) := by decide +kernel
theorem dL_law_690 : decode cL_law 690 = .ok (.iconst 0, 1) := by decide +kernel
theorem dL_law_691 : decode cL_law 691 = .ok (.ireturn, 1) := by decide +kernel
theorem dL_law_692 : decode cL_law 692 = .ok (.goto 2063, 3) := by decide +kernel
theorem dL_law_695 : decode cL_law 695 = .ok (.aload_n 1, 1) := by decide +kernel
theorem dL_law_696 : decode cL_law 696 = .ok (.aload_n 0, 1) := by decide +kernel
theorem dL_law_697 : decode cL_law 697 = .ok (.iload 5, 2) := by decide +kernel
theorem dL_law_699 : decode cL_law 699 = .ok (.iconst 1, 1) := by decide +kernel
theorem dL_law_700 : decode cL_law 700 = .ok (.iadd, 1) := by decide +kernel
theorem dL_law_701 : decode cL_law 701 = .ok (.iaload, 1) := by decide +kernel
theorem dL_law_702 : decode cL_law 702 = .ok (.aload_n 3, 1) := by decide +kernel
theorem dL_law_703 : decode cL_law 703 = .ok (.invokestatic 164, 3) := by decide +kernel
theorem dL_law_706 : decode cL_law 706 = .ok (.istore 6, 2) := by decide +kernel
theorem dL_law_708 : decode cL_law 708 = .ok (.aload_n 2, 1) := by decide +kernel
theorem dL_law_709 : decode cL_law 709 = .ok (.aload_n 0, 1) := by decide +kernel
theorem dL_law_710 : decode cL_law 710 = .ok (.iload 5, 2) := by decide +kernel
theorem dL_law_712 : decode cL_law 712 = .ok (.iconst 1, 1) := by decide +kernel
theorem dL_law_713 : decode cL_law 713 = .ok (.iadd, 1) := by decide +kernel
theorem dL_law_714 : decode cL_law 714 = .ok (.iaload, 1) := by decide +kernel
theorem dL_law_715 : decode cL_law 715 = .ok (.invokevirtual 166, 3) := by decide +kernel
theorem dL_law_718 : decode cL_law 718 = .ok (.istore 7, 2) := by decide +kernel
theorem dL_law_720 : decode cL_law 720 = .ok (.aload_n 2, 1) := by decide +kernel
theorem dL_law_721 : decode cL_law 721 = .ok (.invokevirtual 142, 3) := by decide +kernel
theorem dL_law_724 : decode cL_law 724 = .ok (.iload 6, 2) := by decide +kernel
theorem dL_law_726 : decode cL_law 726 = .ok (.if_icmp .eq 5, 3) := by decide +kernel
theorem dL_law_729 : decode cL_law 729 = .ok (.iconst 0, 1) := by decide +kernel
theorem dL_law_730 : decode cL_law 730 = .ok (.ireturn, 1) := by decide +kernel
theorem dL_law_731 : decode cL_law 731 = .ok (.iload 6, 2) := by decide +kernel
theorem dL_law_733 : decode cL_law 733 = .ok (.ifCond .ne 15, 3) := by decide +kernel
theorem dL_law_736 : decode cL_law 736 = .ok (.aload_n 3, 1) := by decide +kernel
theorem dL_law_737 : decode cL_law 737 = .ok (.iconst 0, 1) := by decide +kernel
theorem dL_law_738 : decode cL_law 738 = .ok (.laload, 1) := by decide +kernel
theorem dL_law_739 : decode cL_law 739 = .ok (.iload 7, 2) := by decide +kernel
theorem dL_law_741 : decode cL_law 741 = .ok (.i2l, 1) := by decide +kernel
theorem dL_law_742 : decode cL_law 742 = .ok (.lcmp, 1) := by decide +kernel
theorem dL_law_743 : decode cL_law 743 = .ok (.ifCond .eq 5, 3) := by decide +kernel
theorem dL_law_746 : decode cL_law 746 = .ok (.iconst 0, 1) := by decide +kernel
theorem dL_law_747 : decode cL_law 747 = .ok (.ireturn, 1) := by decide +kernel
theorem dL_law_748 : decode cL_law 748 = .ok (.goto 2007, 3) := by decide +kernel
theorem dL_law_751 : decode cL_law 751 = .ok (.aload_n 1, 1) := by decide +kernel
theorem dL_law_752 : decode cL_law 752 = .ok (.aload_n 0, 1) := by decide +kernel
theorem dL_law_753 : decode cL_law 753 = .ok (.iload 5, 2) := by decide +kernel
theorem dL_law_755 : decode cL_law 755 = .ok (.iconst 1, 1) := by decide +kernel
theorem dL_law_756 : decode cL_law 756 = .ok (.iadd, 1) := by decide +kernel
theorem dL_law_757 : decode cL_law 757 = .ok (.iaload, 1) := by decide +kernel
theorem dL_law_758 : decode cL_law 758 = .ok (.aload_n 0, 1) := by decide +kernel
theorem dL_law_759 : decode cL_law 759 = .ok (.iload 5, 2) := by decide +kernel
theorem dL_law_761 : decode cL_law 761 = .ok (.iconst 2, 1) := by decide +kernel
theorem dL_law_762 : decode cL_law 762 = .ok (.iadd, 1) := by decide +kernel
theorem dL_law_763 : decode cL_law 763 = .ok (.iaload, 1) := by decide +kernel
theorem dL_law_764 : decode cL_law 764 = .ok (.aload_n 0, 1) := by decide +kernel
theorem dL_law_765 : decode cL_law 765 = .ok (.iload 5, 2) := by decide +kernel
theorem dL_law_767 : decode cL_law 767 = .ok (.iconst 3, 1) := by decide +kernel
theorem dL_law_768 : decode cL_law 768 = .ok (.iadd, 1) := by decide +kernel
theorem dL_law_769 : decode cL_law 769 = .ok (.iaload, 1) := by decide +kernel
theorem dL_law_770 : decode cL_law 770 = .ok (.aload_n 3, 1) := by decide +kernel
theorem dL_law_771 : decode cL_law 771 = .ok (.invokestatic 167, 3) := by decide +kernel
theorem dL_law_774 : decode cL_law 774 = .ok (.istore 6, 2) := by decide +kernel
theorem dL_law_776 : decode cL_law 776 = .ok (.aload_n 2, 1) := by decide +kernel
theorem dL_law_777 : decode cL_law 777 = .ok (.aload_n 0, 1) := by decide +kernel
theorem dL_law_778 : decode cL_law 778 = .ok (.iload 5, 2) := by decide +kernel
theorem dL_law_780 : decode cL_law 780 = .ok (.iconst 1, 1) := by decide +kernel
theorem dL_law_781 : decode cL_law 781 = .ok (.iadd, 1) := by decide +kernel
theorem dL_law_782 : decode cL_law 782 = .ok (.iaload, 1) := by decide +kernel
theorem dL_law_783 : decode cL_law 783 = .ok (.aload_n 0, 1) := by decide +kernel
theorem dL_law_784 : decode cL_law 784 = .ok (.iload 5, 2) := by decide +kernel
theorem dL_law_786 : decode cL_law 786 = .ok (.iconst 2, 1) := by decide +kernel
theorem dL_law_787 : decode cL_law 787 = .ok (.iadd, 1) := by decide +kernel
theorem dL_law_788 : decode cL_law 788 = .ok (.iaload, 1) := by decide +kernel
theorem dL_law_789 : decode cL_law 789 = .ok (.aload_n 0, 1) := by decide +kernel
theorem dL_law_790 : decode cL_law 790 = .ok (.iload 5, 2) := by decide +kernel
theorem dL_law_792 : decode cL_law 792 = .ok (.iconst 3, 1) := by decide +kernel
theorem dL_law_793 : decode cL_law 793 = .ok (.iadd, 1) := by decide +kernel
theorem dL_law_794 : decode cL_law 794 = .ok (.iaload, 1) := by decide +kernel
theorem dL_law_795 : decode cL_law 795 = .ok (.invokevirtual 170, 3) := by decide +kernel
theorem dL_law_798 : decode cL_law 798 = .ok (.istore 7, 2) := by decide +kernel
theorem dL_law_800 : decode cL_law 800 = .ok (.aload_n 2, 1) := by decide +kernel
theorem dL_law_801 : decode cL_law 801 = .ok (.invokevirtual 142, 3) := by decide +kernel
theorem dL_law_804 : decode cL_law 804 = .ok (.iload 6, 2) := by decide +kernel
theorem dL_law_806 : decode cL_law 806 = .ok (.if_icmp .eq 5, 3) := by decide +kernel
theorem dL_law_809 : decode cL_law 809 = .ok (.iconst 0, 1) := by decide +kernel
theorem dL_law_810 : decode cL_law 810 = .ok (.ireturn, 1) := by decide +kernel
theorem dL_law_811 : decode cL_law 811 = .ok (.iload 6, 2) := by decide +kernel
theorem dL_law_813 : decode cL_law 813 = .ok (.ifCond .ne 15, 3) := by decide +kernel
theorem dL_law_816 : decode cL_law 816 = .ok (.aload_n 3, 1) := by decide +kernel
theorem dL_law_817 : decode cL_law 817 = .ok (.iconst 0, 1) := by decide +kernel
theorem dL_law_818 : decode cL_law 818 = .ok (.laload, 1) := by decide +kernel
theorem dL_law_819 : decode cL_law 819 = .ok (.iload 7, 2) := by decide +kernel
theorem dL_law_821 : decode cL_law 821 = .ok (.i2l, 1) := by decide +kernel
theorem dL_law_822 : decode cL_law 822 = .ok (.lcmp, 1) := by decide +kernel
theorem dL_law_823 : decode cL_law 823 = .ok (.ifCond .eq 5, 3) := by decide +kernel
theorem dL_law_826 : decode cL_law 826 = .ok (.iconst 0, 1) := by decide +kernel
theorem dL_law_827 : decode cL_law 827 = .ok (.ireturn, 1) := by decide +kernel
theorem dL_law_828 : decode cL_law 828 = .ok (.goto 1927, 3) := by decide +kernel
theorem dL_law_831 : decode cL_law 831 = .ok (.aload_n 1, 1) := by decide +kernel
theorem dL_law_832 : decode cL_law 832 = .ok (.aload_n 0, 1) := by decide +kernel
theorem dL_law_833 : decode cL_law 833 = .ok (.iload 5, 2) := by decide +kernel
theorem dL_law_835 : decode cL_law 835 = .ok (.iconst 1, 1) := by decide +kernel
theorem dL_law_836 : decode cL_law 836 = .ok (.iadd, 1) := by decide +kernel
theorem dL_law_837 : decode cL_law 837 = .ok (.iaload, 1) := by decide +kernel
theorem dL_law_838 : decode cL_law 838 = .ok (.aload_n 0, 1) := by decide +kernel
theorem dL_law_839 : decode cL_law 839 = .ok (.iload 5, 2) := by decide +kernel
theorem dL_law_841 : decode cL_law 841 = .ok (.iconst 2, 1) := by decide +kernel
theorem dL_law_842 : decode cL_law 842 = .ok (.iadd, 1) := by decide +kernel
theorem dL_law_843 : decode cL_law 843 = .ok (.iaload, 1) := by decide +kernel
theorem dL_law_844 : decode cL_law 844 = .ok (.aload_n 3, 1) := by decide +kernel
theorem dL_law_845 : decode cL_law 845 = .ok (.invokestatic 171, 3) := by decide +kernel
theorem dL_law_848 : decode cL_law 848 = .ok (.istore 6, 2) := by decide +kernel
theorem dL_law_850 : decode cL_law 850 = .ok (.aload_n 2, 1) := by decide +kernel
theorem dL_law_851 : decode cL_law 851 = .ok (.aload_n 0, 1) := by decide +kernel
theorem dL_law_852 : decode cL_law 852 = .ok (.iload 5, 2) := by decide +kernel
theorem dL_law_854 : decode cL_law 854 = .ok (.iconst 1, 1) := by decide +kernel
theorem dL_law_855 : decode cL_law 855 = .ok (.iadd, 1) := by decide +kernel
theorem dL_law_856 : decode cL_law 856 = .ok (.iaload, 1) := by decide +kernel
theorem dL_law_857 : decode cL_law 857 = .ok (.aload_n 0, 1) := by decide +kernel
theorem dL_law_858 : decode cL_law 858 = .ok (.iload 5, 2) := by decide +kernel
theorem dL_law_860 : decode cL_law 860 = .ok (.iconst 2, 1) := by decide +kernel
theorem dL_law_861 : decode cL_law 861 = .ok (.iadd, 1) := by decide +kernel
theorem dL_law_862 : decode cL_law 862 = .ok (.iaload, 1) := by decide +kernel
theorem dL_law_863 : decode cL_law 863 = .ok (.invokevirtual 174, 3) := by decide +kernel
theorem dL_law_866 : decode cL_law 866 = .ok (.istore 7, 2) := by decide +kernel
theorem dL_law_868 : decode cL_law 868 = .ok (.aload_n 2, 1) := by decide +kernel
theorem dL_law_869 : decode cL_law 869 = .ok (.invokevirtual 142, 3) := by decide +kernel
theorem dL_law_872 : decode cL_law 872 = .ok (.iload 6, 2) := by decide +kernel
theorem dL_law_874 : decode cL_law 874 = .ok (.if_icmp .eq 5, 3) := by decide +kernel
theorem dL_law_877 : decode cL_law 877 = .ok (.iconst 0, 1) := by decide +kernel
theorem dL_law_878 : decode cL_law 878 = .ok (.ireturn, 1) := by decide +kernel
theorem dL_law_879 : decode cL_law 879 = .ok (.iload 6, 2) := by decide +kernel
theorem dL_law_881 : decode cL_law 881 = .ok (.ifCond .ne 15, 3) := by decide +kernel
theorem dL_law_884 : decode cL_law 884 = .ok (.aload_n 3, 1) := by decide +kernel
theorem dL_law_885 : decode cL_law 885 = .ok (.iconst 0, 1) := by decide +kernel
theorem dL_law_886 : decode cL_law 886 = .ok (.laload, 1) := by decide +kernel
theorem dL_law_887 : decode cL_law 887 = .ok (.iload 7, 2) := by decide +kernel
theorem dL_law_889 : decode cL_law 889 = .ok (.i2l, 1) := by decide +kernel
theorem dL_law_890 : decode cL_law 890 = .ok (.lcmp, 1) := by decide +kernel
theorem dL_law_891 : decode cL_law 891 = .ok (.ifCond .eq 5, 3) := by decide +kernel
theorem dL_law_894 : decode cL_law 894 = .ok (.iconst 0, 1) := by decide +kernel
theorem dL_law_895 : decode cL_law 895 = .ok (.ireturn, 1) := by decide +kernel
theorem dL_law_896 : decode cL_law 896 = .ok (.goto 1859, 3) := by decide +kernel
theorem dL_law_899 : decode cL_law 899 = .ok (.aload_n 1, 1) := by decide +kernel
theorem dL_law_900 : decode cL_law 900 = .ok (.aload_n 0, 1) := by decide +kernel
theorem dL_law_901 : decode cL_law 901 = .ok (.iload 5, 2) := by decide +kernel
theorem dL_law_903 : decode cL_law 903 = .ok (.iconst 1, 1) := by decide +kernel
theorem dL_law_904 : decode cL_law 904 = .ok (.iadd, 1) := by decide +kernel
theorem dL_law_905 : decode cL_law 905 = .ok (.iaload, 1) := by decide +kernel
theorem dL_law_906 : decode cL_law 906 = .ok (.aload_n 0, 1) := by decide +kernel
theorem dL_law_907 : decode cL_law 907 = .ok (.iload 5, 2) := by decide +kernel
theorem dL_law_909 : decode cL_law 909 = .ok (.iconst 2, 1) := by decide +kernel
theorem dL_law_910 : decode cL_law 910 = .ok (.iadd, 1) := by decide +kernel
theorem dL_law_911 : decode cL_law 911 = .ok (.iaload, 1) := by decide +kernel
theorem dL_law_912 : decode cL_law 912 = .ok (.aload_n 0, 1) := by decide +kernel
theorem dL_law_913 : decode cL_law 913 = .ok (.iload 5, 2) := by decide +kernel
theorem dL_law_915 : decode cL_law 915 = .ok (.iconst 3, 1) := by decide +kernel
theorem dL_law_916 : decode cL_law 916 = .ok (.iadd, 1) := by decide +kernel
theorem dL_law_917 : decode cL_law 917 = .ok (.iaload, 1) := by decide +kernel
theorem dL_law_918 : decode cL_law 918 = .ok (.aload_n 3, 1) := by decide +kernel
theorem dL_law_919 : decode cL_law 919 = .ok (.invokestatic 175, 3) := by decide +kernel
theorem dL_law_922 : decode cL_law 922 = .ok (.istore 6, 2) := by decide +kernel
theorem dL_law_924 : decode cL_law 924 = .ok (.aload_n 2, 1) := by decide +kernel
theorem dL_law_925 : decode cL_law 925 = .ok (.aload_n 0, 1) := by decide +kernel
theorem dL_law_926 : decode cL_law 926 = .ok (.iload 5, 2) := by decide +kernel
theorem dL_law_928 : decode cL_law 928 = .ok (.iconst 1, 1) := by decide +kernel
theorem dL_law_929 : decode cL_law 929 = .ok (.iadd, 1) := by decide +kernel
theorem dL_law_930 : decode cL_law 930 = .ok (.iaload, 1) := by decide +kernel
theorem dL_law_931 : decode cL_law 931 = .ok (.aload_n 0, 1) := by decide +kernel
theorem dL_law_932 : decode cL_law 932 = .ok (.iload 5, 2) := by decide +kernel
theorem dL_law_934 : decode cL_law 934 = .ok (.iconst 2, 1) := by decide +kernel
theorem dL_law_935 : decode cL_law 935 = .ok (.iadd, 1) := by decide +kernel
theorem dL_law_936 : decode cL_law 936 = .ok (.iaload, 1) := by decide +kernel
theorem dL_law_937 : decode cL_law 937 = .ok (.aload_n 0, 1) := by decide +kernel
theorem dL_law_938 : decode cL_law 938 = .ok (.iload 5, 2) := by decide +kernel
theorem dL_law_940 : decode cL_law 940 = .ok (.iconst 3, 1) := by decide +kernel
theorem dL_law_941 : decode cL_law 941 = .ok (.iadd, 1) := by decide +kernel
theorem dL_law_942 : decode cL_law 942 = .ok (.iaload, 1) := by decide +kernel
theorem dL_law_943 : decode cL_law 943 = .ok (.invokevirtual 177, 3) := by decide +kernel
theorem dL_law_946 : decode cL_law 946 = .ok (.istore 7, 2) := by decide +kernel
theorem dL_law_948 : decode cL_law 948 = .ok (.aload_n 2, 1) := by decide +kernel
theorem dL_law_949 : decode cL_law 949 = .ok (.invokevirtual 142, 3) := by decide +kernel
theorem dL_law_952 : decode cL_law 952 = .ok (.iload 6, 2) := by decide +kernel
theorem dL_law_954 : decode cL_law 954 = .ok (.if_icmp .eq 5, 3) := by decide +kernel
theorem dL_law_957 : decode cL_law 957 = .ok (.iconst 0, 1) := by decide +kernel
theorem dL_law_958 : decode cL_law 958 = .ok (.ireturn, 1) := by decide +kernel
theorem dL_law_959 : decode cL_law 959 = .ok (.iload 6, 2) := by decide +kernel
theorem dL_law_961 : decode cL_law 961 = .ok (.ifCond .ne 15, 3) := by decide +kernel
theorem dL_law_964 : decode cL_law 964 = .ok (.aload_n 3, 1) := by decide +kernel
theorem dL_law_965 : decode cL_law 965 = .ok (.iconst 0, 1) := by decide +kernel
theorem dL_law_966 : decode cL_law 966 = .ok (.laload, 1) := by decide +kernel
theorem dL_law_967 : decode cL_law 967 = .ok (.iload 7, 2) := by decide +kernel
theorem dL_law_969 : decode cL_law 969 = .ok (.i2l, 1) := by decide +kernel
theorem dL_law_970 : decode cL_law 970 = .ok (.lcmp, 1) := by decide +kernel
theorem dL_law_971 : decode cL_law 971 = .ok (.ifCond .eq 5, 3) := by decide +kernel
theorem dL_law_974 : decode cL_law 974 = .ok (.iconst 0, 1) := by decide +kernel
theorem dL_law_975 : decode cL_law 975 = .ok (.ireturn, 1) := by decide +kernel
theorem dL_law_976 : decode cL_law 976 = .ok (.goto 1779, 3) := by decide +kernel
theorem dL_law_979 : decode cL_law 979 = .ok (.aload_n 1, 1) := by decide +kernel
theorem dL_law_980 : decode cL_law 980 = .ok (.aload_n 0, 1) := by decide +kernel
theorem dL_law_981 : decode cL_law 981 = .ok (.iload 5, 2) := by decide +kernel
theorem dL_law_983 : decode cL_law 983 = .ok (.iconst 1, 1) := by decide +kernel
theorem dL_law_984 : decode cL_law 984 = .ok (.iadd, 1) := by decide +kernel
theorem dL_law_985 : decode cL_law 985 = .ok (.iaload, 1) := by decide +kernel
theorem dL_law_986 : decode cL_law 986 = .ok (.aload_n 0, 1) := by decide +kernel
theorem dL_law_987 : decode cL_law 987 = .ok (.iload 5, 2) := by decide +kernel
theorem dL_law_989 : decode cL_law 989 = .ok (.iconst 2, 1) := by decide +kernel
theorem dL_law_990 : decode cL_law 990 = .ok (.iadd, 1) := by decide +kernel
theorem dL_law_991 : decode cL_law 991 = .ok (.iaload, 1) := by decide +kernel
theorem dL_law_992 : decode cL_law 992 = .ok (.aload_n 0, 1) := by decide +kernel
theorem dL_law_993 : decode cL_law 993 = .ok (.iload 5, 2) := by decide +kernel
theorem dL_law_995 : decode cL_law 995 = .ok (.iconst 3, 1) := by decide +kernel
theorem dL_law_996 : decode cL_law 996 = .ok (.iadd, 1) := by decide +kernel
theorem dL_law_997 : decode cL_law 997 = .ok (.iaload, 1) := by decide +kernel
theorem dL_law_998 : decode cL_law 998 = .ok (.aload_n 3, 1) := by decide +kernel
theorem dL_law_999 : decode cL_law 999 = .ok (.invokestatic 178, 3) := by decide +kernel
theorem dL_law_1002 : decode cL_law 1002 = .ok (.istore 6, 2) := by decide +kernel
theorem dL_law_1004 : decode cL_law 1004 = .ok (.aload_n 2, 1) := by decide +kernel
theorem dL_law_1005 : decode cL_law 1005 = .ok (.aload_n 0, 1) := by decide +kernel
theorem dL_law_1006 : decode cL_law 1006 = .ok (.iload 5, 2) := by decide +kernel
theorem dL_law_1008 : decode cL_law 1008 = .ok (.iconst 1, 1) := by decide +kernel
theorem dL_law_1009 : decode cL_law 1009 = .ok (.iadd, 1) := by decide +kernel
theorem dL_law_1010 : decode cL_law 1010 = .ok (.iaload, 1) := by decide +kernel
theorem dL_law_1011 : decode cL_law 1011 = .ok (.aload_n 0, 1) := by decide +kernel
theorem dL_law_1012 : decode cL_law 1012 = .ok (.iload 5, 2) := by decide +kernel
theorem dL_law_1014 : decode cL_law 1014 = .ok (.iconst 2, 1) := by decide +kernel
theorem dL_law_1015 : decode cL_law 1015 = .ok (.iadd, 1) := by decide +kernel
theorem dL_law_1016 : decode cL_law 1016 = .ok (.iaload, 1) := by decide +kernel
theorem dL_law_1017 : decode cL_law 1017 = .ok (.aload_n 0, 1) := by decide +kernel
theorem dL_law_1018 : decode cL_law 1018 = .ok (.iload 5, 2) := by decide +kernel
theorem dL_law_1020 : decode cL_law 1020 = .ok (.iconst 3, 1) := by decide +kernel
theorem dL_law_1021 : decode cL_law 1021 = .ok (.iadd, 1) := by decide +kernel
theorem dL_law_1022 : decode cL_law 1022 = .ok (.iaload, 1) := by decide +kernel
theorem dL_law_1023 : decode cL_law 1023 = .ok (.invokevirtual 180, 3) := by decide +kernel
theorem dL_law_1026 : decode cL_law 1026 = .ok (.istore 7, 2) := by decide +kernel
theorem dL_law_1028 : decode cL_law 1028 = .ok (.aload_n 2, 1) := by decide +kernel
theorem dL_law_1029 : decode cL_law 1029 = .ok (.invokevirtual 142, 3) := by decide +kernel
theorem dL_law_1032 : decode cL_law 1032 = .ok (.iload 6, 2) := by decide +kernel
theorem dL_law_1034 : decode cL_law 1034 = .ok (.if_icmp .eq 5, 3) := by decide +kernel
theorem dL_law_1037 : decode cL_law 1037 = .ok (.iconst 0, 1) := by decide +kernel
theorem dL_law_1038 : decode cL_law 1038 = .ok (.ireturn, 1) := by decide +kernel
theorem dL_law_1039 : decode cL_law 1039 = .ok (.iload 6, 2) := by decide +kernel
end
section
theorem dL_law_1041 : decode cL_law 1041 = .ok (.ifCond .ne 15, 3) := by decide +kernel
theorem dL_law_1044 : decode cL_law 1044 = .ok (.aload_n 3, 1) := by decide +kernel
theorem dL_law_1045 : decode cL_law 1045 = .ok (.iconst 0, 1) := by decide +kernel
theorem dL_law_1046 : decode cL_law 1046 = .ok (.laload, 1) := by decide +kernel
theorem dL_law_1047 : decode cL_law 1047 = .ok (.iload 7, 2) := by decide +kernel
theorem dL_law_1049 : decode cL_law 1049 = .ok (.i2l, 1) := by decide +kernel
theorem dL_law_1050 : decode cL_law 1050 = .ok (.lcmp, 1) := by decide +kernel
theorem dL_law_1051 : decode cL_law 1051 = .ok (.ifCond .eq 5, 3) := by decide +kernel
theorem dL_law_1054 : decode cL_law 1054 = .ok (.iconst 0, 1) := by decide +kernel
theorem dL_law_1055 : decode cL_law 1055 = .ok (.ireturn, 1) := by decide +kernel
theorem dL_law_1056 : decode cL_law 1056 = .ok (.goto 1699, 3) := by decide +kernel
theorem dL_law_1059 : decode cL_law 1059 = .ok (.aload_n 1, 1) := by decide +kernel
theorem dL_law_1060 : decode cL_law 1060 = .ok (.aload_n 0, 1) := by decide +kernel
theorem dL_law_1061 : decode cL_law 1061 = .ok (.iload 5, 2) := by decide +kernel
theorem dL_law_1063 : decode cL_law 1063 = .ok (.iconst 1, 1) := by decide +kernel
theorem dL_law_1064 : decode cL_law 1064 = .ok (.iadd, 1) := by decide +kernel
theorem dL_law_1065 : decode cL_law 1065 = .ok (.iaload, 1) := by decide +kernel
theorem dL_law_1066 : decode cL_law 1066 = .ok (.aload_n 3, 1) := by decide +kernel
theorem dL_law_1067 : decode cL_law 1067 = .ok (.invokestatic 181, 3) := by decide +kernel
theorem dL_law_1070 : decode cL_law 1070 = .ok (.istore 6, 2) := by decide +kernel
theorem dL_law_1072 : decode cL_law 1072 = .ok (.aload_n 2, 1) := by decide +kernel
theorem dL_law_1073 : decode cL_law 1073 = .ok (.aload_n 0, 1) := by decide +kernel
theorem dL_law_1074 : decode cL_law 1074 = .ok (.iload 5, 2) := by decide +kernel
theorem dL_law_1076 : decode cL_law 1076 = .ok (.iconst 1, 1) := by decide +kernel
theorem dL_law_1077 : decode cL_law 1077 = .ok (.iadd, 1) := by decide +kernel
theorem dL_law_1078 : decode cL_law 1078 = .ok (.iaload, 1) := by decide +kernel
theorem dL_law_1079 : decode cL_law 1079 = .ok (.invokevirtual 183, 3) := by decide +kernel
theorem dL_law_1082 : decode cL_law 1082 = .ok (.istore 7, 2) := by decide +kernel
theorem dL_law_1084 : decode cL_law 1084 = .ok (.aload_n 2, 1) := by decide +kernel
theorem dL_law_1085 : decode cL_law 1085 = .ok (.invokevirtual 142, 3) := by decide +kernel
theorem dL_law_1088 : decode cL_law 1088 = .ok (.iload 6, 2) := by decide +kernel
theorem dL_law_1090 : decode cL_law 1090 = .ok (.if_icmp .eq 5, 3) := by decide +kernel
theorem dL_law_1093 : decode cL_law 1093 = .ok (.iconst 0, 1) := by decide +kernel
theorem dL_law_1094 : decode cL_law 1094 = .ok (.ireturn, 1) := by decide +kernel
theorem dL_law_1095 : decode cL_law 1095 = .ok (.iload 6, 2) := by decide +kernel
theorem dL_law_1097 : decode cL_law 1097 = .ok (.ifCond .ne 15, 3) := by decide +kernel
theorem dL_law_1100 : decode cL_law 1100 = .ok (.aload_n 3, 1) := by decide +kernel
theorem dL_law_1101 : decode cL_law 1101 = .ok (.iconst 0, 1) := by decide +kernel
theorem dL_law_1102 : decode cL_law 1102 = .ok (.laload, 1) := by decide +kernel
theorem dL_law_1103 : decode cL_law 1103 = .ok (.iload 7, 2) := by decide +kernel
theorem dL_law_1105 : decode cL_law 1105 = .ok (.i2l, 1) := by decide +kernel
theorem dL_law_1106 : decode cL_law 1106 = .ok (.lcmp, 1) := by decide +kernel
theorem dL_law_1107 : decode cL_law 1107 = .ok (.ifCond .eq 5, 3) := by decide +kernel
theorem dL_law_1110 : decode cL_law 1110 = .ok (.iconst 0, 1) := by decide +kernel
theorem dL_law_1111 : decode cL_law 1111 = .ok (.ireturn, 1) := by decide +kernel
theorem dL_law_1112 : decode cL_law 1112 = .ok (.goto 1643, 3) := by decide +kernel
theorem dL_law_1115 : decode cL_law 1115 = .ok (.aload_n 1, 1) := by decide +kernel
theorem dL_law_1116 : decode cL_law 1116 = .ok (.aload_n 0, 1) := by decide +kernel
theorem dL_law_1117 : decode cL_law 1117 = .ok (.iload 5, 2) := by decide +kernel
theorem dL_law_1119 : decode cL_law 1119 = .ok (.iconst 1, 1) := by decide +kernel
theorem dL_law_1120 : decode cL_law 1120 = .ok (.iadd, 1) := by decide +kernel
theorem dL_law_1121 : decode cL_law 1121 = .ok (.iaload, 1) := by decide +kernel
theorem dL_law_1122 : decode cL_law 1122 = .ok (.aload_n 3, 1) := by decide +kernel
theorem dL_law_1123 : decode cL_law 1123 = .ok (.invokestatic 184, 3) := by decide +kernel
theorem dL_law_1126 : decode cL_law 1126 = .ok (.istore 6, 2) := by decide +kernel
theorem dL_law_1128 : decode cL_law 1128 = .ok (.aload_n 2, 1) := by decide +kernel
theorem dL_law_1129 : decode cL_law 1129 = .ok (.aload_n 0, 1) := by decide +kernel
theorem dL_law_1130 : decode cL_law 1130 = .ok (.iload 5, 2) := by decide +kernel
theorem dL_law_1132 : decode cL_law 1132 = .ok (.iconst 1, 1) := by decide +kernel
theorem dL_law_1133 : decode cL_law 1133 = .ok (.iadd, 1) := by decide +kernel
theorem dL_law_1134 : decode cL_law 1134 = .ok (.iaload, 1) := by decide +kernel
theorem dL_law_1135 : decode cL_law 1135 = .ok (.invokevirtual 186, 3) := by decide +kernel
theorem dL_law_1138 : decode cL_law 1138 = .ok (.istore 7, 2) := by decide +kernel
theorem dL_law_1140 : decode cL_law 1140 = .ok (.aload_n 2, 1) := by decide +kernel
theorem dL_law_1141 : decode cL_law 1141 = .ok (.invokevirtual 142, 3) := by decide +kernel
theorem dL_law_1144 : decode cL_law 1144 = .ok (.iload 6, 2) := by decide +kernel
theorem dL_law_1146 : decode cL_law 1146 = .ok (.if_icmp .eq 5, 3) := by decide +kernel
theorem dL_law_1149 : decode cL_law 1149 = .ok (.iconst 0, 1) := by decide +kernel
theorem dL_law_1150 : decode cL_law 1150 = .ok (.ireturn, 1) := by decide +kernel
theorem dL_law_1151 : decode cL_law 1151 = .ok (.iload 6, 2) := by decide +kernel
theorem dL_law_1153 : decode cL_law 1153 = .ok (.ifCond .ne 15, 3) := by decide +kernel
theorem dL_law_1156 : decode cL_law 1156 = .ok (.aload_n 3, 1) := by decide +kernel
theorem dL_law_1157 : decode cL_law 1157 = .ok (.iconst 0, 1) := by decide +kernel
theorem dL_law_1158 : decode cL_law 1158 = .ok (.laload, 1) := by decide +kernel
theorem dL_law_1159 : decode cL_law 1159 = .ok (.iload 7, 2) := by decide +kernel
theorem dL_law_1161 : decode cL_law 1161 = .ok (.i2l, 1) := by decide +kernel
theorem dL_law_1162 : decode cL_law 1162 = .ok (.lcmp, 1) := by decide +kernel
theorem dL_law_1163 : decode cL_law 1163 = .ok (.ifCond .eq 5, 3) := by decide +kernel
theorem dL_law_1166 : decode cL_law 1166 = .ok (.iconst 0, 1) := by decide +kernel
theorem dL_law_1167 : decode cL_law 1167 = .ok (.ireturn, 1) := by decide +kernel
theorem dL_law_1168 : decode cL_law 1168 = .ok (.goto 1587, 3) := by decide +kernel
theorem dL_law_1171 : decode cL_law 1171 = .ok (.aload_n 1, 1) := by decide +kernel
theorem dL_law_1172 : decode cL_law 1172 = .ok (.aload_n 0, 1) := by decide +kernel
theorem dL_law_1173 : decode cL_law 1173 = .ok (.iload 5, 2) := by decide +kernel
theorem dL_law_1175 : decode cL_law 1175 = .ok (.iconst 1, 1) := by decide +kernel
theorem dL_law_1176 : decode cL_law 1176 = .ok (.iadd, 1) := by decide +kernel
theorem dL_law_1177 : decode cL_law 1177 = .ok (.iaload, 1) := by decide +kernel
theorem dL_law_1178 : decode cL_law 1178 = .ok (.aload_n 0, 1) := by decide +kernel
theorem dL_law_1179 : decode cL_law 1179 = .ok (.iload 5, 2) := by decide +kernel
theorem dL_law_1181 : decode cL_law 1181 = .ok (.iconst 2, 1) := by decide +kernel
theorem dL_law_1182 : decode cL_law 1182 = .ok (.iadd, 1) := by decide +kernel
theorem dL_law_1183 : decode cL_law 1183 = .ok (.iaload, 1) := by decide +kernel
theorem dL_law_1184 : decode cL_law 1184 = .ok (.ifCond .eq 7, 3) := by decide +kernel
theorem dL_law_1187 : decode cL_law 1187 = .ok (.iconst 1, 1) := by decide +kernel
theorem dL_law_1188 : decode cL_law 1188 = .ok (.goto 4, 3) := by decide +kernel
theorem dL_law_1191 : decode cL_law 1191 = .ok (.iconst 0, 1) := by decide +kernel
theorem dL_law_1192 : decode cL_law 1192 = .ok (.aload_n 3, 1) := by decide +kernel
theorem dL_law_1193 : decode cL_law 1193 = .ok (.invokestatic 187, 3) := by decide +kernel
theorem dL_law_1196 : decode cL_law 1196 = .ok (.istore 6, 2) := by decide +kernel
theorem dL_law_1198 : decode cL_law 1198 = .ok (.aload_n 2, 1) := by decide +kernel
theorem dL_law_1199 : decode cL_law 1199 = .ok (.aload_n 0, 1) := by decide +kernel
theorem dL_law_1200 : decode cL_law 1200 = .ok (.iload 5, 2) := by decide +kernel
theorem dL_law_1202 : decode cL_law 1202 = .ok (.iconst 1, 1) := by decide +kernel
theorem dL_law_1203 : decode cL_law 1203 = .ok (.iadd, 1) := by decide +kernel
theorem dL_law_1204 : decode cL_law 1204 = .ok (.iaload, 1) := by decide +kernel
theorem dL_law_1205 : decode cL_law 1205 = .ok (.aload_n 0, 1) := by decide +kernel
theorem dL_law_1206 : decode cL_law 1206 = .ok (.iload 5, 2) := by decide +kernel
theorem dL_law_1208 : decode cL_law 1208 = .ok (.iconst 2, 1) := by decide +kernel
theorem dL_law_1209 : decode cL_law 1209 = .ok (.iadd, 1) := by decide +kernel
theorem dL_law_1210 : decode cL_law 1210 = .ok (.iaload, 1) := by decide +kernel
theorem dL_law_1211 : decode cL_law 1211 = .ok (.ifCond .eq 7, 3) := by decide +kernel
theorem dL_law_1214 : decode cL_law 1214 = .ok (.iconst 1, 1) := by decide +kernel
theorem dL_law_1215 : decode cL_law 1215 = .ok (.goto 4, 3) := by decide +kernel
theorem dL_law_1218 : decode cL_law 1218 = .ok (.iconst 0, 1) := by decide +kernel
theorem dL_law_1219 : decode cL_law 1219 = .ok (.invokevirtual 190, 3) := by decide +kernel
theorem dL_law_1222 : decode cL_law 1222 = .ok (.istore 7, 2) := by decide +kernel
theorem dL_law_1224 : decode cL_law 1224 = .ok (.aload_n 2, 1) := by decide +kernel
theorem dL_law_1225 : decode cL_law 1225 = .ok (.invokevirtual 142, 3) := by decide +kernel
theorem dL_law_1228 : decode cL_law 1228 = .ok (.iload 6, 2) := by decide +kernel
theorem dL_law_1230 : decode cL_law 1230 = .ok (.if_icmp .eq 5, 3) := by decide +kernel
theorem dL_law_1233 : decode cL_law 1233 = .ok (.iconst 0, 1) := by decide +kernel
theorem dL_law_1234 : decode cL_law 1234 = .ok (.ireturn, 1) := by decide +kernel
theorem dL_law_1235 : decode cL_law 1235 = .ok (.iload 6, 2) := by decide +kernel
theorem dL_law_1237 : decode cL_law 1237 = .ok (.ifCond .ne 15, 3) := by decide +kernel
theorem dL_law_1240 : decode cL_law 1240 = .ok (.aload_n 3, 1) := by decide +kernel
theorem dL_law_1241 : decode cL_law 1241 = .ok (.iconst 0, 1) := by decide +kernel
theorem dL_law_1242 : decode cL_law 1242 = .ok (.laload, 1) := by decide +kernel
theorem dL_law_1243 : decode cL_law 1243 = .ok (.iload 7, 2) := by decide +kernel
theorem dL_law_1245 : decode cL_law 1245 = .ok (.i2l, 1) := by decide +kernel
theorem dL_law_1246 : decode cL_law 1246 = .ok (.lcmp, 1) := by decide +kernel
theorem dL_law_1247 : decode cL_law 1247 = .ok (.ifCond .eq 5, 3) := by decide +kernel
theorem dL_law_1250 : decode cL_law 1250 = .ok (.iconst 0, 1) := by decide +kernel
theorem dL_law_1251 : decode cL_law 1251 = .ok (.ireturn, 1) := by decide +kernel
theorem dL_law_1252 : decode cL_law 1252 = .ok (.goto 1503, 3) := by decide +kernel
theorem dL_law_1255 : decode cL_law 1255 = .ok (.aload_n 1, 1) := by decide +kernel
theorem dL_law_1256 : decode cL_law 1256 = .ok (.aload_n 0, 1) := by decide +kernel
theorem dL_law_1257 : decode cL_law 1257 = .ok (.iload 5, 2) := by decide +kernel
theorem dL_law_1259 : decode cL_law 1259 = .ok (.iconst 1, 1) := by decide +kernel
theorem dL_law_1260 : decode cL_law 1260 = .ok (.iadd, 1) := by decide +kernel
theorem dL_law_1261 : decode cL_law 1261 = .ok (.iaload, 1) := by decide +kernel
theorem dL_law_1262 : decode cL_law 1262 = .ok (.aload_n 0, 1) := by decide +kernel
theorem dL_law_1263 : decode cL_law 1263 = .ok (.iload 5, 2) := by decide +kernel
theorem dL_law_1265 : decode cL_law 1265 = .ok (.iconst 2, 1) := by decide +kernel
theorem dL_law_1266 : decode cL_law 1266 = .ok (.iadd, 1) := by decide +kernel
theorem dL_law_1267 : decode cL_law 1267 = .ok (.iaload, 1) := by decide +kernel
theorem dL_law_1268 : decode cL_law 1268 = .ok (.aload_n 3, 1) := by decide +kernel
theorem dL_law_1269 : decode cL_law 1269 = .ok (.invokestatic 191, 3) := by decide +kernel
theorem dL_law_1272 : decode cL_law 1272 = .ok (.istore 6, 2) := by decide +kernel
theorem dL_law_1274 : decode cL_law 1274 = .ok (.aload_n 2, 1) := by decide +kernel
theorem dL_law_1275 : decode cL_law 1275 = .ok (.aload_n 0, 1) := by decide +kernel
theorem dL_law_1276 : decode cL_law 1276 = .ok (.iload 5, 2) := by decide +kernel
theorem dL_law_1278 : decode cL_law 1278 = .ok (.iconst 1, 1) := by decide +kernel
theorem dL_law_1279 : decode cL_law 1279 = .ok (.iadd, 1) := by decide +kernel
theorem dL_law_1280 : decode cL_law 1280 = .ok (.iaload, 1) := by decide +kernel
theorem dL_law_1281 : decode cL_law 1281 = .ok (.aload_n 0, 1) := by decide +kernel
theorem dL_law_1282 : decode cL_law 1282 = .ok (.iload 5, 2) := by decide +kernel
theorem dL_law_1284 : decode cL_law 1284 = .ok (.iconst 2, 1) := by decide +kernel
theorem dL_law_1285 : decode cL_law 1285 = .ok (.iadd, 1) := by decide +kernel
theorem dL_law_1286 : decode cL_law 1286 = .ok (.iaload, 1) := by decide +kernel
theorem dL_law_1287 : decode cL_law 1287 = .ok (.invokevirtual 193, 3) := by decide +kernel
theorem dL_law_1290 : decode cL_law 1290 = .ok (.istore 7, 2) := by decide +kernel
theorem dL_law_1292 : decode cL_law 1292 = .ok (.aload_n 2, 1) := by decide +kernel
theorem dL_law_1293 : decode cL_law 1293 = .ok (.invokevirtual 142, 3) := by decide +kernel
theorem dL_law_1296 : decode cL_law 1296 = .ok (.iload 6, 2) := by decide +kernel
theorem dL_law_1298 : decode cL_law 1298 = .ok (.if_icmp .eq 5, 3) := by decide +kernel
theorem dL_law_1301 : decode cL_law 1301 = .ok (.iconst 0, 1) := by decide +kernel
theorem dL_law_1302 : decode cL_law 1302 = .ok (.ireturn, 1) := by decide +kernel
theorem dL_law_1303 : decode cL_law 1303 = .ok (.iload 6, 2) := by decide +kernel
theorem dL_law_1305 : decode cL_law 1305 = .ok (.ifCond .ne 15, 3) := by decide +kernel
theorem dL_law_1308 : decode cL_law 1308 = .ok (.aload_n 3, 1) := by decide +kernel
theorem dL_law_1309 : decode cL_law 1309 = .ok (.iconst 0, 1) := by decide +kernel
theorem dL_law_1310 : decode cL_law 1310 = .ok (.laload, 1) := by decide +kernel
theorem dL_law_1311 : decode cL_law 1311 = .ok (.iload 7, 2) := by decide +kernel
theorem dL_law_1313 : decode cL_law 1313 = .ok (.i2l, 1) := by decide +kernel
theorem dL_law_1314 : decode cL_law 1314 = .ok (.lcmp, 1) := by decide +kernel
theorem dL_law_1315 : decode cL_law 1315 = .ok (.ifCond .eq 5, 3) := by decide +kernel
theorem dL_law_1318 : decode cL_law 1318 = .ok (.iconst 0, 1) := by decide +kernel
theorem dL_law_1319 : decode cL_law 1319 = .ok (.ireturn, 1) := by decide +kernel
theorem dL_law_1320 : decode cL_law 1320 = .ok (.goto 1435, 3) := by decide +kernel
theorem dL_law_1323 : decode cL_law 1323 = .ok (.aload_n 1, 1) := by decide +kernel
theorem dL_law_1324 : decode cL_law 1324 = .ok (.aload_n 0, 1) := by decide +kernel
theorem dL_law_1325 : decode cL_law 1325 = .ok (.iload 5, 2) := by decide +kernel
theorem dL_law_1327 : decode cL_law 1327 = .ok (.iconst 1, 1) := by decide +kernel
theorem dL_law_1328 : decode cL_law 1328 = .ok (.iadd, 1) := by decide +kernel
theorem dL_law_1329 : decode cL_law 1329 = .ok (.iaload, 1) := by decide +kernel
theorem dL_law_1330 : decode cL_law 1330 = .ok (.aload_n 0, 1) := by decide +kernel
theorem dL_law_1331 : decode cL_law 1331 = .ok (.iload 5, 2) := by decide +kernel
theorem dL_law_1333 : decode cL_law 1333 = .ok (.iconst 2, 1) := by decide +kernel
theorem dL_law_1334 : decode cL_law 1334 = .ok (.iadd, 1) := by decide +kernel
theorem dL_law_1335 : decode cL_law 1335 = .ok (.iaload, 1) := by decide +kernel
theorem dL_law_1336 : decode cL_law 1336 = .ok (.aload_n 0, 1) := by decide +kernel
theorem dL_law_1337 : decode cL_law 1337 = .ok (.iload 5, 2) := by decide +kernel
theorem dL_law_1339 : decode cL_law 1339 = .ok (.iconst 3, 1) := by decide +kernel
theorem dL_law_1340 : decode cL_law 1340 = .ok (.iadd, 1) := by decide +kernel
theorem dL_law_1341 : decode cL_law 1341 = .ok (.iaload, 1) := by decide +kernel
theorem dL_law_1342 : decode cL_law 1342 = .ok (.aload_n 3, 1) := by decide +kernel
theorem dL_law_1343 : decode cL_law 1343 = .ok (.invokestatic 194, 3) := by decide +kernel
theorem dL_law_1346 : decode cL_law 1346 = .ok (.istore 6, 2) := by decide +kernel
theorem dL_law_1348 : decode cL_law 1348 = .ok (.aload_n 2, 1) := by decide +kernel
theorem dL_law_1349 : decode cL_law 1349 = .ok (.aload_n 0, 1) := by decide +kernel
theorem dL_law_1350 : decode cL_law 1350 = .ok (.iload 5, 2) := by decide +kernel
theorem dL_law_1352 : decode cL_law 1352 = .ok (.iconst 1, 1) := by decide +kernel
theorem dL_law_1353 : decode cL_law 1353 = .ok (.iadd, 1) := by decide +kernel
theorem dL_law_1354 : decode cL_law 1354 = .ok (.iaload, 1) := by decide +kernel
theorem dL_law_1355 : decode cL_law 1355 = .ok (.aload_n 0, 1) := by decide +kernel
theorem dL_law_1356 : decode cL_law 1356 = .ok (.iload 5, 2) := by decide +kernel
theorem dL_law_1358 : decode cL_law 1358 = .ok (.iconst 2, 1) := by decide +kernel
theorem dL_law_1359 : decode cL_law 1359 = .ok (.iadd, 1) := by decide +kernel
theorem dL_law_1360 : decode cL_law 1360 = .ok (.iaload, 1) := by decide +kernel
theorem dL_law_1361 : decode cL_law 1361 = .ok (.aload_n 0, 1) := by decide +kernel
theorem dL_law_1362 : decode cL_law 1362 = .ok (.iload 5, 2) := by decide +kernel
theorem dL_law_1364 : decode cL_law 1364 = .ok (.iconst 3, 1) := by decide +kernel
theorem dL_law_1365 : decode cL_law 1365 = .ok (.iadd, 1) := by decide +kernel
theorem dL_law_1366 : decode cL_law 1366 = .ok (.iaload, 1) := by decide +kernel
theorem dL_law_1367 : decode cL_law 1367 = .ok (.invokevirtual 196, 3) := by decide +kernel
theorem dL_law_1370 : decode cL_law 1370 = .ok (.istore 7, 2) := by decide +kernel
theorem dL_law_1372 : decode cL_law 1372 = .ok (.aload_n 2, 1) := by decide +kernel
theorem dL_law_1373 : decode cL_law 1373 = .ok (.invokevirtual 142, 3) := by decide +kernel
theorem dL_law_1376 : decode cL_law 1376 = .ok (.iload 6, 2) := by decide +kernel
theorem dL_law_1378 : decode cL_law 1378 = .ok (.if_icmp .eq 5, 3) := by decide +kernel
theorem dL_law_1381 : decode cL_law 1381 = .ok (.iconst 0, 1) := by decide +kernel
theorem dL_law_1382 : decode cL_law 1382 = .ok (.ireturn, 1) := by decide +kernel
theorem dL_law_1383 : decode cL_law 1383 = .ok (.iload 6, 2) := by decide +kernel
theorem dL_law_1385 : decode cL_law 1385 = .ok (.ifCond .ne 22, 3) := by decide +kernel
theorem dL_law_1388 : decode cL_law 1388 = .ok (.aload_n 3, 1) := by decide +kernel
theorem dL_law_1389 : decode cL_law 1389 = .ok (.iconst 0, 1) := by decide +kernel
theorem dL_law_1390 : decode cL_law 1390 = .ok (.laload, 1) := by decide +kernel
theorem dL_law_1391 : decode cL_law 1391 = .ok (.iload 7, 2) := by decide +kernel
theorem dL_law_1393 : decode cL_law 1393 = .ok (.ifCond .eq 7, 3) := by decide +kernel
theorem dL_law_1396 : decode cL_law 1396 = .ok (.lconst 1, 1) := by decide +kernel
theorem dL_law_1397 : decode cL_law 1397 = .ok (.goto 4, 3) := by decide +kernel
theorem dL_law_1400 : decode cL_law 1400 = .ok (.lconst 0, 1) := by decide +kernel
theorem dL_law_1401 : decode cL_law 1401 = .ok (.lcmp, 1) := by decide +kernel
theorem dL_law_1402 : decode cL_law 1402 = .ok (.ifCond .eq 5, 3) := by decide +kernel
theorem dL_law_1405 : decode cL_law 1405 = .ok (.iconst 0, 1) := by decide +kernel
theorem dL_law_1406 : decode cL_law 1406 = .ok (.ireturn, 1) := by decide +kernel
theorem dL_law_1407 : decode cL_law 1407 = .ok (.goto 1348, 3) := by decide +kernel
theorem dL_law_1410 : decode cL_law 1410 = .ok (.aload_n 1, 1) := by decide +kernel
theorem dL_law_1411 : decode cL_law 1411 = .ok (.aload_n 0, 1) := by decide +kernel
theorem dL_law_1412 : decode cL_law 1412 = .ok (.iload 5, 2) := by decide +kernel
theorem dL_law_1414 : decode cL_law 1414 = .ok (.iconst 1, 1) := by decide +kernel
theorem dL_law_1415 : decode cL_law 1415 = .ok (.iadd, 1) := by decide +kernel
theorem dL_law_1416 : decode cL_law 1416 = .ok (.iaload, 1) := by decide +kernel
theorem dL_law_1417 : decode cL_law 1417 = .ok (.aload_n 3, 1) := by decide +kernel
theorem dL_law_1418 : decode cL_law 1418 = .ok (.invokestatic 197, 3) := by decide +kernel
theorem dL_law_1421 : decode cL_law 1421 = .ok (.istore 6, 2) := by decide +kernel
theorem dL_law_1423 : decode cL_law 1423 = .ok (.aload_n 2, 1) := by decide +kernel
theorem dL_law_1424 : decode cL_law 1424 = .ok (.aload_n 0, 1) := by decide +kernel
theorem dL_law_1425 : decode cL_law 1425 = .ok (.iload 5, 2) := by decide +kernel
theorem dL_law_1427 : decode cL_law 1427 = .ok (.iconst 1, 1) := by decide +kernel
theorem dL_law_1428 : decode cL_law 1428 = .ok (.iadd, 1) := by decide +kernel
theorem dL_law_1429 : decode cL_law 1429 = .ok (.iaload, 1) := by decide +kernel
theorem dL_law_1430 : decode cL_law 1430 = .ok (.invokevirtual 199, 3) := by decide +kernel
theorem dL_law_1433 : decode cL_law 1433 = .ok (.istore 7, 2) := by decide +kernel
theorem dL_law_1435 : decode cL_law 1435 = .ok (.aload_n 2, 1) := by decide +kernel
theorem dL_law_1436 : decode cL_law 1436 = .ok (.invokevirtual 142, 3) := by decide +kernel
theorem dL_law_1439 : decode cL_law 1439 = .ok (.iload 6, 2) := by decide +kernel
theorem dL_law_1441 : decode cL_law 1441 = .ok (.if_icmp .eq 5, 3) := by decide +kernel
theorem dL_law_1444 : decode cL_law 1444 = .ok (.iconst 0, 1) := by decide +kernel
theorem dL_law_1445 : decode cL_law 1445 = .ok (.ireturn, 1) := by decide +kernel
theorem dL_law_1446 : decode cL_law 1446 = .ok (.iload 6, 2) := by decide +kernel
theorem dL_law_1448 : decode cL_law 1448 = .ok (.ifCond .ne 15, 3) := by decide +kernel
theorem dL_law_1451 : decode cL_law 1451 = .ok (.aload_n 3, 1) := by decide +kernel
theorem dL_law_1452 : decode cL_law 1452 = .ok (.iconst 0, 1) := by decide +kernel
theorem dL_law_1453 : decode cL_law 1453 = .ok (.laload, 1) := by decide +kernel
theorem dL_law_1454 : decode cL_law 1454 = .ok (.iload 7, 2) := by decide +kernel
theorem dL_law_1456 : decode cL_law 1456 = .ok (.i2l, 1) := by decide +kernel
theorem dL_law_1457 : decode cL_law 1457 = .ok (.lcmp, 1) := by decide +kernel
theorem dL_law_1458 : decode cL_law 1458 = .ok (.ifCond .eq 5, 3) := by decide +kernel
theorem dL_law_1461 : decode cL_law 1461 = .ok (.iconst 0, 1) := by decide +kernel
theorem dL_law_1462 : decode cL_law 1462 = .ok (.ireturn, 1) := by decide +kernel
theorem dL_law_1463 : decode cL_law 1463 = .ok (.goto 1292, 3) := by decide +kernel
theorem dL_law_1466 : decode cL_law 1466 = .ok (.aload_n 1, 1) := by decide +kernel
theorem dL_law_1467 : decode cL_law 1467 = .ok (.aload_n 0, 1) := by decide +kernel
theorem dL_law_1468 : decode cL_law 1468 = .ok (.iload 5, 2) := by decide +kernel
theorem dL_law_1470 : decode cL_law 1470 = .ok (.iconst 1, 1) := by decide +kernel
theorem dL_law_1471 : decode cL_law 1471 = .ok (.iadd, 1) := by decide +kernel
theorem dL_law_1472 : decode cL_law 1472 = .ok (.iaload, 1) := by decide +kernel
theorem dL_law_1473 : decode cL_law 1473 = .ok (.aload_n 0, 1) := by decide +kernel
theorem dL_law_1474 : decode cL_law 1474 = .ok (.iload 5, 2) := by decide +kernel
theorem dL_law_1476 : decode cL_law 1476 = .ok (.iconst 2, 1) := by decide +kernel
theorem dL_law_1477 : decode cL_law 1477 = .ok (.iadd, 1) := by decide +kernel
theorem dL_law_1478 : decode cL_law 1478 = .ok (.iaload, 1) := by decide +kernel
theorem dL_law_1479 : decode cL_law 1479 = .ok (.aload_n 3, 1) := by decide +kernel
theorem dL_law_1480 : decode cL_law 1480 = .ok (.invokestatic 200, 3) := by decide +kernel
theorem dL_law_1483 : decode cL_law 1483 = .ok (.istore 6, 2) := by decide +kernel
theorem dL_law_1485 : decode cL_law 1485 = .ok (.aload_n 2, 1) := by decide +kernel
theorem dL_law_1486 : decode cL_law 1486 = .ok (.aload_n 0, 1) := by decide +kernel
theorem dL_law_1487 : decode cL_law 1487 = .ok (.iload 5, 2) := by decide +kernel
theorem dL_law_1489 : decode cL_law 1489 = .ok (.iconst 1, 1) := by decide +kernel
theorem dL_law_1490 : decode cL_law 1490 = .ok (.iadd, 1) := by decide +kernel
theorem dL_law_1491 : decode cL_law 1491 = .ok (.iaload, 1) := by decide +kernel
theorem dL_law_1492 : decode cL_law 1492 = .ok (.aload_n 0, 1) := by decide +kernel
theorem dL_law_1493 : decode cL_law 1493 = .ok (.iload 5, 2) := by decide +kernel
theorem dL_law_1495 : decode cL_law 1495 = .ok (.iconst 2, 1) := by decide +kernel
theorem dL_law_1496 : decode cL_law 1496 = .ok (.iadd, 1) := by decide +kernel
theorem dL_law_1497 : decode cL_law 1497 = .ok (.iaload, 1) := by decide +kernel
theorem dL_law_1498 : decode cL_law 1498 = .ok (.invokevirtual 202, 3) := by decide +kernel
theorem dL_law_1501 : decode cL_law 1501 = .ok (.istore 7, 2) := by decide +kernel
theorem dL_law_1503 : decode cL_law 1503 = .ok (.aload_n 2, 1) := by decide +kernel
theorem dL_law_1504 : decode cL_law 1504 = .ok (.invokevirtual 142, 3) := by decide +kernel
theorem dL_law_1507 : decode cL_law 1507 = .ok (.iload 6, 2) := by decide +kernel
theorem dL_law_1509 : decode cL_law 1509 = .ok (.if_icmp .eq 5, 3) := by decide +kernel
theorem dL_law_1512 : decode cL_law 1512 = .ok (.iconst 0, 1) := by decide +kernel
theorem dL_law_1513 : decode cL_law 1513 = .ok (.ireturn, 1) := by decide +kernel
theorem dL_law_1514 : decode cL_law 1514 = .ok (.iload 6, 2) := by decide +kernel
theorem dL_law_1516 : decode cL_law 1516 = .ok (.ifCond .ne 15, 3) := by decide +kernel
theorem dL_law_1519 : decode cL_law 1519 = .ok (.aload_n 3, 1) := by decide +kernel
theorem dL_law_1520 : decode cL_law 1520 = .ok (.iconst 0, 1) := by decide +kernel
theorem dL_law_1521 : decode cL_law 1521 = .ok (.laload, 1) := by decide +kernel
theorem dL_law_1522 : decode cL_law 1522 = .ok (.iload 7, 2) := by decide +kernel
theorem dL_law_1524 : decode cL_law 1524 = .ok (.i2l, 1) := by decide +kernel
theorem dL_law_1525 : decode cL_law 1525 = .ok (.lcmp, 1) := by decide +kernel
theorem dL_law_1526 : decode cL_law 1526 = .ok (.ifCond .eq 5, 3) := by decide +kernel
theorem dL_law_1529 : decode cL_law 1529 = .ok (.iconst 0, 1) := by decide +kernel
theorem dL_law_1530 : decode cL_law 1530 = .ok (.ireturn, 1) := by decide +kernel
theorem dL_law_1531 : decode cL_law 1531 = .ok (.goto 1224, 3) := by decide +kernel
theorem dL_law_1534 : decode cL_law 1534 = .ok (.aload_n 1, 1) := by decide +kernel
theorem dL_law_1535 : decode cL_law 1535 = .ok (.aload_n 0, 1) := by decide +kernel
theorem dL_law_1536 : decode cL_law 1536 = .ok (.iload 5, 2) := by decide +kernel
theorem dL_law_1538 : decode cL_law 1538 = .ok (.iconst 1, 1) := by decide +kernel
theorem dL_law_1539 : decode cL_law 1539 = .ok (.iadd, 1) := by decide +kernel
theorem dL_law_1540 : decode cL_law 1540 = .ok (.iaload, 1) := by decide +kernel
theorem dL_law_1541 : decode cL_law 1541 = .ok (.aload_n 0, 1) := by decide +kernel
theorem dL_law_1542 : decode cL_law 1542 = .ok (.iload 5, 2) := by decide +kernel
theorem dL_law_1544 : decode cL_law 1544 = .ok (.iconst 2, 1) := by decide +kernel
theorem dL_law_1545 : decode cL_law 1545 = .ok (.iadd, 1) := by decide +kernel
theorem dL_law_1546 : decode cL_law 1546 = .ok (.iaload, 1) := by decide +kernel
theorem dL_law_1547 : decode cL_law 1547 = .ok (.aload_n 0, 1) := by decide +kernel
theorem dL_law_1548 : decode cL_law 1548 = .ok (.iload 5, 2) := by decide +kernel
theorem dL_law_1550 : decode cL_law 1550 = .ok (.iconst 3, 1) := by decide +kernel
theorem dL_law_1551 : decode cL_law 1551 = .ok (.iadd, 1) := by decide +kernel
theorem dL_law_1552 : decode cL_law 1552 = .ok (.iaload, 1) := by decide +kernel
theorem dL_law_1553 : decode cL_law 1553 = .ok (.aload_n 0, 1) := by decide +kernel
theorem dL_law_1554 : decode cL_law 1554 = .ok (.iload 5, 2) := by decide +kernel
theorem dL_law_1556 : decode cL_law 1556 = .ok (.iconst 4, 1) := by decide +kernel
theorem dL_law_1557 : decode cL_law 1557 = .ok (.iadd, 1) := by decide +kernel
theorem dL_law_1558 : decode cL_law 1558 = .ok (.iaload, 1) := by decide +kernel
theorem dL_law_1559 : decode cL_law 1559 = .ok (.aload_n 3, 1) := by decide +kernel
theorem dL_law_1560 : decode cL_law 1560 = .ok (.invokestatic 203, 3) := by decide +kernel
theorem dL_law_1563 : decode cL_law 1563 = .ok (.istore 6, 2) := by decide +kernel
theorem dL_law_1565 : decode cL_law 1565 = .ok (.aload_n 2, 1) := by decide +kernel
theorem dL_law_1566 : decode cL_law 1566 = .ok (.aload_n 0, 1) := by decide +kernel
theorem dL_law_1567 : decode cL_law 1567 = .ok (.iload 5, 2) := by decide +kernel
theorem dL_law_1569 : decode cL_law 1569 = .ok (.iconst 1, 1) := by decide +kernel
theorem dL_law_1570 : decode cL_law 1570 = .ok (.iadd, 1) := by decide +kernel
theorem dL_law_1571 : decode cL_law 1571 = .ok (.iaload, 1) := by decide +kernel
theorem dL_law_1572 : decode cL_law 1572 = .ok (.aload_n 0, 1) := by decide +kernel
theorem dL_law_1573 : decode cL_law 1573 = .ok (.iload 5, 2) := by decide +kernel
theorem dL_law_1575 : decode cL_law 1575 = .ok (.iconst 2, 1) := by decide +kernel
theorem dL_law_1576 : decode cL_law 1576 = .ok (.iadd, 1) := by decide +kernel
theorem dL_law_1577 : decode cL_law 1577 = .ok (.iaload, 1) := by decide +kernel
theorem dL_law_1578 : decode cL_law 1578 = .ok (.aload_n 0, 1) := by decide +kernel
theorem dL_law_1579 : decode cL_law 1579 = .ok (.iload 5, 2) := by decide +kernel
theorem dL_law_1581 : decode cL_law 1581 = .ok (.iconst 3, 1) := by decide +kernel
theorem dL_law_1582 : decode cL_law 1582 = .ok (.iadd, 1) := by decide +kernel
theorem dL_law_1583 : decode cL_law 1583 = .ok (.iaload, 1) := by decide +kernel
theorem dL_law_1584 : decode cL_law 1584 = .ok (.aload_n 0, 1) := by decide +kernel
theorem dL_law_1585 : decode cL_law 1585 = .ok (.iload 5, 2) := by decide +kernel
theorem dL_law_1587 : decode cL_law 1587 = .ok (.iconst 4, 1) := by decide +kernel
theorem dL_law_1588 : decode cL_law 1588 = .ok (.iadd, 1) := by decide +kernel
theorem dL_law_1589 : decode cL_law 1589 = .ok (.iaload, 1) := by decide +kernel
theorem dL_law_1590 : decode cL_law 1590 = .ok (.invokevirtual 205, 3) := by decide +kernel
theorem dL_law_1593 : decode cL_law 1593 = .ok (.istore 7, 2) := by decide +kernel
theorem dL_law_1595 : decode cL_law 1595 = .ok (.aload_n 2, 1) := by decide +kernel
theorem dL_law_1596 : decode cL_law 1596 = .ok (.invokevirtual 142, 3) := by decide +kernel
theorem dL_law_1599 : decode cL_law 1599 = .ok (.iload 6, 2) := by decide +kernel
theorem dL_law_1601 : decode cL_law 1601 = .ok (.if_icmp .eq 5, 3) := by decide +kernel
theorem dL_law_1604 : decode cL_law 1604 = .ok (.iconst 0, 1) := by decide +kernel
theorem dL_law_1605 : decode cL_law 1605 = .ok (.ireturn, 1) := by decide +kernel
theorem dL_law_1606 : decode cL_law 1606 = .ok (.iload 6, 2) := by decide +kernel
theorem dL_law_1608 : decode cL_law 1608 = .ok (.ifCond .ne 15, 3) := by decide +kernel
theorem dL_law_1611 : decode cL_law 1611 = .ok (.aload_n 3, 1) := by decide +kernel
theorem dL_law_1612 : decode cL_law 1612 = .ok (.iconst 0, 1) := by decide +kernel
theorem dL_law_1613 : decode cL_law 1613 = .ok (.laload, 1) := by decide +kernel
theorem dL_law_1614 : decode cL_law 1614 = .ok (.iload 7, 2) := by decide +kernel
theorem dL_law_1616 : decode cL_law 1616 = .ok (.i2l, 1) := by decide +kernel
theorem dL_law_1617 : decode cL_law 1617 = .ok (.lcmp, 1) := by decide +kernel
theorem dL_law_1618 : decode cL_law 1618 = .ok (.ifCond .eq 5, 3) := by decide +kernel
theorem dL_law_1621 : decode cL_law 1621 = .ok (.iconst 0, 1) := by decide +kernel
theorem dL_law_1622 : decode cL_law 1622 = .ok (.ireturn, 1) := by decide +kernel
theorem dL_law_1623 : decode cL_law 1623 = .ok (.goto 1132, 3) := by decide +kernel
theorem dL_law_1626 : decode cL_law 1626 = .ok (.aload_n 1, 1) := by decide +kernel
theorem dL_law_1627 : decode cL_law 1627 = .ok (.aload_n 0, 1) := by decide +kernel
theorem dL_law_1628 : decode cL_law 1628 = .ok (.iload 5, 2) := by decide +kernel
theorem dL_law_1630 : decode cL_law 1630 = .ok (.iconst 1, 1) := by decide +kernel
theorem dL_law_1631 : decode cL_law 1631 = .ok (.iadd, 1) := by decide +kernel
theorem dL_law_1632 : decode cL_law 1632 = .ok (.iaload, 1) := by decide +kernel
theorem dL_law_1633 : decode cL_law 1633 = .ok (.aload_n 0, 1) := by decide +kernel
theorem dL_law_1634 : decode cL_law 1634 = .ok (.iload 5, 2) := by decide +kernel
theorem dL_law_1636 : decode cL_law 1636 = .ok (.iconst 2, 1) := by decide +kernel
theorem dL_law_1637 : decode cL_law 1637 = .ok (.iadd, 1) := by decide +kernel
theorem dL_law_1638 : decode cL_law 1638 = .ok (.iaload, 1) := by decide +kernel
theorem dL_law_1639 : decode cL_law 1639 = .ok (.aload_n 0, 1) := by decide +kernel
theorem dL_law_1640 : decode cL_law 1640 = .ok (.iload 5, 2) := by decide +kernel
theorem dL_law_1642 : decode cL_law 1642 = .ok (.iconst 3, 1) := by decide +kernel
theorem dL_law_1643 : decode cL_law 1643 = .ok (.iadd, 1) := by decide +kernel
theorem dL_law_1644 : decode cL_law 1644 = .ok (.iaload, 1) := by decide +kernel
theorem dL_law_1645 : decode cL_law 1645 = .ok (.aload_n 3, 1) := by decide +kernel
theorem dL_law_1646 : decode cL_law 1646 = .ok (.invokestatic 206, 3) := by decide +kernel
theorem dL_law_1649 : decode cL_law 1649 = .ok (.istore 6, 2) := by decide +kernel
theorem dL_law_1651 : decode cL_law 1651 = .ok (.aload_n 2, 1) := by decide +kernel
theorem dL_law_1652 : decode cL_law 1652 = .ok (.aload_n 0, 1) := by decide +kernel
theorem dL_law_1653 : decode cL_law 1653 = .ok (.iload 5, 2) := by decide +kernel
theorem dL_law_1655 : decode cL_law 1655 = .ok (.iconst 1, 1) := by decide +kernel
theorem dL_law_1656 : decode cL_law 1656 = .ok (.iadd, 1) := by decide +kernel
theorem dL_law_1657 : decode cL_law 1657 = .ok (.iaload, 1) := by decide +kernel
theorem dL_law_1658 : decode cL_law 1658 = .ok (.aload_n 0, 1) := by decide +kernel
theorem dL_law_1659 : decode cL_law 1659 = .ok (.iload 5, 2) := by decide +kernel
theorem dL_law_1661 : decode cL_law 1661 = .ok (.iconst 2, 1) := by decide +kernel
theorem dL_law_1662 : decode cL_law 1662 = .ok (.iadd, 1) := by decide +kernel
theorem dL_law_1663 : decode cL_law 1663 = .ok (.iaload, 1) := by decide +kernel
theorem dL_law_1664 : decode cL_law 1664 = .ok (.aload_n 0, 1) := by decide +kernel
theorem dL_law_1665 : decode cL_law 1665 = .ok (.iload 5, 2) := by decide +kernel
theorem dL_law_1667 : decode cL_law 1667 = .ok (.iconst 3, 1) := by decide +kernel
theorem dL_law_1668 : decode cL_law 1668 = .ok (.iadd, 1) := by decide +kernel
theorem dL_law_1669 : decode cL_law 1669 = .ok (.iaload, 1) := by decide +kernel
theorem dL_law_1670 : decode cL_law 1670 = .ok (.invokevirtual 208, 3) := by decide +kernel
theorem dL_law_1673 : decode cL_law 1673 = .ok (.lstore 7, 2) := by decide +kernel
theorem dL_law_1675 : decode cL_law 1675 = .ok (.aload_n 2, 1) := by decide +kernel
theorem dL_law_1676 : decode cL_law 1676 = .ok (.invokevirtual 142, 3) := by decide +kernel
theorem dL_law_1679 : decode cL_law 1679 = .ok (.iload 6, 2) := by decide +kernel
theorem dL_law_1681 : decode cL_law 1681 = .ok (.if_icmp .eq 5, 3) := by decide +kernel
theorem dL_law_1684 : decode cL_law 1684 = .ok (.iconst 0, 1) := by decide +kernel
theorem dL_law_1685 : decode cL_law 1685 = .ok (.ireturn, 1) := by decide +kernel
theorem dL_law_1686 : decode cL_law 1686 = .ok (.iload 6, 2) := by decide +kernel
theorem dL_law_1688 : decode cL_law 1688 = .ok (.ifCond .ne 14, 3) := by decide +kernel
theorem dL_law_1691 : decode cL_law 1691 = .ok (.aload_n 3, 1) := by decide +kernel
theorem dL_law_1692 : decode cL_law 1692 = .ok (.iconst 0, 1) := by decide +kernel
theorem dL_law_1693 : decode cL_law 1693 = .ok (.laload, 1) := by decide +kernel
theorem dL_law_1694 : decode cL_law 1694 = .ok (.lload 7, 2) := by decide +kernel
theorem dL_law_1696 : decode cL_law 1696 = .ok (.lcmp, 1) := by decide +kernel
theorem dL_law_1697 : decode cL_law 1697 = .ok (.ifCond .eq 5, 3) := by decide +kernel
theorem dL_law_1700 : decode cL_law 1700 = .ok (.iconst 0, 1) := by decide +kernel
theorem dL_law_1701 : decode cL_law 1701 = .ok (.ireturn, 1) := by decide +kernel
theorem dL_law_1702 : decode cL_law 1702 = .ok (.goto 1053, 3) := by decide +kernel
theorem dL_law_1705 : decode cL_law 1705 = .ok (.aload_n 1, 1) := by decide +kernel
theorem dL_law_1706 : decode cL_law 1706 = .ok (.aload_n 0, 1) := by decide +kernel
theorem dL_law_1707 : decode cL_law 1707 = .ok (.iload 5, 2) := by decide +kernel
theorem dL_law_1709 : decode cL_law 1709 = .ok (.iconst 1, 1) := by decide +kernel
theorem dL_law_1710 : decode cL_law 1710 = .ok (.iadd, 1) := by decide +kernel
theorem dL_law_1711 : decode cL_law 1711 = .ok (.iaload, 1) := by decide +kernel
theorem dL_law_1712 : decode cL_law 1712 = .ok (.aload_n 0, 1) := by decide +kernel
theorem dL_law_1713 : decode cL_law 1713 = .ok (.iload 5, 2) := by decide +kernel
theorem dL_law_1715 : decode cL_law 1715 = .ok (.iconst 2, 1) := by decide +kernel
theorem dL_law_1716 : decode cL_law 1716 = .ok (.iadd, 1) := by decide +kernel
theorem dL_law_1717 : decode cL_law 1717 = .ok (.iaload, 1) := by decide +kernel
theorem dL_law_1718 : decode cL_law 1718 = .ok (.aload_n 0, 1) := by decide +kernel
theorem dL_law_1719 : decode cL_law 1719 = .ok (.iload 5, 2) := by decide +kernel
theorem dL_law_1721 : decode cL_law 1721 = .ok (.iconst 3, 1) := by decide +kernel
theorem dL_law_1722 : decode cL_law 1722 = .ok (.iadd, 1) := by decide +kernel
theorem dL_law_1723 : decode cL_law 1723 = .ok (.iaload, 1) := by decide +kernel
theorem dL_law_1724 : decode cL_law 1724 = .ok (.aload_n 0, 1) := by decide +kernel
theorem dL_law_1725 : decode cL_law 1725 = .ok (.iload 5, 2) := by decide +kernel
theorem dL_law_1727 : decode cL_law 1727 = .ok (.iconst 4, 1) := by decide +kernel
theorem dL_law_1728 : decode cL_law 1728 = .ok (.iadd, 1) := by decide +kernel
theorem dL_law_1729 : decode cL_law 1729 = .ok (.iaload, 1) := by decide +kernel
theorem dL_law_1730 : decode cL_law 1730 = .ok (.aload_n 3, 1) := by decide +kernel
theorem dL_law_1731 : decode cL_law 1731 = .ok (.invokestatic 209, 3) := by decide +kernel
theorem dL_law_1734 : decode cL_law 1734 = .ok (.istore 6, 2) := by decide +kernel
theorem dL_law_1736 : decode cL_law 1736 = .ok (.aload_n 2, 1) := by decide +kernel
theorem dL_law_1737 : decode cL_law 1737 = .ok (.aload_n 0, 1) := by decide +kernel
theorem dL_law_1738 : decode cL_law 1738 = .ok (.iload 5, 2) := by decide +kernel
theorem dL_law_1740 : decode cL_law 1740 = .ok (.iconst 1, 1) := by decide +kernel
theorem dL_law_1741 : decode cL_law 1741 = .ok (.iadd, 1) := by decide +kernel
theorem dL_law_1742 : decode cL_law 1742 = .ok (.iaload, 1) := by decide +kernel
theorem dL_law_1743 : decode cL_law 1743 = .ok (.aload_n 0, 1) := by decide +kernel
theorem dL_law_1744 : decode cL_law 1744 = .ok (.iload 5, 2) := by decide +kernel
theorem dL_law_1746 : decode cL_law 1746 = .ok (.iconst 2, 1) := by decide +kernel
theorem dL_law_1747 : decode cL_law 1747 = .ok (.iadd, 1) := by decide +kernel
theorem dL_law_1748 : decode cL_law 1748 = .ok (.iaload, 1) := by decide +kernel
theorem dL_law_1749 : decode cL_law 1749 = .ok (.aload_n 0, 1) := by decide +kernel
theorem dL_law_1750 : decode cL_law 1750 = .ok (.iload 5, 2) := by decide +kernel
theorem dL_law_1752 : decode cL_law 1752 = .ok (.iconst 3, 1) := by decide +kernel
theorem dL_law_1753 : decode cL_law 1753 = .ok (.iadd, 1) := by decide +kernel
theorem dL_law_1754 : decode cL_law 1754 = .ok (.iaload, 1) := by decide +kernel
theorem dL_law_1755 : decode cL_law 1755 = .ok (.aload_n 0, 1) := by decide +kernel
theorem dL_law_1756 : decode cL_law 1756 = .ok (.iload 5, 2) := by decide +kernel
theorem dL_law_1758 : decode cL_law 1758 = .ok (.iconst 4, 1) := by decide +kernel
theorem dL_law_1759 : decode cL_law 1759 = .ok (.iadd, 1) := by decide +kernel
theorem dL_law_1760 : decode cL_law 1760 = .ok (.iaload, 1) := by decide +kernel
theorem dL_law_1761 : decode cL_law 1761 = .ok (.invokevirtual 211, 3) := by decide +kernel
theorem dL_law_1764 : decode cL_law 1764 = .ok (.istore 7, 2) := by decide +kernel
theorem dL_law_1766 : decode cL_law 1766 = .ok (.aload_n 2, 1) := by decide +kernel
theorem dL_law_1767 : decode cL_law 1767 = .ok (.invokevirtual 142, 3) := by decide +kernel
theorem dL_law_1770 : decode cL_law 1770 = .ok (.iload 6, 2) := by decide +kernel
theorem dL_law_1772 : decode cL_law 1772 = .ok (.if_icmp .eq 5, 3) := by decide +kernel
theorem dL_law_1775 : decode cL_law 1775 = .ok (.iconst 0, 1) := by decide +kernel
theorem dL_law_1776 : decode cL_law 1776 = .ok (.ireturn, 1) := by decide +kernel
theorem dL_law_1777 : decode cL_law 1777 = .ok (.iload 6, 2) := by decide +kernel
theorem dL_law_1779 : decode cL_law 1779 = .ok (.ifCond .ne 22, 3) := by decide +kernel
theorem dL_law_1782 : decode cL_law 1782 = .ok (.aload_n 3, 1) := by decide +kernel
theorem dL_law_1783 : decode cL_law 1783 = .ok (.iconst 0, 1) := by decide +kernel
theorem dL_law_1784 : decode cL_law 1784 = .ok (.laload, 1) := by decide +kernel
theorem dL_law_1785 : decode cL_law 1785 = .ok (.iload 7, 2) := by decide +kernel
theorem dL_law_1787 : decode cL_law 1787 = .ok (.ifCond .eq 7, 3) := by decide +kernel
theorem dL_law_1790 : decode cL_law 1790 = .ok (.lconst 1, 1) := by decide +kernel
theorem dL_law_1791 : decode cL_law 1791 = .ok (.goto 4, 3) := by decide +kernel
theorem dL_law_1794 : decode cL_law 1794 = .ok (.lconst 0, 1) := by decide +kernel
theorem dL_law_1795 : decode cL_law 1795 = .ok (.lcmp, 1) := by decide +kernel
theorem dL_law_1796 : decode cL_law 1796 = .ok (.ifCond .eq 5, 3) := by decide +kernel
theorem dL_law_1799 : decode cL_law 1799 = .ok (.iconst 0, 1) := by decide +kernel
theorem dL_law_1800 : decode cL_law 1800 = .ok (.ireturn, 1) := by decide +kernel
theorem dL_law_1801 : decode cL_law 1801 = .ok (.goto 954, 3) := by decide +kernel
theorem dL_law_1804 : decode cL_law 1804 = .ok (.aload_n 1, 1) := by decide +kernel
theorem dL_law_1805 : decode cL_law 1805 = .ok (.aload_n 0, 1) := by decide +kernel
theorem dL_law_1806 : decode cL_law 1806 = .ok (.iload 5, 2) := by decide +kernel
theorem dL_law_1808 : decode cL_law 1808 = .ok (.iconst 1, 1) := by decide +kernel
theorem dL_law_1809 : decode cL_law 1809 = .ok (.iadd, 1) := by decide +kernel
theorem dL_law_1810 : decode cL_law 1810 = .ok (.iaload, 1) := by decide +kernel
theorem dL_law_1811 : decode cL_law 1811 = .ok (.aload_n 0, 1) := by decide +kernel
theorem dL_law_1812 : decode cL_law 1812 = .ok (.iload 5, 2) := by decide +kernel
theorem dL_law_1814 : decode cL_law 1814 = .ok (.iconst 2, 1) := by decide +kernel
theorem dL_law_1815 : decode cL_law 1815 = .ok (.iadd, 1) := by decide +kernel
theorem dL_law_1816 : decode cL_law 1816 = .ok (.iaload, 1) := by decide +kernel
theorem dL_law_1817 : decode cL_law 1817 = .ok (.aload_n 3, 1) := by decide +kernel
theorem dL_law_1818 : decode cL_law 1818 = .ok (.invokestatic 212, 3) := by decide +kernel
theorem dL_law_1821 : decode cL_law 1821 = .ok (.istore 6, 2) := by decide +kernel
theorem dL_law_1823 : decode cL_law 1823 = .ok (.aload_n 2, 1) := by decide +kernel
theorem dL_law_1824 : decode cL_law 1824 = .ok (.aload_n 0, 1) := by decide +kernel
theorem dL_law_1825 : decode cL_law 1825 = .ok (.iload 5, 2) := by decide +kernel
theorem dL_law_1827 : decode cL_law 1827 = .ok (.iconst 1, 1) := by decide +kernel
theorem dL_law_1828 : decode cL_law 1828 = .ok (.iadd, 1) := by decide +kernel
theorem dL_law_1829 : decode cL_law 1829 = .ok (.iaload, 1) := by decide +kernel
theorem dL_law_1830 : decode cL_law 1830 = .ok (.aload_n 0, 1) := by decide +kernel
theorem dL_law_1831 : decode cL_law 1831 = .ok (.iload 5, 2) := by decide +kernel
theorem dL_law_1833 : decode cL_law 1833 = .ok (.iconst 2, 1) := by decide +kernel
theorem dL_law_1834 : decode cL_law 1834 = .ok (.iadd, 1) := by decide +kernel
theorem dL_law_1835 : decode cL_law 1835 = .ok (.iaload, 1) := by decide +kernel
theorem dL_law_1836 : decode cL_law 1836 = .ok (.invokevirtual 214, 3) := by decide +kernel
theorem dL_law_1839 : decode cL_law 1839 = .ok (.istore 7, 2) := by decide +kernel
theorem dL_law_1841 : decode cL_law 1841 = .ok (.aload_n 2, 1) := by decide +kernel
theorem dL_law_1842 : decode cL_law 1842 = .ok (.invokevirtual 142, 3) := by decide +kernel
theorem dL_law_1845 : decode cL_law 1845 = .ok (.iload 6, 2) := by decide +kernel
theorem dL_law_1847 : decode cL_law 1847 = .ok (.if_icmp .eq 5, 3) := by decide +kernel
theorem dL_law_1850 : decode cL_law 1850 = .ok (.iconst 0, 1) := by decide +kernel
theorem dL_law_1851 : decode cL_law 1851 = .ok (.ireturn, 1) := by decide +kernel
theorem dL_law_1852 : decode cL_law 1852 = .ok (.iload 6, 2) := by decide +kernel
theorem dL_law_1854 : decode cL_law 1854 = .ok (.ifCond .ne 15, 3) := by decide +kernel
theorem dL_law_1857 : decode cL_law 1857 = .ok (.aload_n 3, 1) := by decide +kernel
theorem dL_law_1858 : decode cL_law 1858 = .ok (.iconst 0, 1) := by decide +kernel
theorem dL_law_1859 : decode cL_law 1859 = .ok (.laload, 1) := by decide +kernel
theorem dL_law_1860 : decode cL_law 1860 = .ok (.iload 7, 2) := by decide +kernel
theorem dL_law_1862 : decode cL_law 1862 = .ok (.i2l, 1) := by decide +kernel
theorem dL_law_1863 : decode cL_law 1863 = .ok (.lcmp, 1) := by decide +kernel
theorem dL_law_1864 : decode cL_law 1864 = .ok (.ifCond .eq 5, 3) := by decide +kernel
theorem dL_law_1867 : decode cL_law 1867 = .ok (.iconst 0, 1) := by decide +kernel
theorem dL_law_1868 : decode cL_law 1868 = .ok (.ireturn, 1) := by decide +kernel
theorem dL_law_1869 : decode cL_law 1869 = .ok (.goto 886, 3) := by decide +kernel
theorem dL_law_1872 : decode cL_law 1872 = .ok (.aload_n 1, 1) := by decide +kernel
theorem dL_law_1873 : decode cL_law 1873 = .ok (.aload_n 0, 1) := by decide +kernel
theorem dL_law_1874 : decode cL_law 1874 = .ok (.iload 5, 2) := by decide +kernel
theorem dL_law_1876 : decode cL_law 1876 = .ok (.iconst 1, 1) := by decide +kernel
theorem dL_law_1877 : decode cL_law 1877 = .ok (.iadd, 1) := by decide +kernel
theorem dL_law_1878 : decode cL_law 1878 = .ok (.iaload, 1) := by decide +kernel
theorem dL_law_1879 : decode cL_law 1879 = .ok (.aload_n 0, 1) := by decide +kernel
theorem dL_law_1880 : decode cL_law 1880 = .ok (.iload 5, 2) := by decide +kernel
theorem dL_law_1882 : decode cL_law 1882 = .ok (.iconst 2, 1) := by decide +kernel
theorem dL_law_1883 : decode cL_law 1883 = .ok (.iadd, 1) := by decide +kernel
theorem dL_law_1884 : decode cL_law 1884 = .ok (.iaload, 1) := by decide +kernel
theorem dL_law_1885 : decode cL_law 1885 = .ok (.aload_n 3, 1) := by decide +kernel
theorem dL_law_1886 : decode cL_law 1886 = .ok (.invokestatic 215, 3) := by decide +kernel
theorem dL_law_1889 : decode cL_law 1889 = .ok (.istore 6, 2) := by decide +kernel
theorem dL_law_1891 : decode cL_law 1891 = .ok (.aload_n 2, 1) := by decide +kernel
theorem dL_law_1892 : decode cL_law 1892 = .ok (.aload_n 0, 1) := by decide +kernel
theorem dL_law_1893 : decode cL_law 1893 = .ok (.iload 5, 2) := by decide +kernel
theorem dL_law_1895 : decode cL_law 1895 = .ok (.iconst 1, 1) := by decide +kernel
theorem dL_law_1896 : decode cL_law 1896 = .ok (.iadd, 1) := by decide +kernel
theorem dL_law_1897 : decode cL_law 1897 = .ok (.iaload, 1) := by decide +kernel
theorem dL_law_1898 : decode cL_law 1898 = .ok (.aload_n 0, 1) := by decide +kernel
theorem dL_law_1899 : decode cL_law 1899 = .ok (.iload 5, 2) := by decide +kernel
theorem dL_law_1901 : decode cL_law 1901 = .ok (.iconst 2, 1) := by decide +kernel
theorem dL_law_1902 : decode cL_law 1902 = .ok (.iadd, 1) := by decide +kernel
theorem dL_law_1903 : decode cL_law 1903 = .ok (.iaload, 1) := by decide +kernel
theorem dL_law_1904 : decode cL_law 1904 = .ok (.invokevirtual 217, 3) := by decide +kernel
theorem dL_law_1907 : decode cL_law 1907 = .ok (.istore 7, 2) := by decide +kernel
theorem dL_law_1909 : decode cL_law 1909 = .ok (.aload_n 2, 1) := by decide +kernel
theorem dL_law_1910 : decode cL_law 1910 = .ok (.invokevirtual 142, 3) := by decide +kernel
theorem dL_law_1913 : decode cL_law 1913 = .ok (.iload 6, 2) := by decide +kernel
theorem dL_law_1915 : decode cL_law 1915 = .ok (.if_icmp .eq 5, 3) := by decide +kernel
theorem dL_law_1918 : decode cL_law 1918 = .ok (.iconst 0, 1) := by decide +kernel
theorem dL_law_1919 : decode cL_law 1919 = .ok (.ireturn, 1) := by decide +kernel
theorem dL_law_1920 : decode cL_law 1920 = .ok (.iload 6, 2) := by decide +kernel
theorem dL_law_1922 : decode cL_law 1922 = .ok (.ifCond .ne 22, 3) := by decide +kernel
theorem dL_law_1925 : decode cL_law 1925 = .ok (.aload_n 3, 1) := by decide +kernel
theorem dL_law_1926 : decode cL_law 1926 = .ok (.iconst 0, 1) := by decide +kernel
theorem dL_law_1927 : decode cL_law 1927 = .ok (.laload, 1) := by decide +kernel
theorem dL_law_1928 : decode cL_law 1928 = .ok (.iload 7, 2) := by decide +kernel
theorem dL_law_1930 : decode cL_law 1930 = .ok (.ifCond .eq 7, 3) := by decide +kernel
theorem dL_law_1933 : decode cL_law 1933 = .ok (.lconst 1, 1) := by decide +kernel
theorem dL_law_1934 : decode cL_law 1934 = .ok (.goto 4, 3) := by decide +kernel
theorem dL_law_1937 : decode cL_law 1937 = .ok (.lconst 0, 1) := by decide +kernel
theorem dL_law_1938 : decode cL_law 1938 = .ok (.lcmp, 1) := by decide +kernel
theorem dL_law_1939 : decode cL_law 1939 = .ok (.ifCond .eq 5, 3) := by decide +kernel
theorem dL_law_1942 : decode cL_law 1942 = .ok (.iconst 0, 1) := by decide +kernel
theorem dL_law_1943 : decode cL_law 1943 = .ok (.ireturn, 1) := by decide +kernel
theorem dL_law_1944 : decode cL_law 1944 = .ok (.goto 811, 3) := by decide +kernel
theorem dL_law_1947 : decode cL_law 1947 = .ok (.aload_n 1, 1) := by decide +kernel
theorem dL_law_1948 : decode cL_law 1948 = .ok (.aload_n 0, 1) := by decide +kernel
theorem dL_law_1949 : decode cL_law 1949 = .ok (.iload 5, 2) := by decide +kernel
end
section
theorem dL_law_1951 : decode cL_law 1951 = .ok (.iconst 1, 1) := by decide +kernel
theorem dL_law_1952 : decode cL_law 1952 = .ok (.iadd, 1) := by decide +kernel
theorem dL_law_1953 : decode cL_law 1953 = .ok (.iaload, 1) := by decide +kernel
theorem dL_law_1954 : decode cL_law 1954 = .ok (.aload_n 0, 1) := by decide +kernel
theorem dL_law_1955 : decode cL_law 1955 = .ok (.iload 5, 2) := by decide +kernel
theorem dL_law_1957 : decode cL_law 1957 = .ok (.iconst 2, 1) := by decide +kernel
theorem dL_law_1958 : decode cL_law 1958 = .ok (.iadd, 1) := by decide +kernel
theorem dL_law_1959 : decode cL_law 1959 = .ok (.iaload, 1) := by decide +kernel
theorem dL_law_1960 : decode cL_law 1960 = .ok (.aload_n 0, 1) := by decide +kernel
theorem dL_law_1961 : decode cL_law 1961 = .ok (.iload 5, 2) := by decide +kernel
theorem dL_law_1963 : decode cL_law 1963 = .ok (.iconst 3, 1) := by decide +kernel
theorem dL_law_1964 : decode cL_law 1964 = .ok (.iadd, 1) := by decide +kernel
theorem dL_law_1965 : decode cL_law 1965 = .ok (.iaload, 1) := by decide +kernel
theorem dL_law_1966 : decode cL_law 1966 = .ok (.aload_n 3, 1) := by decide +kernel
theorem dL_law_1967 : decode cL_law 1967 = .ok (.invokestatic 218, 3) := by decide +kernel
theorem dL_law_1970 : decode cL_law 1970 = .ok (.istore 6, 2) := by decide +kernel
theorem dL_law_1972 : decode cL_law 1972 = .ok (.aload_n 2, 1) := by decide +kernel
theorem dL_law_1973 : decode cL_law 1973 = .ok (.aload_n 0, 1) := by decide +kernel
theorem dL_law_1974 : decode cL_law 1974 = .ok (.iload 5, 2) := by decide +kernel
theorem dL_law_1976 : decode cL_law 1976 = .ok (.iconst 1, 1) := by decide +kernel
theorem dL_law_1977 : decode cL_law 1977 = .ok (.iadd, 1) := by decide +kernel
theorem dL_law_1978 : decode cL_law 1978 = .ok (.iaload, 1) := by decide +kernel
theorem dL_law_1979 : decode cL_law 1979 = .ok (.aload_n 0, 1) := by decide +kernel
theorem dL_law_1980 : decode cL_law 1980 = .ok (.iload 5, 2) := by decide +kernel
theorem dL_law_1982 : decode cL_law 1982 = .ok (.iconst 2, 1) := by decide +kernel
theorem dL_law_1983 : decode cL_law 1983 = .ok (.iadd, 1) := by decide +kernel
theorem dL_law_1984 : decode cL_law 1984 = .ok (.iaload, 1) := by decide +kernel
theorem dL_law_1985 : decode cL_law 1985 = .ok (.aload_n 0, 1) := by decide +kernel
theorem dL_law_1986 : decode cL_law 1986 = .ok (.iload 5, 2) := by decide +kernel
theorem dL_law_1988 : decode cL_law 1988 = .ok (.iconst 3, 1) := by decide +kernel
theorem dL_law_1989 : decode cL_law 1989 = .ok (.iadd, 1) := by decide +kernel
theorem dL_law_1990 : decode cL_law 1990 = .ok (.iaload, 1) := by decide +kernel
theorem dL_law_1991 : decode cL_law 1991 = .ok (.invokevirtual 220, 3) := by decide +kernel
theorem dL_law_1994 : decode cL_law 1994 = .ok (.istore 7, 2) := by decide +kernel
theorem dL_law_1996 : decode cL_law 1996 = .ok (.aload_n 2, 1) := by decide +kernel
theorem dL_law_1997 : decode cL_law 1997 = .ok (.invokevirtual 142, 3) := by decide +kernel
theorem dL_law_2000 : decode cL_law 2000 = .ok (.iload 6, 2) := by decide +kernel
theorem dL_law_2002 : decode cL_law 2002 = .ok (.if_icmp .eq 5, 3) := by decide +kernel
theorem dL_law_2005 : decode cL_law 2005 = .ok (.iconst 0, 1) := by decide +kernel
theorem dL_law_2006 : decode cL_law 2006 = .ok (.ireturn, 1) := by decide +kernel
theorem dL_law_2007 : decode cL_law 2007 = .ok (.iload 6, 2) := by decide +kernel
theorem dL_law_2009 : decode cL_law 2009 = .ok (.ifCond .ne 15, 3) := by decide +kernel
theorem dL_law_2012 : decode cL_law 2012 = .ok (.aload_n 3, 1) := by decide +kernel
theorem dL_law_2013 : decode cL_law 2013 = .ok (.iconst 0, 1) := by decide +kernel
theorem dL_law_2014 : decode cL_law 2014 = .ok (.laload, 1) := by decide +kernel
theorem dL_law_2015 : decode cL_law 2015 = .ok (.iload 7, 2) := by decide +kernel
theorem dL_law_2017 : decode cL_law 2017 = .ok (.i2l, 1) := by decide +kernel
theorem dL_law_2018 : decode cL_law 2018 = .ok (.lcmp, 1) := by decide +kernel
theorem dL_law_2019 : decode cL_law 2019 = .ok (.ifCond .eq 5, 3) := by decide +kernel
theorem dL_law_2022 : decode cL_law 2022 = .ok (.iconst 0, 1) := by decide +kernel
theorem dL_law_2023 : decode cL_law 2023 = .ok (.ireturn, 1) := by decide +kernel
theorem dL_law_2024 : decode cL_law 2024 = .ok (.goto 731, 3) := by decide +kernel
theorem dL_law_2027 : decode cL_law 2027 = .ok (.aload_n 1, 1) := by decide +kernel
theorem dL_law_2028 : decode cL_law 2028 = .ok (.aload_n 0, 1) := by decide +kernel
theorem dL_law_2029 : decode cL_law 2029 = .ok (.iload 5, 2) := by decide +kernel
theorem dL_law_2031 : decode cL_law 2031 = .ok (.iconst 1, 1) := by decide +kernel
theorem dL_law_2032 : decode cL_law 2032 = .ok (.iadd, 1) := by decide +kernel
theorem dL_law_2033 : decode cL_law 2033 = .ok (.iaload, 1) := by decide +kernel
theorem dL_law_2034 : decode cL_law 2034 = .ok (.aload_n 0, 1) := by decide +kernel
theorem dL_law_2035 : decode cL_law 2035 = .ok (.iload 5, 2) := by decide +kernel
theorem dL_law_2037 : decode cL_law 2037 = .ok (.iconst 2, 1) := by decide +kernel
theorem dL_law_2038 : decode cL_law 2038 = .ok (.iadd, 1) := by decide +kernel
theorem dL_law_2039 : decode cL_law 2039 = .ok (.iaload, 1) := by decide +kernel
theorem dL_law_2040 : decode cL_law 2040 = .ok (.aload_n 3, 1) := by decide +kernel
theorem dL_law_2041 : decode cL_law 2041 = .ok (.invokestatic 221, 3) := by decide +kernel
theorem dL_law_2044 : decode cL_law 2044 = .ok (.istore 6, 2) := by decide +kernel
theorem dL_law_2046 : decode cL_law 2046 = .ok (.aload_n 2, 1) := by decide +kernel
theorem dL_law_2047 : decode cL_law 2047 = .ok (.aload_n 0, 1) := by decide +kernel
theorem dL_law_2048 : decode cL_law 2048 = .ok (.iload 5, 2) := by decide +kernel
theorem dL_law_2050 : decode cL_law 2050 = .ok (.iconst 1, 1) := by decide +kernel
theorem dL_law_2051 : decode cL_law 2051 = .ok (.iadd, 1) := by decide +kernel
theorem dL_law_2052 : decode cL_law 2052 = .ok (.iaload, 1) := by decide +kernel
theorem dL_law_2053 : decode cL_law 2053 = .ok (.aload_n 0, 1) := by decide +kernel
theorem dL_law_2054 : decode cL_law 2054 = .ok (.iload 5, 2) := by decide +kernel
theorem dL_law_2056 : decode cL_law 2056 = .ok (.iconst 2, 1) := by decide +kernel
theorem dL_law_2057 : decode cL_law 2057 = .ok (.iadd, 1) := by decide +kernel
theorem dL_law_2058 : decode cL_law 2058 = .ok (.iaload, 1) := by decide +kernel
theorem dL_law_2059 : decode cL_law 2059 = .ok (.invokevirtual 223, 3) := by decide +kernel
theorem dL_law_2062 : decode cL_law 2062 = .ok (.istore 7, 2) := by decide +kernel
theorem dL_law_2064 : decode cL_law 2064 = .ok (.aload_n 2, 1) := by decide +kernel
theorem dL_law_2065 : decode cL_law 2065 = .ok (.invokevirtual 142, 3) := by decide +kernel
theorem dL_law_2068 : decode cL_law 2068 = .ok (.iload 6, 2) := by decide +kernel
theorem dL_law_2070 : decode cL_law 2070 = .ok (.if_icmp .eq 5, 3) := by decide +kernel
theorem dL_law_2073 : decode cL_law 2073 = .ok (.iconst 0, 1) := by decide +kernel
theorem dL_law_2074 : decode cL_law 2074 = .ok (.ireturn, 1) := by decide +kernel
theorem dL_law_2075 : decode cL_law 2075 = .ok (.iload 6, 2) := by decide +kernel
theorem dL_law_2077 : decode cL_law 2077 = .ok (.ifCond .ne 15, 3) := by decide +kernel
theorem dL_law_2080 : decode cL_law 2080 = .ok (.aload_n 3, 1) := by decide +kernel
theorem dL_law_2081 : decode cL_law 2081 = .ok (.iconst 0, 1) := by decide +kernel
theorem dL_law_2082 : decode cL_law 2082 = .ok (.laload, 1) := by decide +kernel
theorem dL_law_2083 : decode cL_law 2083 = .ok (.iload 7, 2) := by decide +kernel
theorem dL_law_2085 : decode cL_law 2085 = .ok (.i2l, 1) := by decide +kernel
theorem dL_law_2086 : decode cL_law 2086 = .ok (.lcmp, 1) := by decide +kernel
theorem dL_law_2087 : decode cL_law 2087 = .ok (.ifCond .eq 5, 3) := by decide +kernel
theorem dL_law_2090 : decode cL_law 2090 = .ok (.iconst 0, 1) := by decide +kernel
theorem dL_law_2091 : decode cL_law 2091 = .ok (.ireturn, 1) := by decide +kernel
theorem dL_law_2092 : decode cL_law 2092 = .ok (.goto 663, 3) := by decide +kernel
theorem dL_law_2095 : decode cL_law 2095 = .ok (.aload_n 1, 1) := by decide +kernel
theorem dL_law_2096 : decode cL_law 2096 = .ok (.aload_n 0, 1) := by decide +kernel
theorem dL_law_2097 : decode cL_law 2097 = .ok (.iload 5, 2) := by decide +kernel
theorem dL_law_2099 : decode cL_law 2099 = .ok (.iconst 1, 1) := by decide +kernel
theorem dL_law_2100 : decode cL_law 2100 = .ok (.iadd, 1) := by decide +kernel
theorem dL_law_2101 : decode cL_law 2101 = .ok (.iaload, 1) := by decide +kernel
theorem dL_law_2102 : decode cL_law 2102 = .ok (.aload_n 3, 1) := by decide +kernel
theorem dL_law_2103 : decode cL_law 2103 = .ok (.invokestatic 224, 3) := by decide +kernel
theorem dL_law_2106 : decode cL_law 2106 = .ok (.istore 6, 2) := by decide +kernel
theorem dL_law_2108 : decode cL_law 2108 = .ok (.aload_n 2, 1) := by decide +kernel
theorem dL_law_2109 : decode cL_law 2109 = .ok (.aload_n 0, 1) := by decide +kernel
theorem dL_law_2110 : decode cL_law 2110 = .ok (.iload 5, 2) := by decide +kernel
theorem dL_law_2112 : decode cL_law 2112 = .ok (.iconst 1, 1) := by decide +kernel
theorem dL_law_2113 : decode cL_law 2113 = .ok (.iadd, 1) := by decide +kernel
theorem dL_law_2114 : decode cL_law 2114 = .ok (.iaload, 1) := by decide +kernel
theorem dL_law_2115 : decode cL_law 2115 = .ok (.invokevirtual 226, 3) := by decide +kernel
theorem dL_law_2118 : decode cL_law 2118 = .ok (.istore 7, 2) := by decide +kernel
theorem dL_law_2120 : decode cL_law 2120 = .ok (.aload_n 2, 1) := by decide +kernel
theorem dL_law_2121 : decode cL_law 2121 = .ok (.invokevirtual 142, 3) := by decide +kernel
theorem dL_law_2124 : decode cL_law 2124 = .ok (.iload 6, 2) := by decide +kernel
theorem dL_law_2126 : decode cL_law 2126 = .ok (.if_icmp .eq 5, 3) := by decide +kernel
theorem dL_law_2129 : decode cL_law 2129 = .ok (.iconst 0, 1) := by decide +kernel
theorem dL_law_2130 : decode cL_law 2130 = .ok (.ireturn, 1) := by decide +kernel
theorem dL_law_2131 : decode cL_law 2131 = .ok (.iload 6, 2) := by decide +kernel
theorem dL_law_2133 : decode cL_law 2133 = .ok (.ifCond .ne 15, 3) := by decide +kernel
theorem dL_law_2136 : decode cL_law 2136 = .ok (.aload_n 3, 1) := by decide +kernel
theorem dL_law_2137 : decode cL_law 2137 = .ok (.iconst 0, 1) := by decide +kernel
theorem dL_law_2138 : decode cL_law 2138 = .ok (.laload, 1) := by decide +kernel
theorem dL_law_2139 : decode cL_law 2139 = .ok (.iload 7, 2) := by decide +kernel
theorem dL_law_2141 : decode cL_law 2141 = .ok (.i2l, 1) := by decide +kernel
theorem dL_law_2142 : decode cL_law 2142 = .ok (.lcmp, 1) := by decide +kernel
theorem dL_law_2143 : decode cL_law 2143 = .ok (.ifCond .eq 5, 3) := by decide +kernel
theorem dL_law_2146 : decode cL_law 2146 = .ok (.iconst 0, 1) := by decide +kernel
theorem dL_law_2147 : decode cL_law 2147 = .ok (.ireturn, 1) := by decide +kernel
theorem dL_law_2148 : decode cL_law 2148 = .ok (.goto 607, 3) := by decide +kernel
theorem dL_law_2151 : decode cL_law 2151 = .ok (.aload_n 1, 1) := by decide +kernel
theorem dL_law_2152 : decode cL_law 2152 = .ok (.aload_n 0, 1) := by decide +kernel
theorem dL_law_2153 : decode cL_law 2153 = .ok (.iload 5, 2) := by decide +kernel
theorem dL_law_2155 : decode cL_law 2155 = .ok (.iconst 1, 1) := by decide +kernel
theorem dL_law_2156 : decode cL_law 2156 = .ok (.iadd, 1) := by decide +kernel
theorem dL_law_2157 : decode cL_law 2157 = .ok (.iaload, 1) := by decide +kernel
theorem dL_law_2158 : decode cL_law 2158 = .ok (.aload_n 3, 1) := by decide +kernel
theorem dL_law_2159 : decode cL_law 2159 = .ok (.invokestatic 227, 3) := by decide +kernel
theorem dL_law_2162 : decode cL_law 2162 = .ok (.istore 6, 2) := by decide +kernel
theorem dL_law_2164 : decode cL_law 2164 = .ok (.aload_n 2, 1) := by decide +kernel
theorem dL_law_2165 : decode cL_law 2165 = .ok (.aload_n 0, 1) := by decide +kernel
theorem dL_law_2166 : decode cL_law 2166 = .ok (.iload 5, 2) := by decide +kernel
theorem dL_law_2168 : decode cL_law 2168 = .ok (.iconst 1, 1) := by decide +kernel
theorem dL_law_2169 : decode cL_law 2169 = .ok (.iadd, 1) := by decide +kernel
theorem dL_law_2170 : decode cL_law 2170 = .ok (.iaload, 1) := by decide +kernel
theorem dL_law_2171 : decode cL_law 2171 = .ok (.invokevirtual 229, 3) := by decide +kernel
theorem dL_law_2174 : decode cL_law 2174 = .ok (.istore 7, 2) := by decide +kernel
theorem dL_law_2176 : decode cL_law 2176 = .ok (.aload_n 2, 1) := by decide +kernel
theorem dL_law_2177 : decode cL_law 2177 = .ok (.invokevirtual 142, 3) := by decide +kernel
theorem dL_law_2180 : decode cL_law 2180 = .ok (.iload 6, 2) := by decide +kernel
theorem dL_law_2182 : decode cL_law 2182 = .ok (.if_icmp .eq 5, 3) := by decide +kernel
theorem dL_law_2185 : decode cL_law 2185 = .ok (.iconst 0, 1) := by decide +kernel
theorem dL_law_2186 : decode cL_law 2186 = .ok (.ireturn, 1) := by decide +kernel
theorem dL_law_2187 : decode cL_law 2187 = .ok (.iload 6, 2) := by decide +kernel
theorem dL_law_2189 : decode cL_law 2189 = .ok (.ifCond .ne 22, 3) := by decide +kernel
theorem dL_law_2192 : decode cL_law 2192 = .ok (.aload_n 3, 1) := by decide +kernel
theorem dL_law_2193 : decode cL_law 2193 = .ok (.iconst 0, 1) := by decide +kernel
theorem dL_law_2194 : decode cL_law 2194 = .ok (.laload, 1) := by decide +kernel
theorem dL_law_2195 : decode cL_law 2195 = .ok (.iload 7, 2) := by decide +kernel
theorem dL_law_2197 : decode cL_law 2197 = .ok (.ifCond .eq 7, 3) := by decide +kernel
theorem dL_law_2200 : decode cL_law 2200 = .ok (.lconst 1, 1) := by decide +kernel
theorem dL_law_2201 : decode cL_law 2201 = .ok (.goto 4, 3) := by decide +kernel
theorem dL_law_2204 : decode cL_law 2204 = .ok (.lconst 0, 1) := by decide +kernel
theorem dL_law_2205 : decode cL_law 2205 = .ok (.lcmp, 1) := by decide +kernel
theorem dL_law_2206 : decode cL_law 2206 = .ok (.ifCond .eq 5, 3) := by decide +kernel
theorem dL_law_2209 : decode cL_law 2209 = .ok (.iconst 0, 1) := by decide +kernel
theorem dL_law_2210 : decode cL_law 2210 = .ok (.ireturn, 1) := by decide +kernel
theorem dL_law_2211 : decode cL_law 2211 = .ok (.goto 544, 3) := by decide +kernel
theorem dL_law_2214 : decode cL_law 2214 = .ok (.aload_n 1, 1) := by decide +kernel
theorem dL_law_2215 : decode cL_law 2215 = .ok (.aload_n 0, 1) := by decide +kernel
theorem dL_law_2216 : decode cL_law 2216 = .ok (.iload 5, 2) := by decide +kernel
theorem dL_law_2218 : decode cL_law 2218 = .ok (.iconst 1, 1) := by decide +kernel
theorem dL_law_2219 : decode cL_law 2219 = .ok (.iadd, 1) := by decide +kernel
theorem dL_law_2220 : decode cL_law 2220 = .ok (.iaload, 1) := by decide +kernel
theorem dL_law_2221 : decode cL_law 2221 = .ok (.aload_n 0, 1) := by decide +kernel
theorem dL_law_2222 : decode cL_law 2222 = .ok (.iload 5, 2) := by decide +kernel
theorem dL_law_2224 : decode cL_law 2224 = .ok (.iconst 2, 1) := by decide +kernel
theorem dL_law_2225 : decode cL_law 2225 = .ok (.iadd, 1) := by decide +kernel
theorem dL_law_2226 : decode cL_law 2226 = .ok (.iaload, 1) := by decide +kernel
theorem dL_law_2227 : decode cL_law 2227 = .ok (.aload_n 3, 1) := by decide +kernel
theorem dL_law_2228 : decode cL_law 2228 = .ok (.invokestatic 230, 3) := by decide +kernel
theorem dL_law_2231 : decode cL_law 2231 = .ok (.istore 6, 2) := by decide +kernel
theorem dL_law_2233 : decode cL_law 2233 = .ok (.aload_n 2, 1) := by decide +kernel
theorem dL_law_2234 : decode cL_law 2234 = .ok (.aload_n 0, 1) := by decide +kernel
theorem dL_law_2235 : decode cL_law 2235 = .ok (.iload 5, 2) := by decide +kernel
theorem dL_law_2237 : decode cL_law 2237 = .ok (.iconst 1, 1) := by decide +kernel
theorem dL_law_2238 : decode cL_law 2238 = .ok (.iadd, 1) := by decide +kernel
theorem dL_law_2239 : decode cL_law 2239 = .ok (.iaload, 1) := by decide +kernel
theorem dL_law_2240 : decode cL_law 2240 = .ok (.aload_n 0, 1) := by decide +kernel
theorem dL_law_2241 : decode cL_law 2241 = .ok (.iload 5, 2) := by decide +kernel
theorem dL_law_2243 : decode cL_law 2243 = .ok (.iconst 2, 1) := by decide +kernel
theorem dL_law_2244 : decode cL_law 2244 = .ok (.iadd, 1) := by decide +kernel
theorem dL_law_2245 : decode cL_law 2245 = .ok (.iaload, 1) := by decide +kernel
theorem dL_law_2246 : decode cL_law 2246 = .ok (.invokevirtual 232, 3) := by decide +kernel
theorem dL_law_2249 : decode cL_law 2249 = .ok (.istore 7, 2) := by decide +kernel
theorem dL_law_2251 : decode cL_law 2251 = .ok (.aload_n 2, 1) := by decide +kernel
theorem dL_law_2252 : decode cL_law 2252 = .ok (.invokevirtual 142, 3) := by decide +kernel
theorem dL_law_2255 : decode cL_law 2255 = .ok (.iload 6, 2) := by decide +kernel
theorem dL_law_2257 : decode cL_law 2257 = .ok (.if_icmp .eq 5, 3) := by decide +kernel
theorem dL_law_2260 : decode cL_law 2260 = .ok (.iconst 0, 1) := by decide +kernel
theorem dL_law_2261 : decode cL_law 2261 = .ok (.ireturn, 1) := by decide +kernel
theorem dL_law_2262 : decode cL_law 2262 = .ok (.iload 6, 2) := by decide +kernel
theorem dL_law_2264 : decode cL_law 2264 = .ok (.ifCond .ne 15, 3) := by decide +kernel
theorem dL_law_2267 : decode cL_law 2267 = .ok (.aload_n 3, 1) := by decide +kernel
theorem dL_law_2268 : decode cL_law 2268 = .ok (.iconst 0, 1) := by decide +kernel
theorem dL_law_2269 : decode cL_law 2269 = .ok (.laload, 1) := by decide +kernel
theorem dL_law_2270 : decode cL_law 2270 = .ok (.iload 7, 2) := by decide +kernel
theorem dL_law_2272 : decode cL_law 2272 = .ok (.i2l, 1) := by decide +kernel
theorem dL_law_2273 : decode cL_law 2273 = .ok (.lcmp, 1) := by decide +kernel
theorem dL_law_2274 : decode cL_law 2274 = .ok (.ifCond .eq 5, 3) := by decide +kernel
theorem dL_law_2277 : decode cL_law 2277 = .ok (.iconst 0, 1) := by decide +kernel
theorem dL_law_2278 : decode cL_law 2278 = .ok (.ireturn, 1) := by decide +kernel
theorem dL_law_2279 : decode cL_law 2279 = .ok (.goto 476, 3) := by decide +kernel
theorem dL_law_2282 : decode cL_law 2282 = .ok (.aload_n 1, 1) := by decide +kernel
theorem dL_law_2283 : decode cL_law 2283 = .ok (.aload_n 0, 1) := by decide +kernel
theorem dL_law_2284 : decode cL_law 2284 = .ok (.iload 5, 2) := by decide +kernel
theorem dL_law_2286 : decode cL_law 2286 = .ok (.iconst 1, 1) := by decide +kernel
theorem dL_law_2287 : decode cL_law 2287 = .ok (.iadd, 1) := by decide +kernel
theorem dL_law_2288 : decode cL_law 2288 = .ok (.iaload, 1) := by decide +kernel
theorem dL_law_2289 : decode cL_law 2289 = .ok (.aload_n 3, 1) := by decide +kernel
theorem dL_law_2290 : decode cL_law 2290 = .ok (.invokestatic 233, 3) := by decide +kernel
theorem dL_law_2293 : decode cL_law 2293 = .ok (.istore 6, 2) := by decide +kernel
theorem dL_law_2295 : decode cL_law 2295 = .ok (.aload_n 2, 1) := by decide +kernel
theorem dL_law_2296 : decode cL_law 2296 = .ok (.aload_n 0, 1) := by decide +kernel
theorem dL_law_2297 : decode cL_law 2297 = .ok (.iload 5, 2) := by decide +kernel
theorem dL_law_2299 : decode cL_law 2299 = .ok (.iconst 1, 1) := by decide +kernel
theorem dL_law_2300 : decode cL_law 2300 = .ok (.iadd, 1) := by decide +kernel
theorem dL_law_2301 : decode cL_law 2301 = .ok (.iaload, 1) := by decide +kernel
theorem dL_law_2302 : decode cL_law 2302 = .ok (.invokevirtual 235, 3) := by decide +kernel
theorem dL_law_2305 : decode cL_law 2305 = .ok (.istore 7, 2) := by decide +kernel
theorem dL_law_2307 : decode cL_law 2307 = .ok (.aload_n 2, 1) := by decide +kernel
theorem dL_law_2308 : decode cL_law 2308 = .ok (.invokevirtual 142, 3) := by decide +kernel
theorem dL_law_2311 : decode cL_law 2311 = .ok (.iload 6, 2) := by decide +kernel
theorem dL_law_2313 : decode cL_law 2313 = .ok (.if_icmp .eq 5, 3) := by decide +kernel
theorem dL_law_2316 : decode cL_law 2316 = .ok (.iconst 0, 1) := by decide +kernel
theorem dL_law_2317 : decode cL_law 2317 = .ok (.ireturn, 1) := by decide +kernel
theorem dL_law_2318 : decode cL_law 2318 = .ok (.iload 6, 2) := by decide +kernel
theorem dL_law_2320 : decode cL_law 2320 = .ok (.ifCond .ne 15, 3) := by decide +kernel
theorem dL_law_2323 : decode cL_law 2323 = .ok (.aload_n 3, 1) := by decide +kernel
theorem dL_law_2324 : decode cL_law 2324 = .ok (.iconst 0, 1) := by decide +kernel
theorem dL_law_2325 : decode cL_law 2325 = .ok (.laload, 1) := by decide +kernel
theorem dL_law_2326 : decode cL_law 2326 = .ok (.iload 7, 2) := by decide +kernel
theorem dL_law_2328 : decode cL_law 2328 = .ok (.i2l, 1) := by decide +kernel
theorem dL_law_2329 : decode cL_law 2329 = .ok (.lcmp, 1) := by decide +kernel
theorem dL_law_2330 : decode cL_law 2330 = .ok (.ifCond .eq 5, 3) := by decide +kernel
theorem dL_law_2333 : decode cL_law 2333 = .ok (.iconst 0, 1) := by decide +kernel
theorem dL_law_2334 : decode cL_law 2334 = .ok (.ireturn, 1) := by decide +kernel
theorem dL_law_2335 : decode cL_law 2335 = .ok (.goto 420, 3) := by decide +kernel
theorem dL_law_2338 : decode cL_law 2338 = .ok (.aload_n 1, 1) := by decide +kernel
theorem dL_law_2339 : decode cL_law 2339 = .ok (.aload_n 0, 1) := by decide +kernel
theorem dL_law_2340 : decode cL_law 2340 = .ok (.iload 5, 2) := by decide +kernel
theorem dL_law_2342 : decode cL_law 2342 = .ok (.iconst 1, 1) := by decide +kernel
theorem dL_law_2343 : decode cL_law 2343 = .ok (.iadd, 1) := by decide +kernel
theorem dL_law_2344 : decode cL_law 2344 = .ok (.iaload, 1) := by decide +kernel
theorem dL_law_2345 : decode cL_law 2345 = .ok (.aload_n 0, 1) := by decide +kernel
theorem dL_law_2346 : decode cL_law 2346 = .ok (.iload 5, 2) := by decide +kernel
theorem dL_law_2348 : decode cL_law 2348 = .ok (.iconst 2, 1) := by decide +kernel
theorem dL_law_2349 : decode cL_law 2349 = .ok (.iadd, 1) := by decide +kernel
theorem dL_law_2350 : decode cL_law 2350 = .ok (.iaload, 1) := by decide +kernel
theorem dL_law_2351 : decode cL_law 2351 = .ok (.aload_n 0, 1) := by decide +kernel
theorem dL_law_2352 : decode cL_law 2352 = .ok (.iload 5, 2) := by decide +kernel
theorem dL_law_2354 : decode cL_law 2354 = .ok (.iconst 3, 1) := by decide +kernel
theorem dL_law_2355 : decode cL_law 2355 = .ok (.iadd, 1) := by decide +kernel
theorem dL_law_2356 : decode cL_law 2356 = .ok (.iaload, 1) := by decide +kernel
theorem dL_law_2357 : decode cL_law 2357 = .ok (.ifCond .eq 7, 3) := by decide +kernel
theorem dL_law_2360 : decode cL_law 2360 = .ok (.iconst 1, 1) := by decide +kernel
theorem dL_law_2361 : decode cL_law 2361 = .ok (.goto 4, 3) := by decide +kernel
theorem dL_law_2364 : decode cL_law 2364 = .ok (.iconst 0, 1) := by decide +kernel
theorem dL_law_2365 : decode cL_law 2365 = .ok (.aload_n 3, 1) := by decide +kernel
theorem dL_law_2366 : decode cL_law 2366 = .ok (.invokestatic 236, 3) := by decide +kernel
theorem dL_law_2369 : decode cL_law 2369 = .ok (.istore 6, 2) := by decide +kernel
theorem dL_law_2371 : decode cL_law 2371 = .ok (.aload_n 2, 1) := by decide +kernel
theorem dL_law_2372 : decode cL_law 2372 = .ok (.aload_n 0, 1) := by decide +kernel
theorem dL_law_2373 : decode cL_law 2373 = .ok (.iload 5, 2) := by decide +kernel
theorem dL_law_2375 : decode cL_law 2375 = .ok (.iconst 1, 1) := by decide +kernel
theorem dL_law_2376 : decode cL_law 2376 = .ok (.iadd, 1) := by decide +kernel
theorem dL_law_2377 : decode cL_law 2377 = .ok (.iaload, 1) := by decide +kernel
theorem dL_law_2378 : decode cL_law 2378 = .ok (.aload_n 0, 1) := by decide +kernel
theorem dL_law_2379 : decode cL_law 2379 = .ok (.iload 5, 2) := by decide +kernel
theorem dL_law_2381 : decode cL_law 2381 = .ok (.iconst 2, 1) := by decide +kernel
theorem dL_law_2382 : decode cL_law 2382 = .ok (.iadd, 1) := by decide +kernel
theorem dL_law_2383 : decode cL_law 2383 = .ok (.iaload, 1) := by decide +kernel
theorem dL_law_2384 : decode cL_law 2384 = .ok (.aload_n 0, 1) := by decide +kernel
theorem dL_law_2385 : decode cL_law 2385 = .ok (.iload 5, 2) := by decide +kernel
theorem dL_law_2387 : decode cL_law 2387 = .ok (.iconst 3, 1) := by decide +kernel
theorem dL_law_2388 : decode cL_law 2388 = .ok (.iadd, 1) := by decide +kernel
theorem dL_law_2389 : decode cL_law 2389 = .ok (.iaload, 1) := by decide +kernel
theorem dL_law_2390 : decode cL_law 2390 = .ok (.ifCond .eq 7, 3) := by decide +kernel
theorem dL_law_2393 : decode cL_law 2393 = .ok (.iconst 1, 1) := by decide +kernel
theorem dL_law_2394 : decode cL_law 2394 = .ok (.goto 4, 3) := by decide +kernel
theorem dL_law_2397 : decode cL_law 2397 = .ok (.iconst 0, 1) := by decide +kernel
theorem dL_law_2398 : decode cL_law 2398 = .ok (.invokevirtual 239, 3) := by decide +kernel
theorem dL_law_2401 : decode cL_law 2401 = .ok (.istore 7, 2) := by decide +kernel
theorem dL_law_2403 : decode cL_law 2403 = .ok (.aload_n 2, 1) := by decide +kernel
theorem dL_law_2404 : decode cL_law 2404 = .ok (.invokevirtual 142, 3) := by decide +kernel
theorem dL_law_2407 : decode cL_law 2407 = .ok (.iload 6, 2) := by decide +kernel
theorem dL_law_2409 : decode cL_law 2409 = .ok (.if_icmp .eq 5, 3) := by decide +kernel
theorem dL_law_2412 : decode cL_law 2412 = .ok (.iconst 0, 1) := by decide +kernel
theorem dL_law_2413 : decode cL_law 2413 = .ok (.ireturn, 1) := by decide +kernel
theorem dL_law_2414 : decode cL_law 2414 = .ok (.iload 6, 2) := by decide +kernel
theorem dL_law_2416 : decode cL_law 2416 = .ok (.ifCond .ne 15, 3) := by decide +kernel
theorem dL_law_2419 : decode cL_law 2419 = .ok (.aload_n 3, 1) := by decide +kernel
theorem dL_law_2420 : decode cL_law 2420 = .ok (.iconst 0, 1) := by decide +kernel
theorem dL_law_2421 : decode cL_law 2421 = .ok (.laload, 1) := by decide +kernel
theorem dL_law_2422 : decode cL_law 2422 = .ok (.iload 7, 2) := by decide +kernel
theorem dL_law_2424 : decode cL_law 2424 = .ok (.i2l, 1) := by decide +kernel
theorem dL_law_2425 : decode cL_law 2425 = .ok (.lcmp, 1) := by decide +kernel
theorem dL_law_2426 : decode cL_law 2426 = .ok (.ifCond .eq 5, 3) := by decide +kernel
theorem dL_law_2429 : decode cL_law 2429 = .ok (.iconst 0, 1) := by decide +kernel
theorem dL_law_2430 : decode cL_law 2430 = .ok (.ireturn, 1) := by decide +kernel
theorem dL_law_2431 : decode cL_law 2431 = .ok (.goto 324, 3) := by decide +kernel
theorem dL_law_2434 : decode cL_law 2434 = .ok (.aload_n 1, 1) := by decide +kernel
theorem dL_law_2435 : decode cL_law 2435 = .ok (.aload_n 0, 1) := by decide +kernel
theorem dL_law_2436 : decode cL_law 2436 = .ok (.iload 5, 2) := by decide +kernel
theorem dL_law_2438 : decode cL_law 2438 = .ok (.iconst 1, 1) := by decide +kernel
theorem dL_law_2439 : decode cL_law 2439 = .ok (.iadd, 1) := by decide +kernel
theorem dL_law_2440 : decode cL_law 2440 = .ok (.iaload, 1) := by decide +kernel
theorem dL_law_2441 : decode cL_law 2441 = .ok (.aload_n 0, 1) := by decide +kernel
theorem dL_law_2442 : decode cL_law 2442 = .ok (.iload 5, 2) := by decide +kernel
theorem dL_law_2444 : decode cL_law 2444 = .ok (.iconst 2, 1) := by decide +kernel
theorem dL_law_2445 : decode cL_law 2445 = .ok (.iadd, 1) := by decide +kernel
theorem dL_law_2446 : decode cL_law 2446 = .ok (.iaload, 1) := by decide +kernel
theorem dL_law_2447 : decode cL_law 2447 = .ok (.ifCond .eq 7, 3) := by decide +kernel
theorem dL_law_2450 : decode cL_law 2450 = .ok (.iconst 1, 1) := by decide +kernel
theorem dL_law_2451 : decode cL_law 2451 = .ok (.goto 4, 3) := by decide +kernel
theorem dL_law_2454 : decode cL_law 2454 = .ok (.iconst 0, 1) := by decide +kernel
theorem dL_law_2455 : decode cL_law 2455 = .ok (.aload_n 3, 1) := by decide +kernel
theorem dL_law_2456 : decode cL_law 2456 = .ok (.invokestatic 240, 3) := by decide +kernel
theorem dL_law_2459 : decode cL_law 2459 = .ok (.istore 6, 2) := by decide +kernel
theorem dL_law_2461 : decode cL_law 2461 = .ok (.aload_n 2, 1) := by decide +kernel
theorem dL_law_2462 : decode cL_law 2462 = .ok (.aload_n 0, 1) := by decide +kernel
theorem dL_law_2463 : decode cL_law 2463 = .ok (.iload 5, 2) := by decide +kernel
theorem dL_law_2465 : decode cL_law 2465 = .ok (.iconst 1, 1) := by decide +kernel
theorem dL_law_2466 : decode cL_law 2466 = .ok (.iadd, 1) := by decide +kernel
theorem dL_law_2467 : decode cL_law 2467 = .ok (.iaload, 1) := by decide +kernel
theorem dL_law_2468 : decode cL_law 2468 = .ok (.aload_n 0, 1) := by decide +kernel
theorem dL_law_2469 : decode cL_law 2469 = .ok (.iload 5, 2) := by decide +kernel
theorem dL_law_2471 : decode cL_law 2471 = .ok (.iconst 2, 1) := by decide +kernel
theorem dL_law_2472 : decode cL_law 2472 = .ok (.iadd, 1) := by decide +kernel
theorem dL_law_2473 : decode cL_law 2473 = .ok (.iaload, 1) := by decide +kernel
theorem dL_law_2474 : decode cL_law 2474 = .ok (.ifCond .eq 7, 3) := by decide +kernel
theorem dL_law_2477 : decode cL_law 2477 = .ok (.iconst 1, 1) := by decide +kernel
theorem dL_law_2478 : decode cL_law 2478 = .ok (.goto 4, 3) := by decide +kernel
theorem dL_law_2481 : decode cL_law 2481 = .ok (.iconst 0, 1) := by decide +kernel
theorem dL_law_2482 : decode cL_law 2482 = .ok (.invokevirtual 242, 3) := by decide +kernel
theorem dL_law_2485 : decode cL_law 2485 = .ok (.istore 7, 2) := by decide +kernel
theorem dL_law_2487 : decode cL_law 2487 = .ok (.aload_n 2, 1) := by decide +kernel
theorem dL_law_2488 : decode cL_law 2488 = .ok (.invokevirtual 142, 3) := by decide +kernel
theorem dL_law_2491 : decode cL_law 2491 = .ok (.iload 6, 2) := by decide +kernel
theorem dL_law_2493 : decode cL_law 2493 = .ok (.if_icmp .eq 5, 3) := by decide +kernel
theorem dL_law_2496 : decode cL_law 2496 = .ok (.iconst 0, 1) := by decide +kernel
theorem dL_law_2497 : decode cL_law 2497 = .ok (.ireturn, 1) := by decide +kernel
theorem dL_law_2498 : decode cL_law 2498 = .ok (.iload 6, 2) := by decide +kernel
theorem dL_law_2500 : decode cL_law 2500 = .ok (.ifCond .ne 15, 3) := by decide +kernel
theorem dL_law_2503 : decode cL_law 2503 = .ok (.aload_n 3, 1) := by decide +kernel
theorem dL_law_2504 : decode cL_law 2504 = .ok (.iconst 0, 1) := by decide +kernel
theorem dL_law_2505 : decode cL_law 2505 = .ok (.laload, 1) := by decide +kernel
theorem dL_law_2506 : decode cL_law 2506 = .ok (.iload 7, 2) := by decide +kernel
theorem dL_law_2508 : decode cL_law 2508 = .ok (.i2l, 1) := by decide +kernel
theorem dL_law_2509 : decode cL_law 2509 = .ok (.lcmp, 1) := by decide +kernel
theorem dL_law_2510 : decode cL_law 2510 = .ok (.ifCond .eq 5, 3) := by decide +kernel
theorem dL_law_2513 : decode cL_law 2513 = .ok (.iconst 0, 1) := by decide +kernel
theorem dL_law_2514 : decode cL_law 2514 = .ok (.ireturn, 1) := by decide +kernel
theorem dL_law_2515 : decode cL_law 2515 = .ok (.goto 240, 3) := by decide +kernel
theorem dL_law_2518 : decode cL_law 2518 = .ok (.aload_n 1, 1) := by decide +kernel
theorem dL_law_2519 : decode cL_law 2519 = .ok (.aload_n 0, 1) := by decide +kernel
theorem dL_law_2520 : decode cL_law 2520 = .ok (.iload 5, 2) := by decide +kernel
theorem dL_law_2522 : decode cL_law 2522 = .ok (.iconst 1, 1) := by decide +kernel
theorem dL_law_2523 : decode cL_law 2523 = .ok (.iadd, 1) := by decide +kernel
theorem dL_law_2524 : decode cL_law 2524 = .ok (.iaload, 1) := by decide +kernel
theorem dL_law_2525 : decode cL_law 2525 = .ok (.aload_n 3, 1) := by decide +kernel
theorem dL_law_2526 : decode cL_law 2526 = .ok (.invokestatic 243, 3) := by decide +kernel
theorem dL_law_2529 : decode cL_law 2529 = .ok (.istore 6, 2) := by decide +kernel
theorem dL_law_2531 : decode cL_law 2531 = .ok (.aload_n 2, 1) := by decide +kernel
theorem dL_law_2532 : decode cL_law 2532 = .ok (.aload_n 0, 1) := by decide +kernel
theorem dL_law_2533 : decode cL_law 2533 = .ok (.iload 5, 2) := by decide +kernel
theorem dL_law_2535 : decode cL_law 2535 = .ok (.iconst 1, 1) := by decide +kernel
theorem dL_law_2536 : decode cL_law 2536 = .ok (.iadd, 1) := by decide +kernel
theorem dL_law_2537 : decode cL_law 2537 = .ok (.iaload, 1) := by decide +kernel
theorem dL_law_2538 : decode cL_law 2538 = .ok (.invokevirtual 245, 3) := by decide +kernel
theorem dL_law_2541 : decode cL_law 2541 = .ok (.istore 7, 2) := by decide +kernel
theorem dL_law_2543 : decode cL_law 2543 = .ok (.aload_n 2, 1) := by decide +kernel
theorem dL_law_2544 : decode cL_law 2544 = .ok (.invokevirtual 142, 3) := by decide +kernel
theorem dL_law_2547 : decode cL_law 2547 = .ok (.iload 6, 2) := by decide +kernel
theorem dL_law_2549 : decode cL_law 2549 = .ok (.if_icmp .eq 5, 3) := by decide +kernel
theorem dL_law_2552 : decode cL_law 2552 = .ok (.iconst 0, 1) := by decide +kernel
theorem dL_law_2553 : decode cL_law 2553 = .ok (.ireturn, 1) := by decide +kernel
theorem dL_law_2554 : decode cL_law 2554 = .ok (.iload 6, 2) := by decide +kernel
theorem dL_law_2556 : decode cL_law 2556 = .ok (.ifCond .ne 15, 3) := by decide +kernel
theorem dL_law_2559 : decode cL_law 2559 = .ok (.aload_n 3, 1) := by decide +kernel
theorem dL_law_2560 : decode cL_law 2560 = .ok (.iconst 0, 1) := by decide +kernel
theorem dL_law_2561 : decode cL_law 2561 = .ok (.laload, 1) := by decide +kernel
theorem dL_law_2562 : decode cL_law 2562 = .ok (.iload 7, 2) := by decide +kernel
theorem dL_law_2564 : decode cL_law 2564 = .ok (.i2l, 1) := by decide +kernel
theorem dL_law_2565 : decode cL_law 2565 = .ok (.lcmp, 1) := by decide +kernel
theorem dL_law_2566 : decode cL_law 2566 = .ok (.ifCond .eq 5, 3) := by decide +kernel
theorem dL_law_2569 : decode cL_law 2569 = .ok (.iconst 0, 1) := by decide +kernel
theorem dL_law_2570 : decode cL_law 2570 = .ok (.ireturn, 1) := by decide +kernel
theorem dL_law_2571 : decode cL_law 2571 = .ok (.goto 184, 3) := by decide +kernel
theorem dL_law_2574 : decode cL_law 2574 = .ok (.aload_n 1, 1) := by decide +kernel
theorem dL_law_2575 : decode cL_law 2575 = .ok (.invokevirtual 246, 3) := by decide +kernel
theorem dL_law_2578 : decode cL_law 2578 = .ok (.aload_n 2, 1) := by decide +kernel
theorem dL_law_2579 : decode cL_law 2579 = .ok (.invokevirtual 249, 3) := by decide +kernel
theorem dL_law_2582 : decode cL_law 2582 = .ok (.if_icmp .eq 173, 3) := by decide +kernel
theorem dL_law_2585 : decode cL_law 2585 = .ok (.iconst 0, 1) := by decide +kernel
theorem dL_law_2586 : decode cL_law 2586 = .ok (.ireturn, 1) := by decide +kernel
theorem dL_law_2587 : decode cL_law 2587 = .ok (.aload_n 1, 1) := by decide +kernel
theorem dL_law_2588 : decode cL_law 2588 = .ok (.aload_n 0, 1) := by decide +kernel
theorem dL_law_2589 : decode cL_law 2589 = .ok (.iload 5, 2) := by decide +kernel
theorem dL_law_2591 : decode cL_law 2591 = .ok (.iconst 1, 1) := by decide +kernel
theorem dL_law_2592 : decode cL_law 2592 = .ok (.iadd, 1) := by decide +kernel
theorem dL_law_2593 : decode cL_law 2593 = .ok (.iaload, 1) := by decide +kernel
theorem dL_law_2594 : decode cL_law 2594 = .ok (.aload 4, 2) := by decide +kernel
theorem dL_law_2596 : decode cL_law 2596 = .ok (.invokestatic 250, 3) := by decide +kernel
theorem dL_law_2599 : decode cL_law 2599 = .ok (.istore 6, 2) := by decide +kernel
theorem dL_law_2601 : decode cL_law 2601 = .ok (.aload_n 2, 1) := by decide +kernel
theorem dL_law_2602 : decode cL_law 2602 = .ok (.aload_n 0, 1) := by decide +kernel
theorem dL_law_2603 : decode cL_law 2603 = .ok (.iload 5, 2) := by decide +kernel
theorem dL_law_2605 : decode cL_law 2605 = .ok (.iconst 1, 1) := by decide +kernel
theorem dL_law_2606 : decode cL_law 2606 = .ok (.iadd, 1) := by decide +kernel
theorem dL_law_2607 : decode cL_law 2607 = .ok (.iaload, 1) := by decide +kernel
theorem dL_law_2608 : decode cL_law 2608 = .ok (.invokevirtual 253, 3) := by decide +kernel
theorem dL_law_2611 : decode cL_law 2611 = .ok (.dstore 7, 2) := by decide +kernel
theorem dL_law_2613 : decode cL_law 2613 = .ok (.aload_n 2, 1) := by decide +kernel
theorem dL_law_2614 : decode cL_law 2614 = .ok (.invokevirtual 142, 3) := by decide +kernel
theorem dL_law_2617 : decode cL_law 2617 = .ok (.iload 6, 2) := by decide +kernel
theorem dL_law_2619 : decode cL_law 2619 = .ok (.if_icmp .eq 5, 3) := by decide +kernel
theorem dL_law_2622 : decode cL_law 2622 = .ok (.iconst 0, 1) := by decide +kernel
theorem dL_law_2623 : decode cL_law 2623 = .ok (.ireturn, 1) := by decide +kernel
theorem dL_law_2624 : decode cL_law 2624 = .ok (.iload 6, 2) := by decide +kernel
theorem dL_law_2626 : decode cL_law 2626 = .ok (.ifCond .ne 35, 3) := by decide +kernel
theorem dL_law_2629 : decode cL_law 2629 = .ok (.aload 4, 2) := by decide +kernel
theorem dL_law_2631 : decode cL_law 2631 = .ok (.iconst 0, 1) := by decide +kernel
theorem dL_law_2632 : decode cL_law 2632 = .ok (.daload, 1) := by decide +kernel
theorem dL_law_2633 : decode cL_law 2633 = .ok (.dload 7, 2) := by decide +kernel
theorem dL_law_2635 : decode cL_law 2635 = .ok (.dcmp .l, 1) := by decide +kernel
theorem dL_law_2636 : decode cL_law 2636 = .ok (.ifCond .eq 25, 3) := by decide +kernel
theorem dL_law_2639 : decode cL_law 2639 = .ok (.aload 4, 2) := by decide +kernel
theorem dL_law_2641 : decode cL_law 2641 = .ok (.iconst 0, 1) := by decide +kernel
theorem dL_law_2642 : decode cL_law 2642 = .ok (.daload, 1) := by decide +kernel
theorem dL_law_2643 : decode cL_law 2643 = .ok (.aload 4, 2) := by decide +kernel
theorem dL_law_2645 : decode cL_law 2645 = .ok (.iconst 0, 1) := by decide +kernel
theorem dL_law_2646 : decode cL_law 2646 = .ok (.daload, 1) := by decide +kernel
theorem dL_law_2647 : decode cL_law 2647 = .ok (.dcmp .l, 1) := by decide +kernel
theorem dL_law_2648 : decode cL_law 2648 = .ok (.ifCond .eq 11, 3) := by decide +kernel
theorem dL_law_2651 : decode cL_law 2651 = .ok (.dload 7, 2) := by decide +kernel
theorem dL_law_2653 : decode cL_law 2653 = .ok (.dload 7, 2) := by decide +kernel
theorem dL_law_2655 : decode cL_law 2655 = .ok (.dcmp .l, 1) := by decide +kernel
theorem dL_law_2656 : decode cL_law 2656 = .ok (.ifCond .ne 5, 3) := by decide +kernel
theorem dL_law_2659 : decode cL_law 2659 = .ok (.iconst 0, 1) := by decide +kernel
theorem dL_law_2660 : decode cL_law 2660 = .ok (.ireturn, 1) := by decide +kernel
theorem dL_law_2661 : decode cL_law 2661 = .ok (.goto 94, 3) := by decide +kernel
theorem dL_law_2664 : decode cL_law 2664 = .ok (.aload_n 1, 1) := by decide +kernel
theorem dL_law_2665 : decode cL_law 2665 = .ok (.aload_n 0, 1) := by decide +kernel
theorem dL_law_2666 : decode cL_law 2666 = .ok (.iload 5, 2) := by decide +kernel
theorem dL_law_2668 : decode cL_law 2668 = .ok (.iconst 1, 1) := by decide +kernel
theorem dL_law_2669 : decode cL_law 2669 = .ok (.iadd, 1) := by decide +kernel
theorem dL_law_2670 : decode cL_law 2670 = .ok (.iaload, 1) := by decide +kernel
theorem dL_law_2671 : decode cL_law 2671 = .ok (.aload 4, 2) := by decide +kernel
theorem dL_law_2673 : decode cL_law 2673 = .ok (.invokestatic 254, 3) := by decide +kernel
theorem dL_law_2676 : decode cL_law 2676 = .ok (.istore 6, 2) := by decide +kernel
theorem dL_law_2678 : decode cL_law 2678 = .ok (.aload_n 2, 1) := by decide +kernel
theorem dL_law_2679 : decode cL_law 2679 = .ok (.aload_n 0, 1) := by decide +kernel
theorem dL_law_2680 : decode cL_law 2680 = .ok (.iload 5, 2) := by decide +kernel
theorem dL_law_2682 : decode cL_law 2682 = .ok (.iconst 1, 1) := by decide +kernel
theorem dL_law_2683 : decode cL_law 2683 = .ok (.iadd, 1) := by decide +kernel
theorem dL_law_2684 : decode cL_law 2684 = .ok (.iaload, 1) := by decide +kernel
theorem dL_law_2685 : decode cL_law 2685 = .ok (.invokevirtual 256, 3) := by decide +kernel
theorem dL_law_2688 : decode cL_law 2688 = .ok (.fstore 7, 2) := by decide +kernel
theorem dL_law_2690 : decode cL_law 2690 = .ok (.aload_n 2, 1) := by decide +kernel
theorem dL_law_2691 : decode cL_law 2691 = .ok (.invokevirtual 142, 3) := by decide +kernel
theorem dL_law_2694 : decode cL_law 2694 = .ok (.iload 6, 2) := by decide +kernel
theorem dL_law_2696 : decode cL_law 2696 = .ok (.if_icmp .eq 5, 3) := by decide +kernel
theorem dL_law_2699 : decode cL_law 2699 = .ok (.iconst 0, 1) := by decide +kernel
theorem dL_law_2700 : decode cL_law 2700 = .ok (.ireturn, 1) := by decide +kernel
theorem dL_law_2701 : decode cL_law 2701 = .ok (.iload 6, 2) := by decide +kernel
theorem dL_law_2703 : decode cL_law 2703 = .ok (.ifCond .ne 36, 3) := by decide +kernel
theorem dL_law_2706 : decode cL_law 2706 = .ok (.aload 4, 2) := by decide +kernel
theorem dL_law_2708 : decode cL_law 2708 = .ok (.iconst 0, 1) := by decide +kernel
theorem dL_law_2709 : decode cL_law 2709 = .ok (.daload, 1) := by decide +kernel
theorem dL_law_2710 : decode cL_law 2710 = .ok (.fload 7, 2) := by decide +kernel
theorem dL_law_2712 : decode cL_law 2712 = .ok (.f2d, 1) := by decide +kernel
theorem dL_law_2713 : decode cL_law 2713 = .ok (.dcmp .l, 1) := by decide +kernel
theorem dL_law_2714 : decode cL_law 2714 = .ok (.ifCond .eq 25, 3) := by decide +kernel
theorem dL_law_2717 : decode cL_law 2717 = .ok (.aload 4, 2) := by decide +kernel
theorem dL_law_2719 : decode cL_law 2719 = .ok (.iconst 0, 1) := by decide +kernel
theorem dL_law_2720 : decode cL_law 2720 = .ok (.daload, 1) := by decide +kernel
theorem dL_law_2721 : decode cL_law 2721 = .ok (.aload 4, 2) := by decide +kernel
theorem dL_law_2723 : decode cL_law 2723 = .ok (.iconst 0, 1) := by decide +kernel
theorem dL_law_2724 : decode cL_law 2724 = .ok (.daload, 1) := by decide +kernel
theorem dL_law_2725 : decode cL_law 2725 = .ok (.dcmp .l, 1) := by decide +kernel
theorem dL_law_2726 : decode cL_law 2726 = .ok (.ifCond .eq 11, 3) := by decide +kernel
theorem dL_law_2729 : decode cL_law 2729 = .ok (.fload 7, 2) := by decide +kernel
theorem dL_law_2731 : decode cL_law 2731 = .ok (.fload 7, 2) := by decide +kernel
theorem dL_law_2733 : decode cL_law 2733 = .ok (.fcmp .l, 1) := by decide +kernel
theorem dL_law_2734 : decode cL_law 2734 = .ok (.ifCond .ne 5, 3) := by decide +kernel
theorem dL_law_2737 : decode cL_law 2737 = .ok (.iconst 0, 1) := by decide +kernel
theorem dL_law_2738 : decode cL_law 2738 = .ok (.ireturn, 1) := by decide +kernel
theorem dL_law_2739 : decode cL_law 2739 = .ok (.goto 16, 3) := by decide +kernel
theorem dL_law_2742 : decode cL_law 2742 = .ok (.aload_n 1, 1) := by decide +kernel
theorem dL_law_2743 : decode cL_law 2743 = .ok (.invokevirtual 257, 3) := by decide +kernel
theorem dL_law_2746 : decode cL_law 2746 = .ok (.aload_n 2, 1) := by decide +kernel
theorem dL_law_2747 : decode cL_law 2747 = .ok (.invokevirtual 260, 3) := by decide +kernel
theorem dL_law_2750 : decode cL_law 2750 = .ok (.if_icmp .eq 5, 3) := by decide +kernel
theorem dL_law_2753 : decode cL_law 2753 = .ok (.iconst 0, 1) := by decide +kernel
theorem dL_law_2754 : decode cL_law 2754 = .ok (.ireturn, 1) := by decide +kernel
theorem dL_law_2755 : decode cL_law 2755 = .ok (.iinc 5 6, 3) := by decide +kernel
theorem dL_law_2758 : decode cL_law 2758 = .ok (.goto (-2730), 3) := by decide +kernel
theorem dL_law_2761 : decode cL_law 2761 = .ok (.iconst 1, 1) := by decide +kernel
theorem dL_law_2762 : decode cL_law 2762 = .ok (.ireturn, 1) := by decide +kernel
end
