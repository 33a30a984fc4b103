-- ===== PART A: goes FIRST, ahead of the names: the tables' words, and 'selects' of the private methods out of them =====
/-- a private method of a class that the tables say can be made, by its rows of tables_1 -/
def lw_okq (q : MethodName × Nat) : Prop := (q.1.cls ≠ "java/lang/invoke/MethodHandle" ∧ q.1.cls ≠ "java/lang/invoke/VarHandle") ∧ Cond.instantiable q.1.cls q.2 ∈ tables_1 ∧ Cond.privateMethod q.1 ∈ tables_1 ∧ Cond.instanceMethod q.1 ∈ tables_1
theorem lw_p0 : lw_okq (⟨"RaftForest$RiverReader", "isTooMany", "(II)Z"⟩, 3) := ⟨⟨by decide +kernel, by decide +kernel⟩, List.mem_of_getElem? (i := 60) (by decide +kernel), List.mem_of_getElem? (i := 549) (by decide +kernel), List.mem_of_getElem? (i := 550) (by decide +kernel)⟩
theorem lw_p1 : lw_okq (⟨"RaftForest$RiverReader", "readsClause", "(I)Z"⟩, 3) := ⟨⟨by decide +kernel, by decide +kernel⟩, List.mem_of_getElem? (i := 60) (by decide +kernel), List.mem_of_getElem? (i := 554) (by decide +kernel), List.mem_of_getElem? (i := 555) (by decide +kernel)⟩
theorem lw_p2 : lw_okq (⟨"RaftForest$RiverReader", "readNumber", "(II)I"⟩, 3) := ⟨⟨by decide +kernel, by decide +kernel⟩, List.mem_of_getElem? (i := 60) (by decide +kernel), List.mem_of_getElem? (i := 558) (by decide +kernel), List.mem_of_getElem? (i := 559) (by decide +kernel)⟩
theorem lw_p3 : lw_okq (⟨"RaftForest$RuleReader", "readsSum", "(LRaftForest$Rule;)Z"⟩, 2) := ⟨⟨by decide +kernel, by decide +kernel⟩, List.mem_of_getElem? (i := 153) (by decide +kernel), List.mem_of_getElem? (i := 625) (by decide +kernel), List.mem_of_getElem? (i := 626) (by decide +kernel)⟩
theorem lw_p4 : lw_okq (⟨"RaftForest$RuleReader", "readsValue", "(LRaftForest$Rule;)Z"⟩, 2) := ⟨⟨by decide +kernel, by decide +kernel⟩, List.mem_of_getElem? (i := 153) (by decide +kernel), List.mem_of_getElem? (i := 629) (by decide +kernel), List.mem_of_getElem? (i := 630) (by decide +kernel)⟩
theorem lw_p5 : lw_okq (⟨"RaftForest$RuleReader", "readsTest", "(LRaftForest$Rule;I)Z"⟩, 2) := ⟨⟨by decide +kernel, by decide +kernel⟩, List.mem_of_getElem? (i := 153) (by decide +kernel), List.mem_of_getElem? (i := 643) (by decide +kernel), List.mem_of_getElem? (i := 644) (by decide +kernel)⟩
theorem lw_p6 : lw_okq (⟨"RaftForest$RuleReader", "readsFact", "(LRaftForest$Rule;I)Z"⟩, 2) := ⟨⟨by decide +kernel, by decide +kernel⟩, List.mem_of_getElem? (i := 153) (by decide +kernel), List.mem_of_getElem? (i := 647) (by decide +kernel), List.mem_of_getElem? (i := 648) (by decide +kernel)⟩
theorem lw_p7 : lw_okq (⟨"RaftForest$RuleReader", "readSign", "()I"⟩, 2) := ⟨⟨by decide +kernel, by decide +kernel⟩, List.mem_of_getElem? (i := 153) (by decide +kernel), List.mem_of_getElem? (i := 652) (by decide +kernel), List.mem_of_getElem? (i := 653) (by decide +kernel)⟩
theorem lw_p8 : lw_okq (⟨"RaftForest", "hasRiver", "()Z"⟩, 12) := ⟨⟨by decide +kernel, by decide +kernel⟩, List.mem_of_getElem? (i := 21) (by decide +kernel), List.mem_of_getElem? (i := 670) (by decide +kernel), List.mem_of_getElem? (i := 671) (by decide +kernel)⟩
theorem lw_p9 : lw_okq (⟨"RaftForest", "isRuleOrNone", "(I)Z"⟩, 12) := ⟨⟨by decide +kernel, by decide +kernel⟩, List.mem_of_getElem? (i := 21) (by decide +kernel), List.mem_of_getElem? (i := 674) (by decide +kernel), List.mem_of_getElem? (i := 675) (by decide +kernel)⟩
theorem lw_p10 : lw_okq (⟨"RaftForest", "isRule", "(I)Z"⟩, 12) := ⟨⟨by decide +kernel, by decide +kernel⟩, List.mem_of_getElem? (i := 21) (by decide +kernel), List.mem_of_getElem? (i := 678) (by decide +kernel), List.mem_of_getElem? (i := 679) (by decide +kernel)⟩
theorem lw_p11 : lw_okq (⟨"RaftForest", "isVillage", "(I)Z"⟩, 12) := ⟨⟨by decide +kernel, by decide +kernel⟩, List.mem_of_getElem? (i := 21) (by decide +kernel), List.mem_of_getElem? (i := 686) (by decide +kernel), List.mem_of_getElem? (i := 687) (by decide +kernel)⟩
theorem lw_p12 : lw_okq (⟨"RaftForest", "isBend", "(I)Z"⟩, 12) := ⟨⟨by decide +kernel, by decide +kernel⟩, List.mem_of_getElem? (i := 21) (by decide +kernel), List.mem_of_getElem? (i := 698) (by decide +kernel), List.mem_of_getElem? (i := 699) (by decide +kernel)⟩
theorem lw_p13 : lw_okq (⟨"RaftForest$World", "notchesOf", "(II)I"⟩, 9) := ⟨⟨by decide +kernel, by decide +kernel⟩, List.mem_of_getElem? (i := 194) (by decide +kernel), List.mem_of_getElem? (i := 741) (by decide +kernel), List.mem_of_getElem? (i := 742) (by decide +kernel)⟩
theorem lw_p14 : lw_okq (⟨"RaftForest$World", "tellWords", "(IIII)V"⟩, 9) := ⟨⟨by decide +kernel, by decide +kernel⟩, List.mem_of_getElem? (i := 194) (by decide +kernel), List.mem_of_getElem? (i := 745) (by decide +kernel), List.mem_of_getElem? (i := 746) (by decide +kernel)⟩
theorem lw_p15 : lw_okq (⟨"RaftForest", "isLog", "(I)Z"⟩, 12) := ⟨⟨by decide +kernel, by decide +kernel⟩, List.mem_of_getElem? (i := 21) (by decide +kernel), List.mem_of_getElem? (i := 770) (by decide +kernel), List.mem_of_getElem? (i := 771) (by decide +kernel)⟩
def lw_privs_1 : List (MethodName × Nat) := [(⟨"RaftForest$RiverReader", "isTooMany", "(II)Z"⟩, 3), (⟨"RaftForest$RiverReader", "readsClause", "(I)Z"⟩, 3), (⟨"RaftForest$RiverReader", "readNumber", "(II)I"⟩, 3), (⟨"RaftForest$RuleReader", "readsSum", "(LRaftForest$Rule;)Z"⟩, 2), (⟨"RaftForest$RuleReader", "readsValue", "(LRaftForest$Rule;)Z"⟩, 2), (⟨"RaftForest$RuleReader", "readsTest", "(LRaftForest$Rule;I)Z"⟩, 2), (⟨"RaftForest$RuleReader", "readsFact", "(LRaftForest$Rule;I)Z"⟩, 2), (⟨"RaftForest$RuleReader", "readSign", "()I"⟩, 2), (⟨"RaftForest", "hasRiver", "()Z"⟩, 12), (⟨"RaftForest", "isRuleOrNone", "(I)Z"⟩, 12), (⟨"RaftForest", "isRule", "(I)Z"⟩, 12), (⟨"RaftForest", "isVillage", "(I)Z"⟩, 12), (⟨"RaftForest", "isBend", "(I)Z"⟩, 12), (⟨"RaftForest$World", "notchesOf", "(II)I"⟩, 9), (⟨"RaftForest$World", "tellWords", "(IIII)V"⟩, 9), (⟨"RaftForest", "isLog", "(I)Z"⟩, 12)]
theorem lw_r1 : ∀ q ∈ lw_privs_1, lw_okq q := List.forall_mem_cons.mpr ⟨lw_p0, List.forall_mem_cons.mpr ⟨lw_p1, List.forall_mem_cons.mpr ⟨lw_p2, List.forall_mem_cons.mpr ⟨lw_p3, List.forall_mem_cons.mpr ⟨lw_p4, List.forall_mem_cons.mpr ⟨lw_p5, List.forall_mem_cons.mpr ⟨lw_p6, List.forall_mem_cons.mpr ⟨lw_p7, List.forall_mem_cons.mpr ⟨lw_p8, List.forall_mem_cons.mpr ⟨lw_p9, List.forall_mem_cons.mpr ⟨lw_p10, List.forall_mem_cons.mpr ⟨lw_p11, List.forall_mem_cons.mpr ⟨lw_p12, List.forall_mem_cons.mpr ⟨lw_p13, List.forall_mem_cons.mpr ⟨lw_p14, List.forall_mem_cons.mpr ⟨lw_p15, fun _ h => absurd h List.not_mem_nil⟩⟩⟩⟩⟩⟩⟩⟩⟩⟩⟩⟩⟩⟩⟩⟩
theorem lw_p16 : lw_okq (⟨"RaftForest$World", "ownersBetween", "(II)I"⟩, 9) := ⟨⟨by decide +kernel, by decide +kernel⟩, List.mem_of_getElem? (i := 194) (by decide +kernel), List.mem_of_getElem? (i := 859) (by decide +kernel), List.mem_of_getElem? (i := 860) (by decide +kernel)⟩
theorem lw_p17 : lw_okq (⟨"RaftForest$World", "asks", "(IIII)Z"⟩, 9) := ⟨⟨by decide +kernel, by decide +kernel⟩, List.mem_of_getElem? (i := 194) (by decide +kernel), List.mem_of_getElem? (i := 882) (by decide +kernel), List.mem_of_getElem? (i := 883) (by decide +kernel)⟩
theorem lw_p18 : lw_okq (⟨"RaftForest$World", "roomFor", "(III)I"⟩, 9) := ⟨⟨by decide +kernel, by decide +kernel⟩, List.mem_of_getElem? (i := 194) (by decide +kernel), List.mem_of_getElem? (i := 894) (by decide +kernel), List.mem_of_getElem? (i := 895) (by decide +kernel)⟩
theorem lw_p19 : lw_okq (⟨"RaftForest$World", "goesAhead", "(II)Z"⟩, 9) := ⟨⟨by decide +kernel, by decide +kernel⟩, List.mem_of_getElem? (i := 194) (by decide +kernel), List.mem_of_getElem? (i := 903) (by decide +kernel), List.mem_of_getElem? (i := 904) (by decide +kernel)⟩
theorem lw_p20 : lw_okq (⟨"RaftForest$World", "passLog", "(I)V"⟩, 9) := ⟨⟨by decide +kernel, by decide +kernel⟩, List.mem_of_getElem? (i := 194) (by decide +kernel), List.mem_of_getElem? (i := 940) (by decide +kernel), List.mem_of_getElem? (i := 941) (by decide +kernel)⟩
theorem lw_p21 : lw_okq (⟨"RaftForest$World", "jam", "(I)V"⟩, 9) := ⟨⟨by decide +kernel, by decide +kernel⟩, List.mem_of_getElem? (i := 194) (by decide +kernel), List.mem_of_getElem? (i := 944) (by decide +kernel), List.mem_of_getElem? (i := 945) (by decide +kernel)⟩
theorem lw_p22 : lw_okq (⟨"RaftForest$World", "sell", "(I)V"⟩, 9) := ⟨⟨by decide +kernel, by decide +kernel⟩, List.mem_of_getElem? (i := 194) (by decide +kernel), List.mem_of_getElem? (i := 948) (by decide +kernel), List.mem_of_getElem? (i := 949) (by decide +kernel)⟩
theorem lw_p23 : lw_okq (⟨"RaftForest$World", "passVillage", "(II)V"⟩, 9) := ⟨⟨by decide +kernel, by decide +kernel⟩, List.mem_of_getElem? (i := 194) (by decide +kernel), List.mem_of_getElem? (i := 953) (by decide +kernel), List.mem_of_getElem? (i := 954) (by decide +kernel)⟩
theorem lw_p24 : lw_okq (⟨"RaftForest$World", "take", "(II)V"⟩, 9) := ⟨⟨by decide +kernel, by decide +kernel⟩, List.mem_of_getElem? (i := 194) (by decide +kernel), List.mem_of_getElem? (i := 957) (by decide +kernel), List.mem_of_getElem? (i := 958) (by decide +kernel)⟩
theorem lw_p25 : lw_okq (⟨"RaftForest", "takeRow", "()I"⟩, 12) := ⟨⟨by decide +kernel, by decide +kernel⟩, List.mem_of_getElem? (i := 21) (by decide +kernel), List.mem_of_getElem? (i := 975) (by decide +kernel), List.mem_of_getElem? (i := 976) (by decide +kernel)⟩
theorem lw_p26 : lw_okq (⟨"RaftForest", "areKept", "(III)Z"⟩, 12) := ⟨⟨by decide +kernel, by decide +kernel⟩, List.mem_of_getElem? (i := 21) (by decide +kernel), List.mem_of_getElem? (i := 1018) (by decide +kernel), List.mem_of_getElem? (i := 1019) (by decide +kernel)⟩
theorem lw_p27 : lw_okq (⟨"RaftForest", "countKept", "(I)I"⟩, 12) := ⟨⟨by decide +kernel, by decide +kernel⟩, List.mem_of_getElem? (i := 21) (by decide +kernel), List.mem_of_getElem? (i := 1100) (by decide +kernel), List.mem_of_getElem? (i := 1101) (by decide +kernel)⟩
theorem lw_p28 : lw_okq (⟨"RaftForestModel", "put", "(I)V"⟩, 80) := ⟨⟨by decide +kernel, by decide +kernel⟩, List.mem_of_getElem? (i := 1131) (by decide +kernel), List.mem_of_getElem? (i := 1382) (by decide +kernel), List.mem_of_getElem? (i := 1383) (by decide +kernel)⟩
theorem lw_p29 : lw_okq (⟨"RaftForestModel", "starts", "()V"⟩, 80) := ⟨⟨by decide +kernel, by decide +kernel⟩, List.mem_of_getElem? (i := 1131) (by decide +kernel), List.mem_of_getElem? (i := 1394) (by decide +kernel), List.mem_of_getElem? (i := 1395) (by decide +kernel)⟩
theorem lw_p30 : lw_okq (⟨"RaftForestModel", "riverClause", "(I)V"⟩, 80) := ⟨⟨by decide +kernel, by decide +kernel⟩, List.mem_of_getElem? (i := 1131) (by decide +kernel), List.mem_of_getElem? (i := 1398) (by decide +kernel), List.mem_of_getElem? (i := 1399) (by decide +kernel)⟩
theorem lw_p31 : lw_okq (⟨"RaftForestModel", "blanks", "()V"⟩, 80) := ⟨⟨by decide +kernel, by decide +kernel⟩, List.mem_of_getElem? (i := 1131) (by decide +kernel), List.mem_of_getElem? (i := 1402) (by decide +kernel), List.mem_of_getElem? (i := 1403) (by decide +kernel)⟩
def lw_privs_2 : List (MethodName × Nat) := [(⟨"RaftForest$World", "ownersBetween", "(II)I"⟩, 9), (⟨"RaftForest$World", "asks", "(IIII)Z"⟩, 9), (⟨"RaftForest$World", "roomFor", "(III)I"⟩, 9), (⟨"RaftForest$World", "goesAhead", "(II)Z"⟩, 9), (⟨"RaftForest$World", "passLog", "(I)V"⟩, 9), (⟨"RaftForest$World", "jam", "(I)V"⟩, 9), (⟨"RaftForest$World", "sell", "(I)V"⟩, 9), (⟨"RaftForest$World", "passVillage", "(II)V"⟩, 9), (⟨"RaftForest$World", "take", "(II)V"⟩, 9), (⟨"RaftForest", "takeRow", "()I"⟩, 12), (⟨"RaftForest", "areKept", "(III)Z"⟩, 12), (⟨"RaftForest", "countKept", "(I)I"⟩, 12), (⟨"RaftForestModel", "put", "(I)V"⟩, 80), (⟨"RaftForestModel", "starts", "()V"⟩, 80), (⟨"RaftForestModel", "riverClause", "(I)V"⟩, 80), (⟨"RaftForestModel", "blanks", "()V"⟩, 80)]
theorem lw_r2 : ∀ q ∈ lw_privs_2, lw_okq q := List.forall_mem_cons.mpr ⟨lw_p16, List.forall_mem_cons.mpr ⟨lw_p17, List.forall_mem_cons.mpr ⟨lw_p18, List.forall_mem_cons.mpr ⟨lw_p19, List.forall_mem_cons.mpr ⟨lw_p20, List.forall_mem_cons.mpr ⟨lw_p21, List.forall_mem_cons.mpr ⟨lw_p22, List.forall_mem_cons.mpr ⟨lw_p23, List.forall_mem_cons.mpr ⟨lw_p24, List.forall_mem_cons.mpr ⟨lw_p25, List.forall_mem_cons.mpr ⟨lw_p26, List.forall_mem_cons.mpr ⟨lw_p27, List.forall_mem_cons.mpr ⟨lw_p28, List.forall_mem_cons.mpr ⟨lw_p29, List.forall_mem_cons.mpr ⟨lw_p30, List.forall_mem_cons.mpr ⟨lw_p31, fun _ h => absurd h List.not_mem_nil⟩⟩⟩⟩⟩⟩⟩⟩⟩⟩⟩⟩⟩⟩⟩⟩
theorem lw_p32 : lw_okq (⟨"RaftForestModel", "sign", "()I"⟩, 80) := ⟨⟨by decide +kernel, by decide +kernel⟩, List.mem_of_getElem? (i := 1131) (by decide +kernel), List.mem_of_getElem? (i := 1406) (by decide +kernel), List.mem_of_getElem? (i := 1407) (by decide +kernel)⟩
theorem lw_p33 : lw_okq (⟨"RaftForestModel", "stood", "(Ljava/lang/String;)Z"⟩, 80) := ⟨⟨by decide +kernel, by decide +kernel⟩, List.mem_of_getElem? (i := 1131) (by decide +kernel), List.mem_of_getElem? (i := 1419) (by decide +kernel), List.mem_of_getElem? (i := 1420) (by decide +kernel)⟩
theorem lw_p34 : lw_okq (⟨"RaftForestModel", "fails", "(II)V"⟩, 80) := ⟨⟨by decide +kernel, by decide +kernel⟩, List.mem_of_getElem? (i := 1131) (by decide +kernel), List.mem_of_getElem? (i := 1425) (by decide +kernel), List.mem_of_getElem? (i := 1426) (by decide +kernel)⟩
theorem lw_p35 : lw_okq (⟨"RaftForestModel", "isFull", "(II)Z"⟩, 80) := ⟨⟨by decide +kernel, by decide +kernel⟩, List.mem_of_getElem? (i := 1131) (by decide +kernel), List.mem_of_getElem? (i := 1429) (by decide +kernel), List.mem_of_getElem? (i := 1430) (by decide +kernel)⟩
theorem lw_p36 : lw_okq (⟨"RaftForestModel", "riverPart", "(I)V"⟩, 80) := ⟨⟨by decide +kernel, by decide +kernel⟩, List.mem_of_getElem? (i := 1131) (by decide +kernel), List.mem_of_getElem? (i := 1433) (by decide +kernel), List.mem_of_getElem? (i := 1434) (by decide +kernel)⟩
theorem lw_p37 : lw_okq (⟨"RaftForestModel", "amount", "(II)I"⟩, 80) := ⟨⟨by decide +kernel, by decide +kernel⟩, List.mem_of_getElem? (i := 1131) (by decide +kernel), List.mem_of_getElem? (i := 1437) (by decide +kernel), List.mem_of_getElem? (i := 1438) (by decide +kernel)⟩
theorem lw_p38 : lw_okq (⟨"RaftForestModel", "digits", "(I)I"⟩, 80) := ⟨⟨by decide +kernel, by decide +kernel⟩, List.mem_of_getElem? (i := 1131) (by decide +kernel), List.mem_of_getElem? (i := 1442) (by decide +kernel), List.mem_of_getElem? (i := 1443) (by decide +kernel)⟩
theorem lw_p39 : lw_okq (⟨"RaftForestModel", "isDigit", "()Z"⟩, 80) := ⟨⟨by decide +kernel, by decide +kernel⟩, List.mem_of_getElem? (i := 1131) (by decide +kernel), List.mem_of_getElem? (i := 1446) (by decide +kernel), List.mem_of_getElem? (i := 1447) (by decide +kernel)⟩
theorem lw_p40 : lw_okq (⟨"RaftForestModel", "readsLog", "()V"⟩, 80) := ⟨⟨by decide +kernel, by decide +kernel⟩, List.mem_of_getElem? (i := 1131) (by decide +kernel), List.mem_of_getElem? (i := 1455) (by decide +kernel), List.mem_of_getElem? (i := 1456) (by decide +kernel)⟩
theorem lw_p41 : lw_okq (⟨"RaftForestModel", "goesOn", "()Z"⟩, 80) := ⟨⟨by decide +kernel, by decide +kernel⟩, List.mem_of_getElem? (i := 1131) (by decide +kernel), List.mem_of_getElem? (i := 1459) (by decide +kernel), List.mem_of_getElem? (i := 1460) (by decide +kernel)⟩
theorem lw_p42 : lw_okq (⟨"RaftForestModel", "begins", "()V"⟩, 80) := ⟨⟨by decide +kernel, by decide +kernel⟩, List.mem_of_getElem? (i := 1131) (by decide +kernel), List.mem_of_getElem? (i := 1463) (by decide +kernel), List.mem_of_getElem? (i := 1464) (by decide +kernel)⟩
theorem lw_p43 : lw_okq (⟨"RaftForestModel", "ruleClause", "(I)V"⟩, 80) := ⟨⟨by decide +kernel, by decide +kernel⟩, List.mem_of_getElem? (i := 1131) (by decide +kernel), List.mem_of_getElem? (i := 1474) (by decide +kernel), List.mem_of_getElem? (i := 1475) (by decide +kernel)⟩
theorem lw_p44 : lw_okq (⟨"RaftForestModel", "sum", "()V"⟩, 80) := ⟨⟨by decide +kernel, by decide +kernel⟩, List.mem_of_getElem? (i := 1131) (by decide +kernel), List.mem_of_getElem? (i := 1486) (by decide +kernel), List.mem_of_getElem? (i := 1487) (by decide +kernel)⟩
theorem lw_p45 : lw_okq (⟨"RaftForestModel", "term", "()V"⟩, 80) := ⟨⟨by decide +kernel, by decide +kernel⟩, List.mem_of_getElem? (i := 1131) (by decide +kernel), List.mem_of_getElem? (i := 1490) (by decide +kernel), List.mem_of_getElem? (i := 1491) (by decide +kernel)⟩
theorem lw_p46 : lw_okq (⟨"RaftForestModel", "value", "()V"⟩, 80) := ⟨⟨by decide +kernel, by decide +kernel⟩, List.mem_of_getElem? (i := 1131) (by decide +kernel), List.mem_of_getElem? (i := 1494) (by decide +kernel), List.mem_of_getElem? (i := 1495) (by decide +kernel)⟩
theorem lw_p47 : lw_okq (⟨"RaftForestModel", "isCounted", "(I)V"⟩, 80) := ⟨⟨by decide +kernel, by decide +kernel⟩, List.mem_of_getElem? (i := 1131) (by decide +kernel), List.mem_of_getElem? (i := 1498) (by decide +kernel), List.mem_of_getElem? (i := 1499) (by decide +kernel)⟩
def lw_privs_3 : List (MethodName × Nat) := [(⟨"RaftForestModel", "sign", "()I"⟩, 80), (⟨"RaftForestModel", "stood", "(Ljava/lang/String;)Z"⟩, 80), (⟨"RaftForestModel", "fails", "(II)V"⟩, 80), (⟨"RaftForestModel", "isFull", "(II)Z"⟩, 80), (⟨"RaftForestModel", "riverPart", "(I)V"⟩, 80), (⟨"RaftForestModel", "amount", "(II)I"⟩, 80), (⟨"RaftForestModel", "digits", "(I)I"⟩, 80), (⟨"RaftForestModel", "isDigit", "()Z"⟩, 80), (⟨"RaftForestModel", "readsLog", "()V"⟩, 80), (⟨"RaftForestModel", "goesOn", "()Z"⟩, 80), (⟨"RaftForestModel", "begins", "()V"⟩, 80), (⟨"RaftForestModel", "ruleClause", "(I)V"⟩, 80), (⟨"RaftForestModel", "sum", "()V"⟩, 80), (⟨"RaftForestModel", "term", "()V"⟩, 80), (⟨"RaftForestModel", "value", "()V"⟩, 80), (⟨"RaftForestModel", "isCounted", "(I)V"⟩, 80)]
theorem lw_r3 : ∀ q ∈ lw_privs_3, lw_okq q := List.forall_mem_cons.mpr ⟨lw_p32, List.forall_mem_cons.mpr ⟨lw_p33, List.forall_mem_cons.mpr ⟨lw_p34, List.forall_mem_cons.mpr ⟨lw_p35, List.forall_mem_cons.mpr ⟨lw_p36, List.forall_mem_cons.mpr ⟨lw_p37, List.forall_mem_cons.mpr ⟨lw_p38, List.forall_mem_cons.mpr ⟨lw_p39, List.forall_mem_cons.mpr ⟨lw_p40, List.forall_mem_cons.mpr ⟨lw_p41, List.forall_mem_cons.mpr ⟨lw_p42, List.forall_mem_cons.mpr ⟨lw_p43, List.forall_mem_cons.mpr ⟨lw_p44, List.forall_mem_cons.mpr ⟨lw_p45, List.forall_mem_cons.mpr ⟨lw_p46, List.forall_mem_cons.mpr ⟨lw_p47, fun _ h => absurd h List.not_mem_nil⟩⟩⟩⟩⟩⟩⟩⟩⟩⟩⟩⟩⟩⟩⟩⟩
theorem lw_p48 : lw_okq (⟨"RaftForestModel", "entry", "(II)V"⟩, 80) := ⟨⟨by decide +kernel, by decide +kernel⟩, List.mem_of_getElem? (i := 1131) (by decide +kernel), List.mem_of_getElem? (i := 1502) (by decide +kernel), List.mem_of_getElem? (i := 1503) (by decide +kernel)⟩
theorem lw_p49 : lw_okq (⟨"RaftForestModel", "takes", "(Ljava/lang/String;)Z"⟩, 80) := ⟨⟨by decide +kernel, by decide +kernel⟩, List.mem_of_getElem? (i := 1131) (by decide +kernel), List.mem_of_getElem? (i := 1520) (by decide +kernel), List.mem_of_getElem? (i := 1521) (by decide +kernel)⟩
theorem lw_p50 : lw_okq (⟨"RaftForestModel", "test", "()V"⟩, 80) := ⟨⟨by decide +kernel, by decide +kernel⟩, List.mem_of_getElem? (i := 1131) (by decide +kernel), List.mem_of_getElem? (i := 1524) (by decide +kernel), List.mem_of_getElem? (i := 1525) (by decide +kernel)⟩
theorem lw_p51 : lw_okq (⟨"RaftForestModel", "fact", "()Z"⟩, 80) := ⟨⟨by decide +kernel, by decide +kernel⟩, List.mem_of_getElem? (i := 1131) (by decide +kernel), List.mem_of_getElem? (i := 1528) (by decide +kernel), List.mem_of_getElem? (i := 1529) (by decide +kernel)⟩
theorem lw_p52 : lw_okq (⟨"RaftForestModel", "opens", "(I)V"⟩, 80) := ⟨⟨by decide +kernel, by decide +kernel⟩, List.mem_of_getElem? (i := 1131) (by decide +kernel), List.mem_of_getElem? (i := 1533) (by decide +kernel), List.mem_of_getElem? (i := 1534) (by decide +kernel)⟩
theorem lw_p53 : lw_okq (⟨"RaftForestModel", "compared", "()V"⟩, 80) := ⟨⟨by decide +kernel, by decide +kernel⟩, List.mem_of_getElem? (i := 1131) (by decide +kernel), List.mem_of_getElem? (i := 1537) (by decide +kernel), List.mem_of_getElem? (i := 1538) (by decide +kernel)⟩
theorem lw_p54 : lw_okq (⟨"RaftForestModel", "answers", "(I)V"⟩, 80) := ⟨⟨by decide +kernel, by decide +kernel⟩, List.mem_of_getElem? (i := 1131) (by decide +kernel), List.mem_of_getElem? (i := 1541) (by decide +kernel), List.mem_of_getElem? (i := 1542) (by decide +kernel)⟩
theorem lw_p55 : lw_okq (⟨"RaftForestModel", "top", "()I"⟩, 80) := ⟨⟨by decide +kernel, by decide +kernel⟩, List.mem_of_getElem? (i := 1131) (by decide +kernel), List.mem_of_getElem? (i := 1545) (by decide +kernel), List.mem_of_getElem? (i := 1546) (by decide +kernel)⟩
theorem lw_p56 : lw_okq (⟨"RaftForestModel", "isRiver", "()Z"⟩, 80) := ⟨⟨by decide +kernel, by decide +kernel⟩, List.mem_of_getElem? (i := 1131) (by decide +kernel), List.mem_of_getElem? (i := 1555) (by decide +kernel), List.mem_of_getElem? (i := 1556) (by decide +kernel)⟩
theorem lw_p57 : lw_okq (⟨"RaftForestModel", "isRuleOrNone", "(I)Z"⟩, 80) := ⟨⟨by decide +kernel, by decide +kernel⟩, List.mem_of_getElem? (i := 1131) (by decide +kernel), List.mem_of_getElem? (i := 1559) (by decide +kernel), List.mem_of_getElem? (i := 1560) (by decide +kernel)⟩
theorem lw_p58 : lw_okq (⟨"RaftForestModel", "isVillage", "(I)Z"⟩, 80) := ⟨⟨by decide +kernel, by decide +kernel⟩, List.mem_of_getElem? (i := 1131) (by decide +kernel), List.mem_of_getElem? (i := 1568) (by decide +kernel), List.mem_of_getElem? (i := 1569) (by decide +kernel)⟩
theorem lw_p59 : lw_okq (⟨"RaftForestModel", "isBend", "(I)Z"⟩, 80) := ⟨⟨by decide +kernel, by decide +kernel⟩, List.mem_of_getElem? (i := 1131) (by decide +kernel), List.mem_of_getElem? (i := 1581) (by decide +kernel), List.mem_of_getElem? (i := 1582) (by decide +kernel)⟩
theorem lw_p60 : lw_okq (⟨"RaftForestModel", "logsAt", "(I)I"⟩, 80) := ⟨⟨by decide +kernel, by decide +kernel⟩, List.mem_of_getElem? (i := 1131) (by decide +kernel), List.mem_of_getElem? (i := 1585) (by decide +kernel), List.mem_of_getElem? (i := 1586) (by decide +kernel)⟩
theorem lw_p61 : lw_okq (⟨"RaftForestModel", "roomAt", "(I)I"⟩, 80) := ⟨⟨by decide +kernel, by decide +kernel⟩, List.mem_of_getElem? (i := 1131) (by decide +kernel), List.mem_of_getElem? (i := 1589) (by decide +kernel), List.mem_of_getElem? (i := 1590) (by decide +kernel)⟩
theorem lw_p62 : lw_okq (⟨"RaftForestModel", "ownedBy", "(I)I"⟩, 80) := ⟨⟨by decide +kernel, by decide +kernel⟩, List.mem_of_getElem? (i := 1131) (by decide +kernel), List.mem_of_getElem? (i := 1601) (by decide +kernel), List.mem_of_getElem? (i := 1602) (by decide +kernel)⟩
theorem lw_p63 : lw_okq (⟨"RaftForestModel", "isThere", "(I)Z"⟩, 80) := ⟨⟨by decide +kernel, by decide +kernel⟩, List.mem_of_getElem? (i := 1131) (by decide +kernel), List.mem_of_getElem? (i := 1605) (by decide +kernel), List.mem_of_getElem? (i := 1606) (by decide +kernel)⟩
def lw_privs_4 : List (MethodName × Nat) := [(⟨"RaftForestModel", "entry", "(II)V"⟩, 80), (⟨"RaftForestModel", "takes", "(Ljava/lang/String;)Z"⟩, 80), (⟨"RaftForestModel", "test", "()V"⟩, 80), (⟨"RaftForestModel", "fact", "()Z"⟩, 80), (⟨"RaftForestModel", "opens", "(I)V"⟩, 80), (⟨"RaftForestModel", "compared", "()V"⟩, 80), (⟨"RaftForestModel", "answers", "(I)V"⟩, 80), (⟨"RaftForestModel", "top", "()I"⟩, 80), (⟨"RaftForestModel", "isRiver", "()Z"⟩, 80), (⟨"RaftForestModel", "isRuleOrNone", "(I)Z"⟩, 80), (⟨"RaftForestModel", "isVillage", "(I)Z"⟩, 80), (⟨"RaftForestModel", "isBend", "(I)Z"⟩, 80), (⟨"RaftForestModel", "logsAt", "(I)I"⟩, 80), (⟨"RaftForestModel", "roomAt", "(I)I"⟩, 80), (⟨"RaftForestModel", "ownedBy", "(I)I"⟩, 80), (⟨"RaftForestModel", "isThere", "(I)Z"⟩, 80)]
theorem lw_r4 : ∀ q ∈ lw_privs_4, lw_okq q := List.forall_mem_cons.mpr ⟨lw_p48, List.forall_mem_cons.mpr ⟨lw_p49, List.forall_mem_cons.mpr ⟨lw_p50, List.forall_mem_cons.mpr ⟨lw_p51, List.forall_mem_cons.mpr ⟨lw_p52, List.forall_mem_cons.mpr ⟨lw_p53, List.forall_mem_cons.mpr ⟨lw_p54, List.forall_mem_cons.mpr ⟨lw_p55, List.forall_mem_cons.mpr ⟨lw_p56, List.forall_mem_cons.mpr ⟨lw_p57, List.forall_mem_cons.mpr ⟨lw_p58, List.forall_mem_cons.mpr ⟨lw_p59, List.forall_mem_cons.mpr ⟨lw_p60, List.forall_mem_cons.mpr ⟨lw_p61, List.forall_mem_cons.mpr ⟨lw_p62, List.forall_mem_cons.mpr ⟨lw_p63, fun _ h => absurd h List.not_mem_nil⟩⟩⟩⟩⟩⟩⟩⟩⟩⟩⟩⟩⟩⟩⟩⟩
theorem lw_p64 : lw_okq (⟨"RaftForestModel", "ownerOf", "(I)I"⟩, 80) := ⟨⟨by decide +kernel, by decide +kernel⟩, List.mem_of_getElem? (i := 1131) (by decide +kernel), List.mem_of_getElem? (i := 1609) (by decide +kernel), List.mem_of_getElem? (i := 1610) (by decide +kernel)⟩
theorem lw_p65 : lw_okq (⟨"RaftForestModel", "firstOf", "(I)I"⟩, 80) := ⟨⟨by decide +kernel, by decide +kernel⟩, List.mem_of_getElem? (i := 1131) (by decide +kernel), List.mem_of_getElem? (i := 1613) (by decide +kernel), List.mem_of_getElem? (i := 1614) (by decide +kernel)⟩
theorem lw_p66 : lw_okq (⟨"RaftForestModel", "lastOf", "(I)I"⟩, 80) := ⟨⟨by decide +kernel, by decide +kernel⟩, List.mem_of_getElem? (i := 1131) (by decide +kernel), List.mem_of_getElem? (i := 1617) (by decide +kernel), List.mem_of_getElem? (i := 1618) (by decide +kernel)⟩
theorem lw_p67 : lw_okq (⟨"RaftForestModel", "byMost", "(I)I"⟩, 80) := ⟨⟨by decide +kernel, by decide +kernel⟩, List.mem_of_getElem? (i := 1131) (by decide +kernel), List.mem_of_getElem? (i := 1621) (by decide +kernel), List.mem_of_getElem? (i := 1622) (by decide +kernel)⟩
theorem lw_p68 : lw_okq (⟨"RaftForestModel", "notchesOf", "(II)I"⟩, 80) := ⟨⟨by decide +kernel, by decide +kernel⟩, List.mem_of_getElem? (i := 1131) (by decide +kernel), List.mem_of_getElem? (i := 1625) (by decide +kernel), List.mem_of_getElem? (i := 1626) (by decide +kernel)⟩
theorem lw_p69 : lw_okq (⟨"RaftForestModel", "byRule", "(I)I"⟩, 80) := ⟨⟨by decide +kernel, by decide +kernel⟩, List.mem_of_getElem? (i := 1131) (by decide +kernel), List.mem_of_getElem? (i := 1629) (by decide +kernel), List.mem_of_getElem? (i := 1630) (by decide +kernel)⟩
theorem lw_p70 : lw_okq (⟨"RaftForestModel", "asks", "(IIII)V"⟩, 80) := ⟨⟨by decide +kernel, by decide +kernel⟩, List.mem_of_getElem? (i := 1131) (by decide +kernel), List.mem_of_getElem? (i := 1633) (by decide +kernel), List.mem_of_getElem? (i := 1634) (by decide +kernel)⟩
theorem lw_p71 : lw_okq (⟨"RaftForestModel", "bendOf", "(I)I"⟩, 80) := ⟨⟨by decide +kernel, by decide +kernel⟩, List.mem_of_getElem? (i := 1131) (by decide +kernel), List.mem_of_getElem? (i := 1637) (by decide +kernel), List.mem_of_getElem? (i := 1638) (by decide +kernel)⟩
theorem lw_p72 : lw_okq (⟨"RaftForestModel", "isInWater", "(I)Z"⟩, 80) := ⟨⟨by decide +kernel, by decide +kernel⟩, List.mem_of_getElem? (i := 1131) (by decide +kernel), List.mem_of_getElem? (i := 1641) (by decide +kernel), List.mem_of_getElem? (i := 1642) (by decide +kernel)⟩
theorem lw_p73 : lw_okq (⟨"RaftForestModel", "isAshore", "(I)Z"⟩, 80) := ⟨⟨by decide +kernel, by decide +kernel⟩, List.mem_of_getElem? (i := 1131) (by decide +kernel), List.mem_of_getElem? (i := 1645) (by decide +kernel), List.mem_of_getElem? (i := 1646) (by decide +kernel)⟩
theorem lw_p74 : lw_okq (⟨"RaftForestModel", "firstClause", "(II)I"⟩, 80) := ⟨⟨by decide +kernel, by decide +kernel⟩, List.mem_of_getElem? (i := 1131) (by decide +kernel), List.mem_of_getElem? (i := 1654) (by decide +kernel), List.mem_of_getElem? (i := 1655) (by decide +kernel)⟩
theorem lw_p75 : lw_okq (⟨"RaftForestModel", "holds", "(II)Z"⟩, 80) := ⟨⟨by decide +kernel, by decide +kernel⟩, List.mem_of_getElem? (i := 1131) (by decide +kernel), List.mem_of_getElem? (i := 1658) (by decide +kernel), List.mem_of_getElem? (i := 1659) (by decide +kernel)⟩
theorem lw_p76 : lw_okq (⟨"RaftForestModel", "answer", "(III)J"⟩, 80) := ⟨⟨by decide +kernel, by decide +kernel⟩, List.mem_of_getElem? (i := 1131) (by decide +kernel), List.mem_of_getElem? (i := 1662) (by decide +kernel), List.mem_of_getElem? (i := 1663) (by decide +kernel)⟩
theorem lw_p77 : lw_okq (⟨"RaftForestModel", "netOf", "(I)I"⟩, 80) := ⟨⟨by decide +kernel, by decide +kernel⟩, List.mem_of_getElem? (i := 1131) (by decide +kernel), List.mem_of_getElem? (i := 1672) (by decide +kernel), List.mem_of_getElem? (i := 1673) (by decide +kernel)⟩
theorem lw_p78 : lw_okq (⟨"RaftForestModel", "isLog", "(I)Z"⟩, 80) := ⟨⟨by decide +kernel, by decide +kernel⟩, List.mem_of_getElem? (i := 1131) (by decide +kernel), List.mem_of_getElem? (i := 1680) (by decide +kernel), List.mem_of_getElem? (i := 1681) (by decide +kernel)⟩
theorem lw_p79 : lw_okq (⟨"RaftForestModel", "priceOf", "(I)I"⟩, 80) := ⟨⟨by decide +kernel, by decide +kernel⟩, List.mem_of_getElem? (i := 1131) (by decide +kernel), List.mem_of_getElem? (i := 1684) (by decide +kernel), List.mem_of_getElem? (i := 1685) (by decide +kernel)⟩
def lw_privs_5 : List (MethodName × Nat) := [(⟨"RaftForestModel", "ownerOf", "(I)I"⟩, 80), (⟨"RaftForestModel", "firstOf", "(I)I"⟩, 80), (⟨"RaftForestModel", "lastOf", "(I)I"⟩, 80), (⟨"RaftForestModel", "byMost", "(I)I"⟩, 80), (⟨"RaftForestModel", "notchesOf", "(II)I"⟩, 80), (⟨"RaftForestModel", "byRule", "(I)I"⟩, 80), (⟨"RaftForestModel", "asks", "(IIII)V"⟩, 80), (⟨"RaftForestModel", "bendOf", "(I)I"⟩, 80), (⟨"RaftForestModel", "isInWater", "(I)Z"⟩, 80), (⟨"RaftForestModel", "isAshore", "(I)Z"⟩, 80), (⟨"RaftForestModel", "firstClause", "(II)I"⟩, 80), (⟨"RaftForestModel", "holds", "(II)Z"⟩, 80), (⟨"RaftForestModel", "answer", "(III)J"⟩, 80), (⟨"RaftForestModel", "netOf", "(I)I"⟩, 80), (⟨"RaftForestModel", "isLog", "(I)Z"⟩, 80), (⟨"RaftForestModel", "priceOf", "(I)I"⟩, 80)]
theorem lw_r5 : ∀ q ∈ lw_privs_5, lw_okq q := List.forall_mem_cons.mpr ⟨lw_p64, List.forall_mem_cons.mpr ⟨lw_p65, List.forall_mem_cons.mpr ⟨lw_p66, List.forall_mem_cons.mpr ⟨lw_p67, List.forall_mem_cons.mpr ⟨lw_p68, List.forall_mem_cons.mpr ⟨lw_p69, List.forall_mem_cons.mpr ⟨lw_p70, List.forall_mem_cons.mpr ⟨lw_p71, List.forall_mem_cons.mpr ⟨lw_p72, List.forall_mem_cons.mpr ⟨lw_p73, List.forall_mem_cons.mpr ⟨lw_p74, List.forall_mem_cons.mpr ⟨lw_p75, List.forall_mem_cons.mpr ⟨lw_p76, List.forall_mem_cons.mpr ⟨lw_p77, List.forall_mem_cons.mpr ⟨lw_p78, List.forall_mem_cons.mpr ⟨lw_p79, fun _ h => absurd h List.not_mem_nil⟩⟩⟩⟩⟩⟩⟩⟩⟩⟩⟩⟩⟩⟩⟩⟩
theorem lw_p80 : lw_okq (⟨"RaftForestModel", "placeInOrder", "(I)I"⟩, 80) := ⟨⟨by decide +kernel, by decide +kernel⟩, List.mem_of_getElem? (i := 1131) (by decide +kernel), List.mem_of_getElem? (i := 1688) (by decide +kernel), List.mem_of_getElem? (i := 1689) (by decide +kernel)⟩
theorem lw_p81 : lw_okq (⟨"RaftForestModel", "mayCut", "(II)Z"⟩, 80) := ⟨⟨by decide +kernel, by decide +kernel⟩, List.mem_of_getElem? (i := 1131) (by decide +kernel), List.mem_of_getElem? (i := 1700) (by decide +kernel), List.mem_of_getElem? (i := 1701) (by decide +kernel)⟩
theorem lw_p82 : lw_okq (⟨"RaftForestModel", "keepsCut", "(IIII)V"⟩, 80) := ⟨⟨by decide +kernel, by decide +kernel⟩, List.mem_of_getElem? (i := 1131) (by decide +kernel), List.mem_of_getElem? (i := 1704) (by decide +kernel), List.mem_of_getElem? (i := 1705) (by decide +kernel)⟩
theorem lw_p83 : lw_okq (⟨"RaftForestModel", "owes1", "(III)V"⟩, 80) := ⟨⟨by decide +kernel, by decide +kernel⟩, List.mem_of_getElem? (i := 1131) (by decide +kernel), List.mem_of_getElem? (i := 1728) (by decide +kernel), List.mem_of_getElem? (i := 1729) (by decide +kernel)⟩
theorem lw_p84 : lw_okq (⟨"RaftForestModel", "votesOf", "(IZ)I"⟩, 80) := ⟨⟨by decide +kernel, by decide +kernel⟩, List.mem_of_getElem? (i := 1131) (by decide +kernel), List.mem_of_getElem? (i := 1748) (by decide +kernel), List.mem_of_getElem? (i := 1749) (by decide +kernel)⟩
theorem lw_p85 : lw_okq (⟨"RaftForestModel", "floods", "(I)V"⟩, 80) := ⟨⟨by decide +kernel, by decide +kernel⟩, List.mem_of_getElem? (i := 1131) (by decide +kernel), List.mem_of_getElem? (i := 1761) (by decide +kernel), List.mem_of_getElem? (i := 1762) (by decide +kernel)⟩
theorem lw_p86 : lw_okq (⟨"RaftForestModel", "elects", "()V"⟩, 80) := ⟨⟨by decide +kernel, by decide +kernel⟩, List.mem_of_getElem? (i := 1131) (by decide +kernel), List.mem_of_getElem? (i := 1765) (by decide +kernel), List.mem_of_getElem? (i := 1766) (by decide +kernel)⟩
theorem lw_p87 : lw_okq (⟨"RaftForestModel", "roomAhead", "(I)I"⟩, 80) := ⟨⟨by decide +kernel, by decide +kernel⟩, List.mem_of_getElem? (i := 1131) (by decide +kernel), List.mem_of_getElem? (i := 1769) (by decide +kernel), List.mem_of_getElem? (i := 1770) (by decide +kernel)⟩
theorem lw_p88 : lw_okq (⟨"RaftForestModel", "keeps", "()V"⟩, 80) := ⟨⟨by decide +kernel, by decide +kernel⟩, List.mem_of_getElem? (i := 1131) (by decide +kernel), List.mem_of_getElem? (i := 1777) (by decide +kernel), List.mem_of_getElem? (i := 1778) (by decide +kernel)⟩
theorem lw_p89 : lw_okq (⟨"RaftForestModel", "carriesAll", "(IZ)V"⟩, 80) := ⟨⟨by decide +kernel, by decide +kernel⟩, List.mem_of_getElem? (i := 1131) (by decide +kernel), List.mem_of_getElem? (i := 1781) (by decide +kernel), List.mem_of_getElem? (i := 1782) (by decide +kernel)⟩
theorem lw_p90 : lw_okq (⟨"RaftForestModel", "carry", "([I)V"⟩, 80) := ⟨⟨by decide +kernel, by decide +kernel⟩, List.mem_of_getElem? (i := 1131) (by decide +kernel), List.mem_of_getElem? (i := 1785) (by decide +kernel), List.mem_of_getElem? (i := 1786) (by decide +kernel)⟩
theorem lw_p91 : lw_okq (⟨"RaftForestModel", "laysBack", "()V"⟩, 80) := ⟨⟨by decide +kernel, by decide +kernel⟩, List.mem_of_getElem? (i := 1131) (by decide +kernel), List.mem_of_getElem? (i := 1789) (by decide +kernel), List.mem_of_getElem? (i := 1790) (by decide +kernel)⟩
theorem lw_p92 : lw_okq (⟨"RaftForestModel", "day", "()V"⟩, 80) := ⟨⟨by decide +kernel, by decide +kernel⟩, List.mem_of_getElem? (i := 1131) (by decide +kernel), List.mem_of_getElem? (i := 1807) (by decide +kernel), List.mem_of_getElem? (i := 1808) (by decide +kernel)⟩
theorem lw_p93 : lw_okq (⟨"RaftForestModel", "goesAll", "()V"⟩, 80) := ⟨⟨by decide +kernel, by decide +kernel⟩, List.mem_of_getElem? (i := 1131) (by decide +kernel), List.mem_of_getElem? (i := 1811) (by decide +kernel), List.mem_of_getElem? (i := 1812) (by decide +kernel)⟩
theorem lw_p94 : lw_okq (⟨"RaftForestModel", "saysOf", "(IIIII)Z"⟩, 80) := ⟨⟨by decide +kernel, by decide +kernel⟩, List.mem_of_getElem? (i := 1131) (by decide +kernel), List.mem_of_getElem? (i := 1815) (by decide +kernel), List.mem_of_getElem? (i := 1816) (by decide +kernel)⟩
theorem lw_p95 : lw_okq (⟨"RaftForestModel", "jams1", "(I)V"⟩, 80) := ⟨⟨by decide +kernel, by decide +kernel⟩, List.mem_of_getElem? (i := 1131) (by decide +kernel), List.mem_of_getElem? (i := 1819) (by decide +kernel), List.mem_of_getElem? (i := 1820) (by decide +kernel)⟩
def lw_privs_6 : List (MethodName × Nat) := [(⟨"RaftForestModel", "placeInOrder", "(I)I"⟩, 80), (⟨"RaftForestModel", "mayCut", "(II)Z"⟩, 80), (⟨"RaftForestModel", "keepsCut", "(IIII)V"⟩, 80), (⟨"RaftForestModel", "owes1", "(III)V"⟩, 80), (⟨"RaftForestModel", "votesOf", "(IZ)I"⟩, 80), (⟨"RaftForestModel", "floods", "(I)V"⟩, 80), (⟨"RaftForestModel", "elects", "()V"⟩, 80), (⟨"RaftForestModel", "roomAhead", "(I)I"⟩, 80), (⟨"RaftForestModel", "keeps", "()V"⟩, 80), (⟨"RaftForestModel", "carriesAll", "(IZ)V"⟩, 80), (⟨"RaftForestModel", "carry", "([I)V"⟩, 80), (⟨"RaftForestModel", "laysBack", "()V"⟩, 80), (⟨"RaftForestModel", "day", "()V"⟩, 80), (⟨"RaftForestModel", "goesAll", "()V"⟩, 80), (⟨"RaftForestModel", "saysOf", "(IIIII)Z"⟩, 80), (⟨"RaftForestModel", "jams1", "(I)V"⟩, 80)]
theorem lw_r6 : ∀ q ∈ lw_privs_6, lw_okq q := List.forall_mem_cons.mpr ⟨lw_p80, List.forall_mem_cons.mpr ⟨lw_p81, List.forall_mem_cons.mpr ⟨lw_p82, List.forall_mem_cons.mpr ⟨lw_p83, List.forall_mem_cons.mpr ⟨lw_p84, List.forall_mem_cons.mpr ⟨lw_p85, List.forall_mem_cons.mpr ⟨lw_p86, List.forall_mem_cons.mpr ⟨lw_p87, List.forall_mem_cons.mpr ⟨lw_p88, List.forall_mem_cons.mpr ⟨lw_p89, List.forall_mem_cons.mpr ⟨lw_p90, List.forall_mem_cons.mpr ⟨lw_p91, List.forall_mem_cons.mpr ⟨lw_p92, List.forall_mem_cons.mpr ⟨lw_p93, List.forall_mem_cons.mpr ⟨lw_p94, List.forall_mem_cons.mpr ⟨lw_p95, fun _ h => absurd h List.not_mem_nil⟩⟩⟩⟩⟩⟩⟩⟩⟩⟩⟩⟩⟩⟩⟩⟩
theorem lw_p96 : lw_okq (⟨"RaftForestModel", "floats1", "(I)V"⟩, 80) := ⟨⟨by decide +kernel, by decide +kernel⟩, List.mem_of_getElem? (i := 1131) (by decide +kernel), List.mem_of_getElem? (i := 1823) (by decide +kernel), List.mem_of_getElem? (i := 1824) (by decide +kernel)⟩
theorem lw_p97 : lw_okq (⟨"RaftForestModel", "sells", "(I)V"⟩, 80) := ⟨⟨by decide +kernel, by decide +kernel⟩, List.mem_of_getElem? (i := 1131) (by decide +kernel), List.mem_of_getElem? (i := 1827) (by decide +kernel), List.mem_of_getElem? (i := 1828) (by decide +kernel)⟩
theorem lw_p98 : lw_okq (⟨"RaftForestModel", "ownerAtMouth", "(I)I"⟩, 80) := ⟨⟨by decide +kernel, by decide +kernel⟩, List.mem_of_getElem? (i := 1131) (by decide +kernel), List.mem_of_getElem? (i := 1831) (by decide +kernel), List.mem_of_getElem? (i := 1832) (by decide +kernel)⟩
theorem lw_p99 : lw_okq (⟨"RaftForestModel", "worksVillage", "(I)V"⟩, 80) := ⟨⟨by decide +kernel, by decide +kernel⟩, List.mem_of_getElem? (i := 1131) (by decide +kernel), List.mem_of_getElem? (i := 1835) (by decide +kernel), List.mem_of_getElem? (i := 1836) (by decide +kernel)⟩
theorem lw_p100 : lw_okq (⟨"RaftForestModel", "takes1", "(II)V"⟩, 80) := ⟨⟨by decide +kernel, by decide +kernel⟩, List.mem_of_getElem? (i := 1131) (by decide +kernel), List.mem_of_getElem? (i := 1839) (by decide +kernel), List.mem_of_getElem? (i := 1840) (by decide +kernel)⟩
theorem lw_p101 : lw_okq (⟨"RaftForestModel", "keepsPlaces", "()V"⟩, 80) := ⟨⟨by decide +kernel, by decide +kernel⟩, List.mem_of_getElem? (i := 1131) (by decide +kernel), List.mem_of_getElem? (i := 1843) (by decide +kernel), List.mem_of_getElem? (i := 1844) (by decide +kernel)⟩
theorem lw_p102 : lw_okq (⟨"RaftForestModel", "wouldBe", "(I)V"⟩, 80) := ⟨⟨by decide +kernel, by decide +kernel⟩, List.mem_of_getElem? (i := 1131) (by decide +kernel), List.mem_of_getElem? (i := 1852) (by decide +kernel), List.mem_of_getElem? (i := 1853) (by decide +kernel)⟩
theorem lw_p103 : lw_okq (⟨"RaftForestModel", "forgetsCounts", "()V"⟩, 80) := ⟨⟨by decide +kernel, by decide +kernel⟩, List.mem_of_getElem? (i := 1131) (by decide +kernel), List.mem_of_getElem? (i := 1856) (by decide +kernel), List.mem_of_getElem? (i := 1857) (by decide +kernel)⟩
theorem lw_p104 : lw_okq (⟨"RaftForestModel", "counted1", "(I)I"⟩, 80) := ⟨⟨by decide +kernel, by decide +kernel⟩, List.mem_of_getElem? (i := 1131) (by decide +kernel), List.mem_of_getElem? (i := 1860) (by decide +kernel), List.mem_of_getElem? (i := 1861) (by decide +kernel)⟩
theorem lw_p105 : lw_okq (⟨"RaftForestModel", "fillsFloating", "()V"⟩, 80) := ⟨⟨by decide +kernel, by decide +kernel⟩, List.mem_of_getElem? (i := 1131) (by decide +kernel), List.mem_of_getElem? (i := 1869) (by decide +kernel), List.mem_of_getElem? (i := 1870) (by decide +kernel)⟩
theorem lw_p106 : lw_okq (⟨"RaftForestModel", "findsAhead", "(I)V"⟩, 80) := ⟨⟨by decide +kernel, by decide +kernel⟩, List.mem_of_getElem? (i := 1131) (by decide +kernel), List.mem_of_getElem? (i := 1873) (by decide +kernel), List.mem_of_getElem? (i := 1874) (by decide +kernel)⟩
theorem lw_p107 : lw_okq (⟨"RaftForestModel", "laysRow", "(I)Z"⟩, 80) := ⟨⟨by decide +kernel, by decide +kernel⟩, List.mem_of_getElem? (i := 1131) (by decide +kernel), List.mem_of_getElem? (i := 1877) (by decide +kernel), List.mem_of_getElem? (i := 1878) (by decide +kernel)⟩
theorem lw_p108 : lw_okq (⟨"RaftForestModel", "stepOfKin", "(I)I"⟩, 80) := ⟨⟨by decide +kernel, by decide +kernel⟩, List.mem_of_getElem? (i := 1131) (by decide +kernel), List.mem_of_getElem? (i := 1885) (by decide +kernel), List.mem_of_getElem? (i := 1886) (by decide +kernel)⟩
theorem lw_p109 : lw_okq (⟨"RaftForestModel", "wereAtIn", "(III)I"⟩, 80) := ⟨⟨by decide +kernel, by decide +kernel⟩, List.mem_of_getElem? (i := 1131) (by decide +kernel), List.mem_of_getElem? (i := 1901) (by decide +kernel), List.mem_of_getElem? (i := 1902) (by decide +kernel)⟩
theorem lw_p110 : lw_okq (⟨"RaftForestModel", "atAgo", "(II)I"⟩, 80) := ⟨⟨by decide +kernel, by decide +kernel⟩, List.mem_of_getElem? (i := 1131) (by decide +kernel), List.mem_of_getElem? (i := 1905) (by decide +kernel), List.mem_of_getElem? (i := 1906) (by decide +kernel)⟩
theorem lw_p111 : lw_okq (⟨"RaftForestModel", "whoCould", "(III)I"⟩, 80) := ⟨⟨by decide +kernel, by decide +kernel⟩, List.mem_of_getElem? (i := 1131) (by decide +kernel), List.mem_of_getElem? (i := 1924) (by decide +kernel), List.mem_of_getElem? (i := 1925) (by decide +kernel)⟩
def lw_privs_7 : List (MethodName × Nat) := [(⟨"RaftForestModel", "floats1", "(I)V"⟩, 80), (⟨"RaftForestModel", "sells", "(I)V"⟩, 80), (⟨"RaftForestModel", "ownerAtMouth", "(I)I"⟩, 80), (⟨"RaftForestModel", "worksVillage", "(I)V"⟩, 80), (⟨"RaftForestModel", "takes1", "(II)V"⟩, 80), (⟨"RaftForestModel", "keepsPlaces", "()V"⟩, 80), (⟨"RaftForestModel", "wouldBe", "(I)V"⟩, 80), (⟨"RaftForestModel", "forgetsCounts", "()V"⟩, 80), (⟨"RaftForestModel", "counted1", "(I)I"⟩, 80), (⟨"RaftForestModel", "fillsFloating", "()V"⟩, 80), (⟨"RaftForestModel", "findsAhead", "(I)V"⟩, 80), (⟨"RaftForestModel", "laysRow", "(I)Z"⟩, 80), (⟨"RaftForestModel", "stepOfKin", "(I)I"⟩, 80), (⟨"RaftForestModel", "wereAtIn", "(III)I"⟩, 80), (⟨"RaftForestModel", "atAgo", "(II)I"⟩, 80), (⟨"RaftForestModel", "whoCould", "(III)I"⟩, 80)]
theorem lw_r7 : ∀ q ∈ lw_privs_7, lw_okq q := List.forall_mem_cons.mpr ⟨lw_p96, List.forall_mem_cons.mpr ⟨lw_p97, List.forall_mem_cons.mpr ⟨lw_p98, List.forall_mem_cons.mpr ⟨lw_p99, List.forall_mem_cons.mpr ⟨lw_p100, List.forall_mem_cons.mpr ⟨lw_p101, List.forall_mem_cons.mpr ⟨lw_p102, List.forall_mem_cons.mpr ⟨lw_p103, List.forall_mem_cons.mpr ⟨lw_p104, List.forall_mem_cons.mpr ⟨lw_p105, List.forall_mem_cons.mpr ⟨lw_p106, List.forall_mem_cons.mpr ⟨lw_p107, List.forall_mem_cons.mpr ⟨lw_p108, List.forall_mem_cons.mpr ⟨lw_p109, List.forall_mem_cons.mpr ⟨lw_p110, List.forall_mem_cons.mpr ⟨lw_p111, fun _ h => absurd h List.not_mem_nil⟩⟩⟩⟩⟩⟩⟩⟩⟩⟩⟩⟩⟩⟩⟩⟩
theorem lw_p112 : lw_okq (⟨"RaftForestModel", "draws", "(I)I"⟩, 80) := ⟨⟨by decide +kernel, by decide +kernel⟩, List.mem_of_getElem? (i := 1131) (by decide +kernel), List.mem_of_getElem? (i := 1951) (by decide +kernel), List.mem_of_getElem? (i := 1952) (by decide +kernel)⟩
theorem lw_p113 : lw_okq (⟨"RaftForestModel", "countOf", "(II)I"⟩, 80) := ⟨⟨by decide +kernel, by decide +kernel⟩, List.mem_of_getElem? (i := 1131) (by decide +kernel), List.mem_of_getElem? (i := 1963) (by decide +kernel), List.mem_of_getElem? (i := 1964) (by decide +kernel)⟩
def lw_privs_8 : List (MethodName × Nat) := [(⟨"RaftForestModel", "draws", "(I)I"⟩, 80), (⟨"RaftForestModel", "countOf", "(II)I"⟩, 80)]
theorem lw_r8 : ∀ q ∈ lw_privs_8, lw_okq q := List.forall_mem_cons.mpr ⟨lw_p112, List.forall_mem_cons.mpr ⟨lw_p113, fun _ h => absurd h List.not_mem_nil⟩⟩
def lw_privs : List (MethodName × Nat) := lw_privs_1 ++ (lw_privs_2 ++ (lw_privs_3 ++ (lw_privs_4 ++ (lw_privs_5 ++ (lw_privs_6 ++ (lw_privs_7 ++ (lw_privs_8)))))))
def lw_tbl : List Cond := k2_sels lw_privs ++ tables_1
theorem lw_privs_ok : ∀ q ∈ lw_privs, lw_okq q := by
  show ∀ q ∈ lw_privs_1 ++ (lw_privs_2 ++ (lw_privs_3 ++ (lw_privs_4 ++ (lw_privs_5 ++ (lw_privs_6 ++ (lw_privs_7 ++ (lw_privs_8))))))), lw_okq q
  exact List.forall_mem_append.mpr ⟨lw_r1, List.forall_mem_append.mpr ⟨lw_r2, List.forall_mem_append.mpr ⟨lw_r3, List.forall_mem_append.mpr ⟨lw_r4, List.forall_mem_append.mpr ⟨lw_r5, List.forall_mem_append.mpr ⟨lw_r6, List.forall_mem_append.mpr ⟨lw_r7, lw_r8⟩⟩⟩⟩⟩⟩⟩

theorem goodIn_r {big : List Cond} (ws : List Cond) (ps : List Nat) (hp : ws = ps.filterMap (fun i => big[i]?)) (h : ws.all goodWord = true) : GoodIn big ws := by
  intro w hw
  have h1 := List.all_eq_true.mp h w hw
  rw [hp] at hw
  obtain ⟨i, -, hi⟩ := List.mem_filterMap.mp hw
  have hm : w ∈ big := by first | exact List.mem_of_getElem? hi | exact List.getElem?_mem hi
  exact ⟨hm, good_of_word h1⟩

theorem goodIn_app {big a b : List Cond} (ha : GoodIn big a) (hb : GoodIn big b) : GoodIn big (a ++ b) := fun w h => (List.mem_append.mp h).elim (ha w) (hb w)

theorem goodIn_ca {big a b : List Cond} {c : Cond} (ha : GoodIn big (c :: a)) (hb : GoodIn big b) : GoodIn big (c :: (a ++ b)) := fun w h => (List.mem_cons.mp h).elim (fun e => ha w (List.mem_cons.mpr (Or.inl e))) (fun h => (List.mem_append.mp h).elim (fun h => ha w (List.mem_cons.mpr (Or.inr h))) (hb w))

theorem goodIn_sub {big ws : List Cond} (hm : ∀ w ∈ ws, w ∈ big) (h : ws.all goodWord = true) : GoodIn big ws := fun w hw => ⟨hm w hw, good_of_word (List.all_eq_true.mp h w hw)⟩

def RX0 : String := "RaftForest$Books"

def TX0 : u_T := fun k => match k with
  | 0 => ("RaftForest$Books", "seed", "I", false)
  | 1 => ("RaftForest$Books", "sea", "I", false)
  | 2 => ("RaftForest$Books", "coins", "[I", true)
  | 3 => ("RaftForest$Books", "debts", "[I", true)
  | 4 => ("RaftForest$Books", "weddings", "I", false)
  | 5 => ("RaftForest$Books", "beams", "[I", true)
  | 6 => ("RaftForest$Books", "sights", "I", false)
  | 7 => ("RaftForest$Books", "sightLogs", "[I", true)
  | 8 => ("RaftForest$Books", "sightPlaces", "[I", true)
  | 9 => ("RaftForest$Books", "sightVillages", "[I", true)
  | 10 => ("RaftForest$Books", "sightDays", "[I", true)
  | 11 => ("RaftForest$Books", "cutCount", "I", false)
  | 12 => ("RaftForest$Books", "cutLogs", "[I", true)
  | 13 => ("RaftForest$Books", "cutPlaces", "[I", true)
  | 14 => ("RaftForest$Books", "cutVillages", "[I", true)
  | 15 => ("RaftForest$Books", "cutBefore", "[I", true)
  | _ => ("RaftForest$Books", "keptPlaces", "[I", true)

def tyX0 : Nat → FieldType := fun k => match k with
  | 0 => .int
  | 1 => .int
  | 2 => .array .int
  | 3 => .array .int
  | 4 => .int
  | 5 => .array .int
  | 6 => .int
  | 7 => .array .int
  | 8 => .array .int
  | 9 => .array .int
  | 10 => .array .int
  | 11 => .int
  | 12 => .array .int
  | 13 => .array .int
  | 14 => .array .int
  | 15 => .array .int
  | _ => .array .int

abbrev wsX00 : List Cond := u_ws RX0 TX0 17

theorem nmX0 : ∀ a, a < 17 → ∀ b, b < 17 → a ≠ b → (TX0 a).2.1 ≠ (TX0 b).2.1 := by decide +kernel

theorem tyX0_ok : ∀ k, k < 17 → parseFieldDescriptor (TX0 k).2.2.1 = some (tyX0 k) := by decide +kernel

abbrev cX0_init : ByteArray := prog_2_method_1_code

def yX0_init : MethodName := ⟨RX0, "<init>", "()V"⟩

abbrev cX0_start : ByteArray := prog_2_method_2_code

def yX0_start : MethodName := ⟨RX0, "start", "()V"⟩

abbrev cX0_copy : ByteArray := prog_2_method_3_code

def yX0_copy : MethodName := ⟨RX0, "copy", "(LRaftForest$Books;)V"⟩

abbrev cX0_owe : ByteArray := prog_2_method_4_code

def yX0_owe : MethodName := ⟨RX0, "owe", "(III)V"⟩

abbrev cX0_net : ByteArray := prog_2_method_5_code

def yX0_net : MethodName := ⟨RX0, "net", "(I)I"⟩

abbrev cX0_writeOff : ByteArray := prog_2_method_6_code

def yX0_writeOff : MethodName := ⟨RX0, "writeOff", "(I)I"⟩

abbrev cX0_weddingsOf : ByteArray := prog_2_method_7_code

def yX0_weddingsOf : MethodName := ⟨RX0, "weddingsOf", "(I)I"⟩

abbrev cX0_kinOfAll : ByteArray := prog_2_method_8_code

def yX0_kinOfAll : MethodName := ⟨RX0, "kinOfAll", "(I)I"⟩

abbrev cX0_keepCut : ByteArray := prog_2_method_9_code

def yX0_keepCut : MethodName := ⟨RX0, "keepCut", "(IIII)V"⟩

abbrev cX0_dropFirst : ByteArray := prog_2_method_10_code

def yX0_dropFirst : MethodName := ⟨RX0, "dropFirst", "([I)V"⟩

abbrev cX0_keepSight : ByteArray := prog_2_method_11_code

def yX0_keepSight : MethodName := ⟨RX0, "keepSight", "(IIII)V"⟩

abbrev cX0_sightAhead : ByteArray := prog_2_method_12_code

def yX0_sightAhead : MethodName := ⟨RX0, "sightAhead", "(I)I"⟩

abbrev cX0_partedSight : ByteArray := prog_2_method_13_code

def yX0_partedSight : MethodName := ⟨RX0, "partedSight", "(II)I"⟩

abbrev cX0_keepPlaces : ByteArray := prog_2_method_14_code

def yX0_keepPlaces : MethodName := ⟨RX0, "keepPlaces", "(LRaftForest$State;)V"⟩

def RX1 : String := "RaftForest$Image"

def TX1 : u_T := fun k => match k with
  | 0 => ("RaftForest$Image", "made", "Z", false)
  | 1 => ("RaftForest$Image", "river", "LRaftForest$River;", true)
  | 2 => ("RaftForest$Image", "state", "LRaftForest$State;", true)
  | _ => ("RaftForest$Image", "books", "LRaftForest$Books;", true)

def tyX1 : Nat → FieldType := fun k => match k with
  | 0 => .boolean
  | 1 => .object "RaftForest$River"
  | 2 => .object "RaftForest$State"
  | _ => .object "RaftForest$Books"

abbrev wsX10 : List Cond := u_ws RX1 TX1 4

theorem nmX1 : ∀ a, a < 4 → ∀ b, b < 4 → a ≠ b → (TX1 a).2.1 ≠ (TX1 b).2.1 := by decide +kernel

theorem tyX1_ok : ∀ k, k < 4 → parseFieldDescriptor (TX1 k).2.2.1 = some (tyX1 k) := by decide +kernel

abbrev cX1_init : ByteArray := prog_3_method_1_code

def yX1_init : MethodName := ⟨RX1, "<init>", "()V"⟩

abbrev cX1_take : ByteArray := prog_3_method_2_code

def yX1_take : MethodName := ⟨RX1, "take", "(LRaftForest$World;)V"⟩

abbrev cX1_give : ByteArray := prog_3_method_3_code

def yX1_give : MethodName := ⟨RX1, "give", "(LRaftForest$World;)V"⟩

def RX2 : String := "RaftForest$River"

def TX2 : u_T := fun k => match k with
  | 0 => ("RaftForest$River", "bends", "I", false)
  | 1 => ("RaftForest$River", "villages", "I", false)
  | 2 => ("RaftForest$River", "woods", "I", false)
  | 3 => ("RaftForest$River", "logs", "I", false)
  | 4 => ("RaftForest$River", "toll", "I", false)
  | 5 => ("RaftForest$River", "villageBends", "[I", true)
  | 6 => ("RaftForest$River", "widths", "[I", true)
  | 7 => ("RaftForest$River", "woodPrices", "[I", true)
  | 8 => ("RaftForest$River", "logWoods", "[I", true)
  | 9 => ("RaftForest$River", "logLengths", "[I", true)
  | 10 => ("RaftForest$River", "logRings", "[I", true)
  | _ => ("RaftForest$River", "logVillages", "[I", true)

def tyX2 : Nat → FieldType := fun k => match k with
  | 0 => .int
  | 1 => .int
  | 2 => .int
  | 3 => .int
  | 4 => .int
  | 5 => .array .int
  | 6 => .array .int
  | 7 => .array .int
  | 8 => .array .int
  | 9 => .array .int
  | 10 => .array .int
  | _ => .array .int

abbrev wsX20 : List Cond := u_ws RX2 TX2 12

theorem nmX2 : ∀ a, a < 12 → ∀ b, b < 12 → a ≠ b → (TX2 a).2.1 ≠ (TX2 b).2.1 := by decide +kernel

theorem tyX2_ok : ∀ k, k < 12 → parseFieldDescriptor (TX2 k).2.2.1 = some (tyX2 k) := by decide +kernel

abbrev cX2_init : ByteArray := prog_4_method_1_code

def yX2_init : MethodName := ⟨RX2, "<init>", "()V"⟩

abbrev cX2_clear : ByteArray := prog_4_method_2_code

def yX2_clear : MethodName := ⟨RX2, "clear", "()V"⟩

abbrev cX2_copy : ByteArray := prog_4_method_3_code

def yX2_copy : MethodName := ⟨RX2, "copy", "(LRaftForest$River;)V"⟩

def RX3 : String := "RaftForest$RiverReader"

def TX3 : u_T := fun k => match k with
  | 0 => ("RaftForest$RiverReader", "told", "LRaftForest$River;", true)
  | 1 => ("RaftForest$RiverReader", "tape", "LRaftForest$Tape;", true)
  | _ => ("RaftForest$RiverReader", "tollTold", "Z", false)

def tyX3 : Nat → FieldType := fun k => match k with
  | 0 => .object "RaftForest$River"
  | 1 => .object "RaftForest$Tape"
  | _ => .boolean

abbrev wsX30 : List Cond := u_ws RX3 TX3 3

theorem nmX3 : ∀ a, a < 3 → ∀ b, b < 3 → a ≠ b → (TX3 a).2.1 ≠ (TX3 b).2.1 := by decide +kernel

theorem tyX3_ok : ∀ k, k < 3 → parseFieldDescriptor (TX3 k).2.2.1 = some (tyX3 k) := by decide +kernel

abbrev cX3_init : ByteArray := prog_5_method_1_code

def yX3_init : MethodName := ⟨RX3, "<init>", "(LRaftForest$Tape;)V"⟩

abbrev cX3_reads : ByteArray := prog_5_method_2_code

def yX3_reads : MethodName := ⟨RX3, "reads", "()Z"⟩

abbrev cX3_isTooMany : ByteArray := prog_5_method_3_code

def yX3_isTooMany : MethodName := ⟨RX3, "isTooMany", "(II)Z"⟩

abbrev cX3_readsClause : ByteArray := prog_5_method_4_code

def yX3_readsClause : MethodName := ⟨RX3, "readsClause", "(I)Z"⟩

abbrev cX3_readNumber : ByteArray := prog_5_method_5_code

def yX3_readNumber : MethodName := ⟨RX3, "readNumber", "(II)I"⟩

def RX4 : String := "RaftForest$Rule"

def TX4 : u_T := fun k => match k with
  | 0 => ("RaftForest$Rule", "steps", "[I", true)
  | 1 => ("RaftForest$Rule", "size", "I", false)
  | 2 => ("RaftForest$Rule", "kinds", "I", false)
  | 3 => ("RaftForest$Rule", "words", "I", false)
  | 4 => ("RaftForest$Rule", "stack", "[J", true)
  | _ => ("RaftForest$Rule", "sum", "J", false)

def tyX4 : Nat → FieldType := fun k => match k with
  | 0 => .array .int
  | 1 => .int
  | 2 => .int
  | 3 => .int
  | 4 => .array .long
  | _ => .long

abbrev wsX40 : List Cond := u_ws RX4 TX4 6

theorem nmX4 : ∀ a, a < 6 → ∀ b, b < 6 → a ≠ b → (TX4 a).2.1 ≠ (TX4 b).2.1 := by decide +kernel

theorem tyX4_ok : ∀ k, k < 6 → parseFieldDescriptor (TX4 k).2.2.1 = some (tyX4 k) := by decide +kernel

abbrev cX4_init : ByteArray := prog_6_method_1_code

def yX4_init : MethodName := ⟨RX4, "<init>", "()V"⟩

abbrev cX4_clear : ByteArray := prog_6_method_2_code

def yX4_clear : MethodName := ⟨RX4, "clear", "()V"⟩

abbrev cX4_write : ByteArray := prog_6_method_3_code

def yX4_write : MethodName := ⟨RX4, "write", "(I)V"⟩

abbrev cX4_begin : ByteArray := prog_6_method_4_code

def yX4_begin : MethodName := ⟨RX4, "begin", "(I)I"⟩

abbrev cX4_close : ByteArray := prog_6_method_5_code

def yX4_close : MethodName := ⟨RX4, "close", "(I)V"⟩

abbrev cX4_hasKind : ByteArray := prog_6_method_6_code

def yX4_hasKind : MethodName := ⟨RX4, "hasKind", "(I)Z"⟩

abbrev cX4_hasWord : ByteArray := prog_6_method_7_code

def yX4_hasWord : MethodName := ⟨RX4, "hasWord", "(I)Z"⟩

abbrev cX4_finds : ByteArray := prog_6_method_8_code

def yX4_finds : MethodName := ⟨RX4, "finds", "(I[J)Z"⟩

abbrev cX4_joined : ByteArray := prog_6_method_9_code

def yX4_joined : MethodName := ⟨RX4, "joined", "(IJJ)J"⟩

def RX5 : String := "RaftForest$RuleReader"

def TX5 : u_T := fun k => match k with
  | 0 => ("RaftForest$RuleReader", "tape", "LRaftForest$Tape;", true)
  | _ => ("RaftForest$RuleReader", "items", "I", false)

def tyX5 : Nat → FieldType := fun k => match k with
  | 0 => .object "RaftForest$Tape"
  | _ => .int

abbrev wsX50 : List Cond := u_ws RX5 TX5 2

theorem nmX5 : ∀ a, a < 2 → ∀ b, b < 2 → a ≠ b → (TX5 a).2.1 ≠ (TX5 b).2.1 := by decide +kernel

theorem tyX5_ok : ∀ k, k < 2 → parseFieldDescriptor (TX5 k).2.2.1 = some (tyX5 k) := by decide +kernel

abbrev cX5_init : ByteArray := prog_7_method_1_code

def yX5_init : MethodName := ⟨RX5, "<init>", "(LRaftForest$Tape;)V"⟩

abbrev cX5_reads : ByteArray := prog_7_method_2_code

def yX5_reads : MethodName := ⟨RX5, "reads", "(LRaftForest$Rule;)Z"⟩

abbrev cX5_readsTest : ByteArray := prog_7_method_3_code

def yX5_readsTest : MethodName := ⟨RX5, "readsTest", "(LRaftForest$Rule;I)Z"⟩

abbrev cX5_readsFact : ByteArray := prog_7_method_4_code

def yX5_readsFact : MethodName := ⟨RX5, "readsFact", "(LRaftForest$Rule;I)Z"⟩

abbrev cX5_readSign : ByteArray := prog_7_method_5_code

def yX5_readSign : MethodName := ⟨RX5, "readSign", "()I"⟩

abbrev cX5_readsSum : ByteArray := prog_7_method_6_code

def yX5_readsSum : MethodName := ⟨RX5, "readsSum", "(LRaftForest$Rule;)Z"⟩

abbrev cX5_readsValue : ByteArray := prog_7_method_7_code

def yX5_readsValue : MethodName := ⟨RX5, "readsValue", "(LRaftForest$Rule;)Z"⟩

def RX6 : String := "RaftForest$State"

def TX6 : u_T := fun k => match k with
  | 0 => ("RaftForest$State", "day", "I", false)
  | 1 => ("RaftForest$State", "water", "I", false)
  | 2 => ("RaftForest$State", "ruleInForce", "I", false)
  | 3 => ("RaftForest$State", "law", "I", false)
  | 4 => ("RaftForest$State", "lawRule", "I", false)
  | 5 => ("RaftForest$State", "logs", "I", false)
  | 6 => ("RaftForest$State", "villageRules", "[I", true)
  | 7 => ("RaftForest$State", "dams", "[I", true)
  | 8 => ("RaftForest$State", "places", "[I", true)
  | 9 => ("RaftForest$State", "lengths", "[I", true)
  | 10 => ("RaftForest$State", "jams", "[I", true)
  | 11 => ("RaftForest$State", "jamDays", "[I", true)
  | 12 => ("RaftForest$State", "order", "[I", true)
  | 13 => ("RaftForest$State", "notchCounts", "[I", true)
  | _ => ("RaftForest$State", "notches", "[I", true)

def tyX6 : Nat → FieldType := fun k => match k with
  | 0 => .int
  | 1 => .int
  | 2 => .int
  | 3 => .int
  | 4 => .int
  | 5 => .int
  | 6 => .array .int
  | 7 => .array .int
  | 8 => .array .int
  | 9 => .array .int
  | 10 => .array .int
  | 11 => .array .int
  | 12 => .array .int
  | 13 => .array .int
  | _ => .array .int

abbrev wsX60 : List Cond := u_ws RX6 TX6 15

theorem nmX6 : ∀ a, a < 15 → ∀ b, b < 15 → a ≠ b → (TX6 a).2.1 ≠ (TX6 b).2.1 := by decide +kernel

theorem tyX6_ok : ∀ k, k < 15 → parseFieldDescriptor (TX6 k).2.2.1 = some (tyX6 k) := by decide +kernel

abbrev cX6_init : ByteArray := prog_8_method_1_code

def yX6_init : MethodName := ⟨RX6, "<init>", "()V"⟩

abbrev cX6_start : ByteArray := prog_8_method_2_code

def yX6_start : MethodName := ⟨RX6, "start", "(LRaftForest$River;)V"⟩

abbrev cX6_copy : ByteArray := prog_8_method_3_code

def yX6_copy : MethodName := ⟨RX6, "copy", "(LRaftForest$State;)V"⟩

abbrev cX6_isInWater : ByteArray := prog_8_method_4_code

def yX6_isInWater : MethodName := ⟨RX6, "isInWater", "(I)Z"⟩

abbrev cX6_isAshore : ByteArray := prog_8_method_5_code

def yX6_isAshore : MethodName := ⟨RX6, "isAshore", "(I)Z"⟩

abbrev cX6_isGone : ByteArray := prog_8_method_6_code

def yX6_isGone : MethodName := ⟨RX6, "isGone", "(I)Z"⟩

abbrev cX6_logsBetween : ByteArray := prog_8_method_7_code

def yX6_logsBetween : MethodName := ⟨RX6, "logsBetween", "(II)I"⟩

abbrev cX6_jamsInAll : ByteArray := prog_8_method_8_code

def yX6_jamsInAll : MethodName := ⟨RX6, "jamsInAll", "()I"⟩

abbrev cX6_placeInOrder : ByteArray := prog_8_method_9_code

def yX6_placeInOrder : MethodName := ⟨RX6, "placeInOrder", "(I)I"⟩

abbrev cX6_notchAt : ByteArray := prog_8_method_10_code

def yX6_notchAt : MethodName := ⟨RX6, "notchAt", "(II)I"⟩

abbrev cX6_notchBehind : ByteArray := prog_8_method_11_code

def yX6_notchBehind : MethodName := ⟨RX6, "notchBehind", "(II)V"⟩

def RX7 : String := "RaftForest$Tape"

def TX7 : u_T := fun k => match k with
  | 0 => ("RaftForest$Tape", "bytes", "[I", true)
  | 1 => ("RaftForest$Tape", "size", "I", false)
  | 2 => ("RaftForest$Tape", "at", "I", false)
  | 3 => ("RaftForest$Tape", "stop", "I", false)
  | 4 => ("RaftForest$Tape", "first", "I", false)
  | _ => ("RaftForest$Tape", "fault", "I", false)

def tyX7 : Nat → FieldType := fun k => match k with
  | 0 => .array .int
  | 1 => .int
  | 2 => .int
  | 3 => .int
  | 4 => .int
  | _ => .int

abbrev wsX70 : List Cond := u_ws RX7 TX7 6

theorem nmX7 : ∀ a, a < 6 → ∀ b, b < 6 → a ≠ b → (TX7 a).2.1 ≠ (TX7 b).2.1 := by decide +kernel

theorem tyX7_ok : ∀ k, k < 6 → parseFieldDescriptor (TX7 k).2.2.1 = some (tyX7 k) := by decide +kernel

abbrev cX7_init : ByteArray := prog_9_method_1_code

def yX7_init : MethodName := ⟨RX7, "<init>", "()V"⟩

abbrev cX7_append : ByteArray := prog_9_method_2_code

def yX7_append : MethodName := ⟨RX7, "append", "(I)V"⟩

abbrev cX7_rewind : ByteArray := prog_9_method_3_code

def yX7_rewind : MethodName := ⟨RX7, "rewind", "()V"⟩

abbrev cX7_pass : ByteArray := prog_9_method_4_code

def yX7_pass : MethodName := ⟨RX7, "pass", "()V"⟩

abbrev cX7_fails : ByteArray := prog_9_method_5_code

def yX7_fails : MethodName := ⟨RX7, "fails", "(I)Z"⟩

abbrev cX7_isNumber : ByteArray := prog_9_method_6_code

def yX7_isNumber : MethodName := ⟨RX7, "isNumber", "()Z"⟩

abbrev cX7_number : ByteArray := prog_9_method_7_code

def yX7_number : MethodName := ⟨RX7, "number", "()I"⟩

abbrev cX7_isLong : ByteArray := prog_9_method_8_code

def yX7_isLong : MethodName := ⟨RX7, "isLong", "()Z"⟩

abbrev cX7_wordIn : ByteArray := prog_9_method_9_code

def yX7_wordIn : MethodName := ⟨RX7, "wordIn", "(Ljava/lang/String;)I"⟩

abbrev cX7_takesWord : ByteArray := prog_9_method_10_code

def yX7_takesWord : MethodName := ⟨RX7, "takesWord", "(Ljava/lang/String;)Z"⟩

def RX8 : String := "RaftForest$World"

def TX8 : u_T := fun k => match k with
  | 0 => ("RaftForest$World", "river", "LRaftForest$River;", true)
  | 1 => ("RaftForest$World", "state", "LRaftForest$State;", true)
  | 2 => ("RaftForest$World", "books", "LRaftForest$Books;", true)
  | 3 => ("RaftForest$World", "tally", "[I", true)
  | 4 => ("RaftForest$World", "rules", "[LRaftForest$Rule;", true)
  | 5 => ("RaftForest$World", "words", "[J", true)
  | 6 => ("RaftForest$World", "ranks", "[I", true)
  | 7 => ("RaftForest$World", "sums", "[J", true)
  | _ => ("RaftForest$World", "takenToday", "I", false)

def tyX8 : Nat → FieldType := fun k => match k with
  | 0 => .object "RaftForest$River"
  | 1 => .object "RaftForest$State"
  | 2 => .object "RaftForest$Books"
  | 3 => .array .int
  | 4 => .array (.object "RaftForest$Rule")
  | 5 => .array .long
  | 6 => .array .int
  | 7 => .array .long
  | _ => .int

abbrev wsX80 : List Cond := u_ws RX8 TX8 9

theorem nmX8 : ∀ a, a < 9 → ∀ b, b < 9 → a ≠ b → (TX8 a).2.1 ≠ (TX8 b).2.1 := by decide +kernel

theorem tyX8_ok : ∀ k, k < 9 → parseFieldDescriptor (TX8 k).2.2.1 = some (tyX8 k) := by decide +kernel

abbrev cX8_init : ByteArray := prog_10_method_1_code

def yX8_init : MethodName := ⟨RX8, "<init>", "(LRaftForest$River;[LRaftForest$Rule;)V"⟩

abbrev cX8_begin : ByteArray := prog_10_method_2_code

def yX8_begin : MethodName := ⟨RX8, "begin", "(LRaftForest$World;)V"⟩

abbrev cX8_bendOf : ByteArray := prog_10_method_3_code

def yX8_bendOf : MethodName := ⟨RX8, "bendOf", "(I)I"⟩

abbrev cX8_logsAt : ByteArray := prog_10_method_4_code

def yX8_logsAt : MethodName := ⟨RX8, "logsAt", "(I)I"⟩

abbrev cX8_roomAt : ByteArray := prog_10_method_5_code

def yX8_roomAt : MethodName := ⟨RX8, "roomAt", "(I)I"⟩

abbrev cX8_reaches : ByteArray := prog_10_method_6_code

def yX8_reaches : MethodName := ⟨RX8, "reaches", "(II)Z"⟩

abbrev cX8_villagesAt : ByteArray := prog_10_method_7_code

def yX8_villagesAt : MethodName := ⟨RX8, "villagesAt", "(I)I"⟩

abbrev cX8_daysKept : ByteArray := prog_10_method_8_code

def yX8_daysKept : MethodName := ⟨RX8, "daysKept", "()I"⟩

abbrev cX8_placeAgo : ByteArray := prog_10_method_9_code

def yX8_placeAgo : MethodName := ⟨RX8, "placeAgo", "(II)I"⟩

abbrev cX8_villagesSeen : ByteArray := prog_10_method_10_code

def yX8_villagesSeen : MethodName := ⟨RX8, "villagesSeen", "(III)I"⟩

abbrev cX8_ownerOf : ByteArray := prog_10_method_11_code

def yX8_ownerOf : MethodName := ⟨RX8, "ownerOf", "(I)I"⟩

abbrev cX8_notchesOf : ByteArray := prog_10_method_12_code

def yX8_notchesOf : MethodName := ⟨RX8, "notchesOf", "(II)I"⟩

abbrev cX8_logsOf : ByteArray := prog_10_method_13_code

def yX8_logsOf : MethodName := ⟨RX8, "logsOf", "(I)I"⟩

abbrev cX8_priceOf : ByteArray := prog_10_method_14_code

def yX8_priceOf : MethodName := ⟨RX8, "priceOf", "(I)I"⟩

abbrev cX8_priceOfSet : ByteArray := prog_10_method_15_code

def yX8_priceOfSet : MethodName := ⟨RX8, "priceOfSet", "(I)I"⟩

abbrev cX8_ownersBetween : ByteArray := prog_10_method_16_code

def yX8_ownersBetween : MethodName := ⟨RX8, "ownersBetween", "(II)I"⟩

abbrev cX8_tearing : ByteArray := prog_10_method_17_code

def yX8_tearing : MethodName := ⟨RX8, "tearing", "(I)I"⟩

abbrev cX8_keeping : ByteArray := prog_10_method_18_code

def yX8_keeping : MethodName := ⟨RX8, "keeping", "(I)I"⟩

abbrev cX8_asks : ByteArray := prog_10_method_19_code

def yX8_asks : MethodName := ⟨RX8, "asks", "(IIII)Z"⟩

abbrev cX8_roomFor : ByteArray := prog_10_method_20_code

def yX8_roomFor : MethodName := ⟨RX8, "roomFor", "(III)I"⟩

abbrev cX8_tellWords : ByteArray := prog_10_method_21_code

def yX8_tellWords : MethodName := ⟨RX8, "tellWords", "(IIII)V"⟩

abbrev cX8_passDay : ByteArray := prog_10_method_22_code

def yX8_passDay : MethodName := ⟨RX8, "passDay", "()V"⟩

abbrev cX8_passLog : ByteArray := prog_10_method_23_code

def yX8_passLog : MethodName := ⟨RX8, "passLog", "(I)V"⟩

abbrev cX8_jam : ByteArray := prog_10_method_24_code

def yX8_jam : MethodName := ⟨RX8, "jam", "(I)V"⟩

abbrev cX8_sell : ByteArray := prog_10_method_25_code

def yX8_sell : MethodName := ⟨RX8, "sell", "(I)V"⟩

abbrev cX8_passVillage : ByteArray := prog_10_method_26_code

def yX8_passVillage : MethodName := ⟨RX8, "passVillage", "(II)V"⟩

abbrev cX8_take : ByteArray := prog_10_method_27_code

def yX8_take : MethodName := ⟨RX8, "take", "(II)V"⟩

abbrev cX8_rise : ByteArray := prog_10_method_28_code

def yX8_rise : MethodName := ⟨RX8, "rise", "(I)V"⟩

abbrev cX8_goesAhead : ByteArray := prog_10_method_29_code

def yX8_goesAhead : MethodName := ⟨RX8, "goesAhead", "(II)Z"⟩

def RX9 : String := "RaftForest"

def TX9 : u_T := fun k => match k with
  | 0 => ("RaftForest", "tape", "LRaftForest$Tape;", true)
  | 1 => ("RaftForest", "riverReader", "LRaftForest$RiverReader;", true)
  | 2 => ("RaftForest", "ruleReader", "LRaftForest$RuleReader;", true)
  | 3 => ("RaftForest", "rules", "[LRaftForest$Rule;", true)
  | 4 => ("RaftForest", "ruleCount", "I", false)
  | 5 => ("RaftForest", "now", "LRaftForest$World;", true)
  | 6 => ("RaftForest", "trial", "LRaftForest$World;", true)
  | 7 => ("RaftForest", "images", "[LRaftForest$Image;", true)
  | 8 => ("RaftForest", "row", "[I", true)
  | 9 => ("RaftForest", "rowPlaces", "[I", true)
  | 10 => ("RaftForest", "bestRow", "[I", true)
  | _ => ("RaftForest", "groups", "[I", true)

def tyX9 : Nat → FieldType := fun k => match k with
  | 0 => .object "RaftForest$Tape"
  | 1 => .object "RaftForest$RiverReader"
  | 2 => .object "RaftForest$RuleReader"
  | 3 => .array (.object "RaftForest$Rule")
  | 4 => .int
  | 5 => .object "RaftForest$World"
  | 6 => .object "RaftForest$World"
  | 7 => .array (.object "RaftForest$Image")
  | 8 => .array .int
  | 9 => .array .int
  | 10 => .array .int
  | _ => .array .int

abbrev wsX90 : List Cond := u_ws RX9 TX9 12

theorem nmX9 : ∀ a, a < 12 → ∀ b, b < 12 → a ≠ b → (TX9 a).2.1 ≠ (TX9 b).2.1 := by decide +kernel

theorem tyX9_ok : ∀ k, k < 12 → parseFieldDescriptor (TX9 k).2.2.1 = some (tyX9 k) := by decide +kernel

abbrev cX9_init : ByteArray := prog_1_method_1_code

def yX9_init : MethodName := ⟨RX9, "<init>", "()V"⟩

abbrev cX9_feed : ByteArray := prog_1_method_2_code

def yX9_feed : MethodName := ⟨RX9, "feed", "(IIIII)I"⟩

abbrev cX9_end : ByteArray := prog_1_method_3_code

def yX9_end : MethodName := ⟨RX9, "end", "(I)I"⟩

abbrev cX9_river : ByteArray := prog_1_method_4_code

def yX9_river : MethodName := ⟨RX9, "river", "()I"⟩

abbrev cX9_rule : ByteArray := prog_1_method_5_code

def yX9_rule : MethodName := ⟨RX9, "rule", "()I"⟩

abbrev cX9_force : ByteArray := prog_1_method_6_code

def yX9_force : MethodName := ⟨RX9, "force", "(I)I"⟩

abbrev cX9_bind : ByteArray := prog_1_method_7_code

def yX9_bind : MethodName := ⟨RX9, "bind", "(II)I"⟩

abbrev cX9_law : ByteArray := prog_1_method_8_code

def yX9_law : MethodName := ⟨RX9, "law", "(II)I"⟩

abbrev cX9_bend : ByteArray := prog_1_method_9_code

def yX9_bend : MethodName := ⟨RX9, "bend", "(II)I"⟩

abbrev cX9_village : ByteArray := prog_1_method_10_code

def yX9_village : MethodName := ⟨RX9, "village", "(II)I"⟩

abbrev cX9_log : ByteArray := prog_1_method_11_code

def yX9_log : MethodName := ⟨RX9, "log", "(II)I"⟩

abbrev cX9_notch : ByteArray := prog_1_method_12_code

def yX9_notch : MethodName := ⟨RX9, "notch", "(II)I"⟩

abbrev cX9_cut : ByteArray := prog_1_method_13_code

def yX9_cut : MethodName := ⟨RX9, "cut", "(II)I"⟩

abbrev cX9_cutOver : ByteArray := prog_1_method_14_code

def yX9_cutOver : MethodName := ⟨RX9, "cutOver", "(III)I"⟩

abbrev cX9_undo : ByteArray := prog_1_method_15_code

def yX9_undo : MethodName := ⟨RX9, "undo", "()I"⟩

abbrev cX9_launch : ByteArray := prog_1_method_16_code

def yX9_launch : MethodName := ⟨RX9, "launch", "(I)I"⟩

abbrev cX9_land : ByteArray := prog_1_method_17_code

def yX9_land : MethodName := ⟨RX9, "land", "(II)Z"⟩

abbrev cX9_burn : ByteArray := prog_1_method_18_code

def yX9_burn : MethodName := ⟨RX9, "burn", "(I)I"⟩

abbrev cX9_saw : ByteArray := prog_1_method_19_code

def yX9_saw : MethodName := ⟨RX9, "saw", "(II)I"⟩

abbrev cX9_ahead : ByteArray := prog_1_method_20_code

def yX9_ahead : MethodName := ⟨RX9, "ahead", "(II)I"⟩

abbrev cX9_dam : ByteArray := prog_1_method_21_code

def yX9_dam : MethodName := ⟨RX9, "dam", "(I)I"⟩

abbrev cX9_appeal : ByteArray := prog_1_method_22_code

def yX9_appeal : MethodName := ⟨RX9, "appeal", "(I)I"⟩

abbrev cX9_votes : ByteArray := prog_1_method_23_code

def yX9_votes : MethodName := ⟨RX9, "votes", "(II)I"⟩

abbrev cX9_flood : ByteArray := prog_1_method_24_code

def yX9_flood : MethodName := ⟨RX9, "flood", "(I)I"⟩

abbrev cX9_elected : ByteArray := prog_1_method_25_code

def yX9_elected : MethodName := ⟨RX9, "elected", "(I)I"⟩

abbrev cX9_wedding : ByteArray := prog_1_method_26_code

def yX9_wedding : MethodName := ⟨RX9, "wedding", "(I)I"⟩

abbrev cX9_winter : ByteArray := prog_1_method_27_code

def yX9_winter : MethodName := ⟨RX9, "winter", "(I)I"⟩

abbrev cX9_days : ByteArray := prog_1_method_28_code

def yX9_days : MethodName := ⟨RX9, "days", "(I)I"⟩

abbrev cX9_floats : ByteArray := prog_1_method_29_code

def yX9_floats : MethodName := ⟨RX9, "floats", "(II)I"⟩

abbrev cX9_letAhead : ByteArray := prog_1_method_30_code

def yX9_letAhead : MethodName := ⟨RX9, "letAhead", "(II)I"⟩

abbrev cX9_takeRow : ByteArray := prog_1_method_31_code

def yX9_takeRow : MethodName := ⟨RX9, "takeRow", "()I"⟩

abbrev cX9_nextRow : ByteArray := prog_1_method_32_code

def yX9_nextRow : MethodName := ⟨RX9, "nextRow", "([II)Z"⟩

abbrev cX9_swap : ByteArray := prog_1_method_33_code

def yX9_swap : MethodName := ⟨RX9, "swap", "([III)V"⟩

abbrev cX9_kin : ByteArray := prog_1_method_34_code

def yX9_kin : MethodName := ⟨RX9, "kin", "(II)I"⟩

abbrev cX9_kinOf : ByteArray := prog_1_method_35_code

def yX9_kinOf : MethodName := ⟨RX9, "kinOf", "(I)I"⟩

abbrev cX9_was : ByteArray := prog_1_method_36_code

def yX9_was : MethodName := ⟨RX9, "was", "(II)I"⟩

abbrev cX9_wereAt : ByteArray := prog_1_method_37_code

def yX9_wereAt : MethodName := ⟨RX9, "wereAt", "(III)I"⟩

abbrev cX9_likely : ByteArray := prog_1_method_38_code

def yX9_likely : MethodName := ⟨RX9, "likely", "(IIIII)I"⟩

abbrev cX9_commonDivisor : ByteArray := prog_1_method_39_code

def yX9_commonDivisor : MethodName := ⟨RX9, "commonDivisor", "(II)I"⟩

abbrev cX9_areKept : ByteArray := prog_1_method_40_code

def yX9_areKept : MethodName := ⟨RX9, "areKept", "(III)Z"⟩

abbrev cX9_sight : ByteArray := prog_1_method_41_code

def yX9_sight : MethodName := ⟨RX9, "sight", "(III)I"⟩

abbrev cX9_parted : ByteArray := prog_1_method_42_code

def yX9_parted : MethodName := ⟨RX9, "parted", "(III)I"⟩

abbrev cX9_owes : ByteArray := prog_1_method_43_code

def yX9_owes : MethodName := ⟨RX9, "owes", "(II)I"⟩

abbrev cX9_payments : ByteArray := prog_1_method_44_code

def yX9_payments : MethodName := ⟨RX9, "payments", "()I"⟩

abbrev cX9_repaid : ByteArray := prog_1_method_45_code

def yX9_repaid : MethodName := ⟨RX9, "repaid", "(III)I"⟩

abbrev cX9_seed : ByteArray := prog_1_method_46_code

def yX9_seed : MethodName := ⟨RX9, "seed", "(I)I"⟩

abbrev cX9_drawn : ByteArray := prog_1_method_47_code

def yX9_drawn : MethodName := ⟨RX9, "drawn", "(IIII)I"⟩

abbrev cX9_nextDrawn : ByteArray := prog_1_method_48_code

def yX9_nextDrawn : MethodName := ⟨RX9, "nextDrawn", "(I)I"⟩

abbrev cX9_count : ByteArray := prog_1_method_49_code

def yX9_count : MethodName := ⟨RX9, "count", "(I)I"⟩

abbrev cX9_countKept : ByteArray := prog_1_method_50_code

def yX9_countKept : MethodName := ⟨RX9, "countKept", "(I)I"⟩

abbrev cX9_image : ByteArray := prog_1_method_51_code

def yX9_image : MethodName := ⟨RX9, "image", "(I)I"⟩

abbrev cX9_back : ByteArray := prog_1_method_52_code

def yX9_back : MethodName := ⟨RX9, "back", "(I)I"⟩

abbrev cX9_hasRiver : ByteArray := prog_1_method_53_code

def yX9_hasRiver : MethodName := ⟨RX9, "hasRiver", "()Z"⟩

abbrev cX9_isBend : ByteArray := prog_1_method_54_code

def yX9_isBend : MethodName := ⟨RX9, "isBend", "(I)Z"⟩

abbrev cX9_isVillage : ByteArray := prog_1_method_55_code

def yX9_isVillage : MethodName := ⟨RX9, "isVillage", "(I)Z"⟩

abbrev cX9_isLog : ByteArray := prog_1_method_56_code

def yX9_isLog : MethodName := ⟨RX9, "isLog", "(I)Z"⟩

abbrev cX9_isRule : ByteArray := prog_1_method_57_code

def yX9_isRule : MethodName := ⟨RX9, "isRule", "(I)Z"⟩

abbrev cX9_isRuleOrNone : ByteArray := prog_1_method_58_code

def yX9_isRuleOrNone : MethodName := ⟨RX9, "isRuleOrNone", "(I)Z"⟩

abbrev cX9_copyRow : ByteArray := prog_1_method_59_code

def yX9_copyRow : MethodName := ⟨RX9, "copyRow", "([I[I)V"⟩

def RX10 : String := "RaftForestModel"

def TX10 : u_T := fun k => match k with
  | 0 => ("RaftForestModel", "thrown", "I", false)
  | 1 => ("RaftForestModel", "scalar", "[I", true)
  | 2 => ("RaftForestModel", "width", "[I", true)
  | 3 => ("RaftForestModel", "dams", "[I", true)
  | 4 => ("RaftForestModel", "price", "[I", true)
  | 5 => ("RaftForestModel", "villageBend", "[I", true)
  | 6 => ("RaftForestModel", "villageRule", "[I", true)
  | 7 => ("RaftForestModel", "villageCoins", "[I", true)
  | 8 => ("RaftForestModel", "owed", "[I", true)
  | 9 => ("RaftForestModel", "wood", "[I", true)
  | 10 => ("RaftForestModel", "length", "[I", true)
  | 11 => ("RaftForestModel", "logRings", "[I", true)
  | 12 => ("RaftForestModel", "place", "[I", true)
  | 13 => ("RaftForestModel", "notches", "[I", true)
  | 14 => ("RaftForestModel", "jams", "[I", true)
  | 15 => ("RaftForestModel", "onEnd", "[I", true)
  | 16 => ("RaftForestModel", "weddings", "[I", true)
  | 17 => ("RaftForestModel", "order", "[I", true)
  | 18 => ("RaftForestModel", "notch", "[I", true)
  | 19 => ("RaftForestModel", "beams", "[I", true)
  | 20 => ("RaftForestModel", "sightLog", "[I", true)
  | 21 => ("RaftForestModel", "sightPlace", "[I", true)
  | 22 => ("RaftForestModel", "sightWhose", "[I", true)
  | 23 => ("RaftForestModel", "sightDay", "[I", true)
  | 24 => ("RaftForestModel", "cutLog", "[I", true)
  | 25 => ("RaftForestModel", "cutPlace", "[I", true)
  | 26 => ("RaftForestModel", "cutBy", "[I", true)
  | 27 => ("RaftForestModel", "cutWas", "[I", true)
  | 28 => ("RaftForestModel", "past", "[I", true)
  | 29 => ("RaftForestModel", "newScalar", "[I", true)
  | 30 => ("RaftForestModel", "newWidth", "[I", true)
  | 31 => ("RaftForestModel", "newPrice", "[I", true)
  | 32 => ("RaftForestModel", "newBend", "[I", true)
  | 33 => ("RaftForestModel", "newWood", "[I", true)
  | 34 => ("RaftForestModel", "newLength", "[I", true)
  | 35 => ("RaftForestModel", "newRings", "[I", true)
  | 36 => ("RaftForestModel", "newFelled", "[I", true)
  | 37 => ("RaftForestModel", "taped", "I", false)
  | 38 => ("RaftForestModel", "p", "I", false)
  | 39 => ("RaftForestModel", "fault", "I", false)
  | 40 => ("RaftForestModel", "slot", "I", false)
  | 41 => ("RaftForestModel", "rules", "I", false)
  | 42 => ("RaftForestModel", "entries", "I", false)
  | 43 => ("RaftForestModel", "deep", "I", false)
  | 44 => ("RaftForestModel", "counted", "I", false)
  | 45 => ("RaftForestModel", "opened", "I", false)
  | 46 => ("RaftForestModel", "words", "I", false)
  | 47 => ("RaftForestModel", "isTollTold", "Z", false)
  | 48 => ("RaftForestModel", "tape", "[B", true)
  | 49 => ("RaftForestModel", "sort", "[I", true)
  | 50 => ("RaftForestModel", "number", "[I", true)
  | 51 => ("RaftForestModel", "clauses", "[I", true)
  | 52 => ("RaftForestModel", "actOf", "[I", true)
  | 53 => ("RaftForestModel", "sumAt", "[I", true)
  | 54 => ("RaftForestModel", "testAt", "[I", true)
  | 55 => ("RaftForestModel", "endAt", "[I", true)
  | 56 => ("RaftForestModel", "open", "[I", true)
  | 57 => ("RaftForestModel", "asked", "[J", true)
  | 58 => ("RaftForestModel", "stack", "[J", true)
  | 59 => ("RaftForestModel", "group", "[I", true)
  | 60 => ("RaftForestModel", "rank", "[J", true)
  | 61 => ("RaftForestModel", "jammed", "I", false)
  | 62 => ("RaftForestModel", "sold", "I", false)
  | 63 => ("RaftForestModel", "soldCoins", "I", false)
  | 64 => ("RaftForestModel", "taken", "I", false)
  | 65 => ("RaftForestModel", "added", "I", false)
  | 66 => ("RaftForestModel", "faded", "I", false)
  | 67 => ("RaftForestModel", "takenSet", "I", false)
  | 68 => ("RaftForestModel", "past0", "[I", true)
  | 69 => ("RaftForestModel", "floating", "[I", true)
  | 70 => ("RaftForestModel", "spot", "[I", true)
  | 71 => ("RaftForestModel", "rowNow", "[I", true)
  | 72 => ("RaftForestModel", "bestRow", "[I", true)
  | 73 => ("RaftForestModel", "floatingMany", "I", false)
  | 74 => ("RaftForestModel", "fewestJams", "I", false)
  | 75 => ("RaftForestModel", "groupsOf", "[I", true)
  | 76 => ("RaftForestModel", "images", "[I", true)
  | 77 => ("RaftForestModel", "isMade", "[Z", true)
  | 78 => ("RaftForestModel", "imageAt", "I", false)
  | _ => ("RaftForestModel", "goesBack", "Z", false)

def tyX10 : Nat → FieldType := fun k => match k with
  | 0 => .int
  | 1 => .array .int
  | 2 => .array .int
  | 3 => .array .int
  | 4 => .array .int
  | 5 => .array .int
  | 6 => .array .int
  | 7 => .array .int
  | 8 => .array .int
  | 9 => .array .int
  | 10 => .array .int
  | 11 => .array .int
  | 12 => .array .int
  | 13 => .array .int
  | 14 => .array .int
  | 15 => .array .int
  | 16 => .array .int
  | 17 => .array .int
  | 18 => .array .int
  | 19 => .array .int
  | 20 => .array .int
  | 21 => .array .int
  | 22 => .array .int
  | 23 => .array .int
  | 24 => .array .int
  | 25 => .array .int
  | 26 => .array .int
  | 27 => .array .int
  | 28 => .array .int
  | 29 => .array .int
  | 30 => .array .int
  | 31 => .array .int
  | 32 => .array .int
  | 33 => .array .int
  | 34 => .array .int
  | 35 => .array .int
  | 36 => .array .int
  | 37 => .int
  | 38 => .int
  | 39 => .int
  | 40 => .int
  | 41 => .int
  | 42 => .int
  | 43 => .int
  | 44 => .int
  | 45 => .int
  | 46 => .int
  | 47 => .boolean
  | 48 => .array .byte
  | 49 => .array .int
  | 50 => .array .int
  | 51 => .array .int
  | 52 => .array .int
  | 53 => .array .int
  | 54 => .array .int
  | 55 => .array .int
  | 56 => .array .int
  | 57 => .array .long
  | 58 => .array .long
  | 59 => .array .int
  | 60 => .array .long
  | 61 => .int
  | 62 => .int
  | 63 => .int
  | 64 => .int
  | 65 => .int
  | 66 => .int
  | 67 => .int
  | 68 => .array .int
  | 69 => .array .int
  | 70 => .array .int
  | 71 => .array .int
  | 72 => .array .int
  | 73 => .int
  | 74 => .int
  | 75 => .array .int
  | 76 => .array .int
  | 77 => .array .boolean
  | 78 => .int
  | _ => .boolean

abbrev wsX100 : List Cond := u_ws RX10 TX10 80

theorem nmX10 : ∀ a, a < 80 → ∀ b, b < 80 → a ≠ b → (TX10 a).2.1 ≠ (TX10 b).2.1 := by decide +kernel

theorem tyX10_ok : ∀ k, k < 80 → parseFieldDescriptor (TX10 k).2.2.1 = some (tyX10 k) := by decide +kernel

abbrev cX10_init : ByteArray := prog_12_method_1_code

def yX10_init : MethodName := ⟨RX10, "<init>", "()V"⟩

abbrev cX10_in : ByteArray := prog_12_method_3_code

def yX10_in : MethodName := ⟨RX10, "in", "(JJJ)Z"⟩

abbrev cX10_bits : ByteArray := prog_12_method_4_code

def yX10_bits : MethodName := ⟨RX10, "bits", "(I)I"⟩

abbrev cX10_divisor : ByteArray := prog_12_method_5_code

def yX10_divisor : MethodName := ⟨RX10, "divisor", "(II)I"⟩

abbrev cX10_isRiver : ByteArray := prog_12_method_6_code

def yX10_isRiver : MethodName := ⟨RX10, "isRiver", "()Z"⟩

abbrev cX10_isBend : ByteArray := prog_12_method_7_code

def yX10_isBend : MethodName := ⟨RX10, "isBend", "(I)Z"⟩

abbrev cX10_isVillage : ByteArray := prog_12_method_8_code

def yX10_isVillage : MethodName := ⟨RX10, "isVillage", "(I)Z"⟩

abbrev cX10_isLog : ByteArray := prog_12_method_9_code

def yX10_isLog : MethodName := ⟨RX10, "isLog", "(I)Z"⟩

abbrev cX10_isInWater : ByteArray := prog_12_method_10_code

def yX10_isInWater : MethodName := ⟨RX10, "isInWater", "(I)Z"⟩

abbrev cX10_isAshore : ByteArray := prog_12_method_11_code

def yX10_isAshore : MethodName := ⟨RX10, "isAshore", "(I)Z"⟩

abbrev cX10_isThere : ByteArray := prog_12_method_12_code

def yX10_isThere : MethodName := ⟨RX10, "isThere", "(I)Z"⟩

abbrev cX10_logsAt : ByteArray := prog_12_method_13_code

def yX10_logsAt : MethodName := ⟨RX10, "logsAt", "(I)I"⟩

abbrev cX10_bendOf : ByteArray := prog_12_method_14_code

def yX10_bendOf : MethodName := ⟨RX10, "bendOf", "(I)I"⟩

abbrev cX10_roomAt : ByteArray := prog_12_method_15_code

def yX10_roomAt : MethodName := ⟨RX10, "roomAt", "(I)I"⟩

abbrev cX10_priceOf : ByteArray := prog_12_method_16_code

def yX10_priceOf : MethodName := ⟨RX10, "priceOf", "(I)I"⟩

abbrev cX10_firstOf : ByteArray := prog_12_method_17_code

def yX10_firstOf : MethodName := ⟨RX10, "firstOf", "(I)I"⟩

abbrev cX10_lastOf : ByteArray := prog_12_method_18_code

def yX10_lastOf : MethodName := ⟨RX10, "lastOf", "(I)I"⟩

abbrev cX10_notchesOf : ByteArray := prog_12_method_19_code

def yX10_notchesOf : MethodName := ⟨RX10, "notchesOf", "(II)I"⟩

abbrev cX10_feed : ByteArray := prog_12_method_20_code

def yX10_feed : MethodName := ⟨RX10, "feed", "(IIIII)I"⟩

abbrev cX10_put : ByteArray := prog_12_method_21_code

def yX10_put : MethodName := ⟨RX10, "put", "(I)V"⟩

abbrev cX10_end : ByteArray := prog_12_method_22_code

def yX10_end : MethodName := ⟨RX10, "end", "(I)I"⟩

abbrev cX10_wordOf : ByteArray := prog_12_method_23_code

def yX10_wordOf : MethodName := ⟨RX10, "wordOf", "(I)Ljava/lang/String;"⟩

abbrev cX10_fails : ByteArray := prog_12_method_24_code

def yX10_fails : MethodName := ⟨RX10, "fails", "(II)V"⟩

abbrev cX10_sign : ByteArray := prog_12_method_25_code

def yX10_sign : MethodName := ⟨RX10, "sign", "()I"⟩

abbrev cX10_blanks : ByteArray := prog_12_method_26_code

def yX10_blanks : MethodName := ⟨RX10, "blanks", "()V"⟩

abbrev cX10_isDigit : ByteArray := prog_12_method_27_code

def yX10_isDigit : MethodName := ⟨RX10, "isDigit", "()Z"⟩

abbrev cX10_stood : ByteArray := prog_12_method_28_code

def yX10_stood : MethodName := ⟨RX10, "stood", "(Ljava/lang/String;)Z"⟩

abbrev cX10_takes : ByteArray := prog_12_method_29_code

def yX10_takes : MethodName := ⟨RX10, "takes", "(Ljava/lang/String;)Z"⟩

abbrev cX10_entry : ByteArray := prog_12_method_30_code

def yX10_entry : MethodName := ⟨RX10, "entry", "(II)V"⟩

abbrev cX10_isCounted : ByteArray := prog_12_method_31_code

def yX10_isCounted : MethodName := ⟨RX10, "isCounted", "(I)V"⟩

abbrev cX10_digits : ByteArray := prog_12_method_32_code

def yX10_digits : MethodName := ⟨RX10, "digits", "(I)I"⟩

abbrev cX10_value : ByteArray := prog_12_method_33_code

def yX10_value : MethodName := ⟨RX10, "value", "()V"⟩

abbrev cX10_term : ByteArray := prog_12_method_34_code

def yX10_term : MethodName := ⟨RX10, "term", "()V"⟩

abbrev cX10_sum : ByteArray := prog_12_method_35_code

def yX10_sum : MethodName := ⟨RX10, "sum", "()V"⟩

abbrev cX10_compared : ByteArray := prog_12_method_36_code

def yX10_compared : MethodName := ⟨RX10, "compared", "()V"⟩

abbrev cX10_top : ByteArray := prog_12_method_37_code

def yX10_top : MethodName := ⟨RX10, "top", "()I"⟩

abbrev cX10_opens : ByteArray := prog_12_method_38_code

def yX10_opens : MethodName := ⟨RX10, "opens", "(I)V"⟩

abbrev cX10_answers : ByteArray := prog_12_method_39_code

def yX10_answers : MethodName := ⟨RX10, "answers", "(I)V"⟩

abbrev cX10_fact : ByteArray := prog_12_method_40_code

def yX10_fact : MethodName := ⟨RX10, "fact", "()Z"⟩

abbrev cX10_test : ByteArray := prog_12_method_41_code

def yX10_test : MethodName := ⟨RX10, "test", "()V"⟩

abbrev cX10_amount : ByteArray := prog_12_method_42_code

def yX10_amount : MethodName := ⟨RX10, "amount", "(II)I"⟩

abbrev cX10_riverWord : ByteArray := prog_12_method_43_code

def yX10_riverWord : MethodName := ⟨RX10, "riverWord", "(I)Ljava/lang/String;"⟩

abbrev cX10_readsLog : ByteArray := prog_12_method_44_code

def yX10_readsLog : MethodName := ⟨RX10, "readsLog", "()V"⟩

abbrev cX10_riverPart : ByteArray := prog_12_method_45_code

def yX10_riverPart : MethodName := ⟨RX10, "riverPart", "(I)V"⟩

abbrev cX10_isFull : ByteArray := prog_12_method_46_code

def yX10_isFull : MethodName := ⟨RX10, "isFull", "(II)Z"⟩

abbrev cX10_riverClause : ByteArray := prog_12_method_47_code

def yX10_riverClause : MethodName := ⟨RX10, "riverClause", "(I)V"⟩

abbrev cX10_lay : ByteArray := prog_12_method_48_code

def yX10_lay : MethodName := ⟨RX10, "lay", "([I[I)V"⟩

abbrev cX10_goesOn : ByteArray := prog_12_method_49_code

def yX10_goesOn : MethodName := ⟨RX10, "goesOn", "()Z"⟩

abbrev cX10_starts : ByteArray := prog_12_method_50_code

def yX10_starts : MethodName := ⟨RX10, "starts", "()V"⟩

abbrev cX10_begins : ByteArray := prog_12_method_51_code

def yX10_begins : MethodName := ⟨RX10, "begins", "()V"⟩

abbrev cX10_river : ByteArray := prog_12_method_52_code

def yX10_river : MethodName := ⟨RX10, "river", "()I"⟩

abbrev cX10_actWord : ByteArray := prog_12_method_53_code

def yX10_actWord : MethodName := ⟨RX10, "actWord", "(I)Ljava/lang/String;"⟩

abbrev cX10_ruleClause : ByteArray := prog_12_method_54_code

def yX10_ruleClause : MethodName := ⟨RX10, "ruleClause", "(I)V"⟩

abbrev cX10_rule : ByteArray := prog_12_method_55_code

def yX10_rule : MethodName := ⟨RX10, "rule", "()I"⟩

abbrev cX10_isRuleOrNone : ByteArray := prog_12_method_56_code

def yX10_isRuleOrNone : MethodName := ⟨RX10, "isRuleOrNone", "(I)Z"⟩

abbrev cX10_force : ByteArray := prog_12_method_57_code

def yX10_force : MethodName := ⟨RX10, "force", "(I)I"⟩

abbrev cX10_bind : ByteArray := prog_12_method_58_code

def yX10_bind : MethodName := ⟨RX10, "bind", "(II)I"⟩

abbrev cX10_law : ByteArray := prog_12_method_59_code

def yX10_law : MethodName := ⟨RX10, "law", "(II)I"⟩

abbrev cX10_orNine : ByteArray := prog_12_method_60_code

def yX10_orNine : MethodName := ⟨RX10, "orNine", "(I)I"⟩

abbrev cX10_asks : ByteArray := prog_12_method_61_code

def yX10_asks : MethodName := ⟨RX10, "asks", "(IIII)V"⟩

abbrev cX10_holds : ByteArray := prog_12_method_62_code

def yX10_holds : MethodName := ⟨RX10, "holds", "(II)Z"⟩

abbrev cX10_firstClause : ByteArray := prog_12_method_63_code

def yX10_firstClause : MethodName := ⟨RX10, "firstClause", "(II)I"⟩

abbrev cX10_truth : ByteArray := prog_12_method_64_code

def yX10_truth : MethodName := ⟨RX10, "truth", "(Z)J"⟩

abbrev cX10_both : ByteArray := prog_12_method_65_code

def yX10_both : MethodName := ⟨RX10, "both", "(IJJ)J"⟩

abbrev cX10_answer : ByteArray := prog_12_method_66_code

def yX10_answer : MethodName := ⟨RX10, "answer", "(III)J"⟩

abbrev cX10_byMost : ByteArray := prog_12_method_67_code

def yX10_byMost : MethodName := ⟨RX10, "byMost", "(I)I"⟩

abbrev cX10_byRule : ByteArray := prog_12_method_68_code

def yX10_byRule : MethodName := ⟨RX10, "byRule", "(I)I"⟩

abbrev cX10_ownerOf : ByteArray := prog_12_method_69_code

def yX10_ownerOf : MethodName := ⟨RX10, "ownerOf", "(I)I"⟩

abbrev cX10_saysOf : ByteArray := prog_12_method_70_code

def yX10_saysOf : MethodName := ⟨RX10, "saysOf", "(IIIII)Z"⟩

abbrev cX10_roomAhead : ByteArray := prog_12_method_71_code

def yX10_roomAhead : MethodName := ⟨RX10, "roomAhead", "(I)I"⟩

abbrev cX10_bend : ByteArray := prog_12_method_72_code

def yX10_bend : MethodName := ⟨RX10, "bend", "(II)I"⟩

abbrev cX10_ownedBy : ByteArray := prog_12_method_73_code

def yX10_ownedBy : MethodName := ⟨RX10, "ownedBy", "(I)I"⟩

abbrev cX10_netOf : ByteArray := prog_12_method_74_code

def yX10_netOf : MethodName := ⟨RX10, "netOf", "(I)I"⟩

abbrev cX10_village : ByteArray := prog_12_method_75_code

def yX10_village : MethodName := ⟨RX10, "village", "(II)I"⟩

abbrev cX10_placeInOrder : ByteArray := prog_12_method_76_code

def yX10_placeInOrder : MethodName := ⟨RX10, "placeInOrder", "(I)I"⟩

abbrev cX10_log : ByteArray := prog_12_method_77_code

def yX10_log : MethodName := ⟨RX10, "log", "(II)I"⟩

abbrev cX10_notch : ByteArray := prog_12_method_78_code

def yX10_notch : MethodName := ⟨RX10, "notch", "(II)I"⟩

abbrev cX10_mayCut : ByteArray := prog_12_method_79_code

def yX10_mayCut : MethodName := ⟨RX10, "mayCut", "(II)Z"⟩

abbrev cX10_keepsCut : ByteArray := prog_12_method_80_code

def yX10_keepsCut : MethodName := ⟨RX10, "keepsCut", "(IIII)V"⟩

abbrev cX10_cut : ByteArray := prog_12_method_81_code

def yX10_cut : MethodName := ⟨RX10, "cut", "(II)I"⟩

abbrev cX10_cutOver : ByteArray := prog_12_method_82_code

def yX10_cutOver : MethodName := ⟨RX10, "cutOver", "(III)I"⟩

abbrev cX10_undo : ByteArray := prog_12_method_83_code

def yX10_undo : MethodName := ⟨RX10, "undo", "()I"⟩

abbrev cX10_launch : ByteArray := prog_12_method_84_code

def yX10_launch : MethodName := ⟨RX10, "launch", "(I)I"⟩

abbrev cX10_land : ByteArray := prog_12_method_85_code

def yX10_land : MethodName := ⟨RX10, "land", "(II)Z"⟩

abbrev cX10_owes1 : ByteArray := prog_12_method_86_code

def yX10_owes1 : MethodName := ⟨RX10, "owes1", "(III)V"⟩

abbrev cX10_burn : ByteArray := prog_12_method_87_code

def yX10_burn : MethodName := ⟨RX10, "burn", "(I)I"⟩

abbrev cX10_saw : ByteArray := prog_12_method_88_code

def yX10_saw : MethodName := ⟨RX10, "saw", "(II)I"⟩

abbrev cX10_ahead : ByteArray := prog_12_method_89_code

def yX10_ahead : MethodName := ⟨RX10, "ahead", "(II)I"⟩

abbrev cX10_dam : ByteArray := prog_12_method_90_code

def yX10_dam : MethodName := ⟨RX10, "dam", "(I)I"⟩

abbrev cX10_votesOf : ByteArray := prog_12_method_91_code

def yX10_votesOf : MethodName := ⟨RX10, "votesOf", "(IZ)I"⟩

abbrev cX10_votes : ByteArray := prog_12_method_92_code

def yX10_votes : MethodName := ⟨RX10, "votes", "(II)I"⟩

abbrev cX10_appeal : ByteArray := prog_12_method_93_code

def yX10_appeal : MethodName := ⟨RX10, "appeal", "(I)I"⟩

abbrev cX10_elects : ByteArray := prog_12_method_94_code

def yX10_elects : MethodName := ⟨RX10, "elects", "()V"⟩

abbrev cX10_floods : ByteArray := prog_12_method_95_code

def yX10_floods : MethodName := ⟨RX10, "floods", "(I)V"⟩

abbrev cX10_flood : ByteArray := prog_12_method_96_code

def yX10_flood : MethodName := ⟨RX10, "flood", "(I)I"⟩

abbrev cX10_elected : ByteArray := prog_12_method_97_code

def yX10_elected : MethodName := ⟨RX10, "elected", "(I)I"⟩

abbrev cX10_wedding : ByteArray := prog_12_method_98_code

def yX10_wedding : MethodName := ⟨RX10, "wedding", "(I)I"⟩

abbrev cX10_winter : ByteArray := prog_12_method_99_code

def yX10_winter : MethodName := ⟨RX10, "winter", "(I)I"⟩

abbrev cX10_forgetsCounts : ByteArray := prog_12_method_100_code

def yX10_forgetsCounts : MethodName := ⟨RX10, "forgetsCounts", "()V"⟩

abbrev cX10_jams1 : ByteArray := prog_12_method_101_code

def yX10_jams1 : MethodName := ⟨RX10, "jams1", "(I)V"⟩

abbrev cX10_sells : ByteArray := prog_12_method_102_code

def yX10_sells : MethodName := ⟨RX10, "sells", "(I)V"⟩

abbrev cX10_ownerAtMouth : ByteArray := prog_12_method_103_code

def yX10_ownerAtMouth : MethodName := ⟨RX10, "ownerAtMouth", "(I)I"⟩

abbrev cX10_floats1 : ByteArray := prog_12_method_104_code

def yX10_floats1 : MethodName := ⟨RX10, "floats1", "(I)V"⟩

abbrev cX10_goesAll : ByteArray := prog_12_method_105_code

def yX10_goesAll : MethodName := ⟨RX10, "goesAll", "()V"⟩

abbrev cX10_takes1 : ByteArray := prog_12_method_106_code

def yX10_takes1 : MethodName := ⟨RX10, "takes1", "(II)V"⟩

abbrev cX10_worksVillage : ByteArray := prog_12_method_107_code

def yX10_worksVillage : MethodName := ⟨RX10, "worksVillage", "(I)V"⟩

abbrev cX10_keepsPlaces : ByteArray := prog_12_method_108_code

def yX10_keepsPlaces : MethodName := ⟨RX10, "keepsPlaces", "()V"⟩

abbrev cX10_day : ByteArray := prog_12_method_109_code

def yX10_day : MethodName := ⟨RX10, "day", "()V"⟩

abbrev cX10_days : ByteArray := prog_12_method_110_code

def yX10_days : MethodName := ⟨RX10, "days", "(I)I"⟩

abbrev cX10_counted1 : ByteArray := prog_12_method_111_code

def yX10_counted1 : MethodName := ⟨RX10, "counted1", "(I)I"⟩

abbrev cX10_wouldBe : ByteArray := prog_12_method_112_code

def yX10_wouldBe : MethodName := ⟨RX10, "wouldBe", "(I)V"⟩

abbrev cX10_floats : ByteArray := prog_12_method_113_code

def yX10_floats : MethodName := ⟨RX10, "floats", "(II)I"⟩

abbrev cX10_fillsFloating : ByteArray := prog_12_method_114_code

def yX10_fillsFloating : MethodName := ⟨RX10, "fillsFloating", "()V"⟩

abbrev cX10_laysRow : ByteArray := prog_12_method_115_code

def yX10_laysRow : MethodName := ⟨RX10, "laysRow", "(I)Z"⟩

abbrev cX10_findsAhead : ByteArray := prog_12_method_116_code

def yX10_findsAhead : MethodName := ⟨RX10, "findsAhead", "(I)V"⟩

abbrev cX10_letAhead : ByteArray := prog_12_method_117_code

def yX10_letAhead : MethodName := ⟨RX10, "letAhead", "(II)I"⟩

abbrev cX10_stepOfKin : ByteArray := prog_12_method_118_code

def yX10_stepOfKin : MethodName := ⟨RX10, "stepOfKin", "(I)I"⟩

abbrev cX10_kin : ByteArray := prog_12_method_119_code

def yX10_kin : MethodName := ⟨RX10, "kin", "(II)I"⟩

abbrev cX10_kinOf : ByteArray := prog_12_method_120_code

def yX10_kinOf : MethodName := ⟨RX10, "kinOf", "(I)I"⟩

abbrev cX10_was : ByteArray := prog_12_method_121_code

def yX10_was : MethodName := ⟨RX10, "was", "(II)I"⟩

abbrev cX10_atAgo : ByteArray := prog_12_method_122_code

def yX10_atAgo : MethodName := ⟨RX10, "atAgo", "(II)I"⟩

abbrev cX10_wereAtIn : ByteArray := prog_12_method_123_code

def yX10_wereAtIn : MethodName := ⟨RX10, "wereAtIn", "(III)I"⟩

abbrev cX10_wereAt : ByteArray := prog_12_method_124_code

def yX10_wereAt : MethodName := ⟨RX10, "wereAt", "(III)I"⟩

abbrev cX10_likely : ByteArray := prog_12_method_125_code

def yX10_likely : MethodName := ⟨RX10, "likely", "(IIIII)I"⟩

abbrev cX10_sight : ByteArray := prog_12_method_126_code

def yX10_sight : MethodName := ⟨RX10, "sight", "(III)I"⟩

abbrev cX10_whoCould : ByteArray := prog_12_method_127_code

def yX10_whoCould : MethodName := ⟨RX10, "whoCould", "(III)I"⟩

abbrev cX10_parted : ByteArray := prog_12_method_128_code

def yX10_parted : MethodName := ⟨RX10, "parted", "(III)I"⟩

abbrev cX10_owes : ByteArray := prog_12_method_129_code

def yX10_owes : MethodName := ⟨RX10, "owes", "(II)I"⟩

abbrev cX10_payments : ByteArray := prog_12_method_130_code

def yX10_payments : MethodName := ⟨RX10, "payments", "()I"⟩

abbrev cX10_repaid : ByteArray := prog_12_method_131_code

def yX10_repaid : MethodName := ⟨RX10, "repaid", "(III)I"⟩

abbrev cX10_seed : ByteArray := prog_12_method_132_code

def yX10_seed : MethodName := ⟨RX10, "seed", "(I)I"⟩

abbrev cX10_draws : ByteArray := prog_12_method_133_code

def yX10_draws : MethodName := ⟨RX10, "draws", "(I)I"⟩

abbrev cX10_drawn : ByteArray := prog_12_method_134_code

def yX10_drawn : MethodName := ⟨RX10, "drawn", "(IIII)I"⟩

abbrev cX10_countOf : ByteArray := prog_12_method_135_code

def yX10_countOf : MethodName := ⟨RX10, "countOf", "(II)I"⟩

abbrev cX10_count : ByteArray := prog_12_method_136_code

def yX10_count : MethodName := ⟨RX10, "count", "(I)I"⟩

abbrev cX10_carry : ByteArray := prog_12_method_137_code

def yX10_carry : MethodName := ⟨RX10, "carry", "([I)V"⟩

abbrev cX10_carriesAll : ByteArray := prog_12_method_138_code

def yX10_carriesAll : MethodName := ⟨RX10, "carriesAll", "(IZ)V"⟩

abbrev cX10_keeps : ByteArray := prog_12_method_139_code

def yX10_keeps : MethodName := ⟨RX10, "keeps", "()V"⟩

abbrev cX10_laysBack : ByteArray := prog_12_method_140_code

def yX10_laysBack : MethodName := ⟨RX10, "laysBack", "()V"⟩

abbrev cX10_image : ByteArray := prog_12_method_141_code

def yX10_image : MethodName := ⟨RX10, "image", "(I)I"⟩

abbrev cX10_back : ByteArray := prog_12_method_142_code

def yX10_back : MethodName := ⟨RX10, "back", "(I)I"⟩

def RJx145de : String := "java/io/Serializable"

def TJx145de : u_T := fun k => match k with
  | _ => ("", "", "", false)

def tyJx145de : Nat → FieldType := fun k => match k with
  | _ => .int

abbrev wsJx145de0 : List Cond := u_ws RJx145de TJx145de 0

theorem nmJx145de : ∀ a, a < 0 → ∀ b, b < 0 → a ≠ b → (TJx145de a).2.1 ≠ (TJx145de b).2.1 := by decide +kernel

theorem tyJx145de_ok : ∀ k, k < 0 → parseFieldDescriptor (TJx145de k).2.2.1 = some (tyJx145de k) := by decide +kernel

def RJx9f9b0 : String := "java/lang/CharSequence"

def TJx9f9b0 : u_T := fun k => match k with
  | _ => ("", "", "", false)

def tyJx9f9b0 : Nat → FieldType := fun k => match k with
  | _ => .int

abbrev wsJx9f9b00 : List Cond := u_ws RJx9f9b0 TJx9f9b0 0

theorem nmJx9f9b0 : ∀ a, a < 0 → ∀ b, b < 0 → a ≠ b → (TJx9f9b0 a).2.1 ≠ (TJx9f9b0 b).2.1 := by decide +kernel

theorem tyJx9f9b0_ok : ∀ k, k < 0 → parseFieldDescriptor (TJx9f9b0 k).2.2.1 = some (tyJx9f9b0 k) := by decide +kernel

def RJxb160c : String := "java/lang/Comparable"

def TJxb160c : u_T := fun k => match k with
  | _ => ("", "", "", false)

def tyJxb160c : Nat → FieldType := fun k => match k with
  | _ => .int

abbrev wsJxb160c0 : List Cond := u_ws RJxb160c TJxb160c 0

theorem nmJxb160c : ∀ a, a < 0 → ∀ b, b < 0 → a ≠ b → (TJxb160c a).2.1 ≠ (TJxb160c b).2.1 := by decide +kernel

theorem tyJxb160c_ok : ∀ k, k < 0 → parseFieldDescriptor (TJxb160c k).2.2.1 = some (tyJxb160c k) := by decide +kernel

def RJ6 : String := "java/lang/Integer"

def TJ6 : u_T := fun k => match k with
  | _ => ("", "", "", false)

def tyJ6 : Nat → FieldType := fun k => match k with
  | _ => .int

abbrev wsJ60 : List Cond := u_ws RJ6 TJ6 0

theorem nmJ6 : ∀ a, a < 0 → ∀ b, b < 0 → a ≠ b → (TJ6 a).2.1 ≠ (TJ6 b).2.1 := by decide +kernel

theorem tyJ6_ok : ∀ k, k < 0 → parseFieldDescriptor (TJ6 k).2.2.1 = some (tyJ6 k) := by decide +kernel

abbrev cJ6_bitCount_0f7a4 : ByteArray := prog_13_method_49_code

def yJ6_bitCount_0f7a4 : MethodName := ⟨RJ6, "bitCount", "(I)I"⟩

def RJ9 : String := "java/lang/Math"

def TJ9 : u_T := fun k => match k with
  | _ => ("", "", "", false)

def tyJ9 : Nat → FieldType := fun k => match k with
  | _ => .int

abbrev wsJ90 : List Cond := u_ws RJ9 TJ9 0

theorem nmJ9 : ∀ a, a < 0 → ∀ b, b < 0 → a ≠ b → (TJ9 a).2.1 ≠ (TJ9 b).2.1 := by decide +kernel

theorem tyJ9_ok : ∀ k, k < 0 → parseFieldDescriptor (TJ9 k).2.2.1 = some (tyJ9 k) := by decide +kernel

abbrev cJ9_floorMod_7cf53 : ByteArray := prog_14_method_50_code

def yJ9_floorMod_7cf53 : MethodName := ⟨RJ9, "floorMod", "(II)I"⟩

abbrev cJ9_max_7cf53 : ByteArray := prog_14_method_65_code

def yJ9_max_7cf53 : MethodName := ⟨RJ9, "max", "(II)I"⟩

abbrev cJ9_min_7cf53 : ByteArray := prog_14_method_69_code

def yJ9_min_7cf53 : MethodName := ⟨RJ9, "min", "(II)I"⟩

def RJ0 : String := "java/lang/String"

def TJ0 : u_T := fun k => match k with
  | _ => ("", "", "", false)

def tyJ0 : Nat → FieldType := fun k => match k with
  | _ => .int

abbrev wsJ00 : List Cond := u_ws RJ0 TJ0 0

theorem nmJ0 : ∀ a, a < 0 → ∀ b, b < 0 → a ≠ b → (TJ0 a).2.1 ≠ (TJ0 b).2.1 := by decide +kernel

theorem tyJ0_ok : ∀ k, k < 0 → parseFieldDescriptor (TJ0 k).2.2.1 = some (tyJ0 k) := by decide +kernel

abbrev cJ0_length_8abf5 : ByteArray := prog_15_method_54_code

def yJ0_length_8abf5 : MethodName := ⟨RJ0, "length", "()I"⟩

abbrev cJ0_charAt_5068e : ByteArray := prog_15_method_56_code

def yJ0_charAt_5068e : MethodName := ⟨RJ0, "charAt", "(I)C"⟩

abbrev cJ0_coder_7d493 : ByteArray := prog_15_method_152_code

def yJ0_coder_7d493 : MethodName := ⟨RJ0, "coder", "()B"⟩

abbrev cJ0_isLatin1_aae02 : ByteArray := prog_15_method_154_code

def yJ0_isLatin1_aae02 : MethodName := ⟨RJ0, "isLatin1", "()Z"⟩

abbrev cJ0_checkIndex_df160 : ByteArray := prog_15_method_155_code

def yJ0_checkIndex_df160 : MethodName := ⟨RJ0, "checkIndex", "(II)V"⟩

def RJ1 : String := "java/lang/StringLatin1"

def TJ1 : u_T := fun k => match k with
  | _ => ("", "", "", false)

def tyJ1 : Nat → FieldType := fun k => match k with
  | _ => .int

abbrev wsJ10 : List Cond := u_ws RJ1 TJ1 0

theorem nmJ1 : ∀ a, a < 0 → ∀ b, b < 0 → a ≠ b → (TJ1 a).2.1 ≠ (TJ1 b).2.1 := by decide +kernel

theorem tyJ1_ok : ∀ k, k < 0 → parseFieldDescriptor (TJ1 k).2.2.1 = some (tyJ1 k) := by decide +kernel

abbrev cJ1_charAt_3b067 : ByteArray := prog_16_method_2_code

def yJ1_charAt_3b067 : MethodName := ⟨RJ1, "charAt", "([BI)C"⟩

def RJ2 : String := "java/lang/StringUTF16"

def TJ2 : u_T := fun k => match k with
  | _ => ("", "", "", false)

def tyJ2 : Nat → FieldType := fun k => match k with
  | _ => .int

abbrev wsJ20 : List Cond := u_ws RJ2 TJ2 0

theorem nmJ2 : ∀ a, a < 0 → ∀ b, b < 0 → a ≠ b → (TJ2 a).2.1 ≠ (TJ2 b).2.1 := by decide +kernel

theorem tyJ2_ok : ∀ k, k < 0 → parseFieldDescriptor (TJ2 k).2.2.1 = some (tyJ2 k) := by decide +kernel

abbrev cJ2_getChar_3b067 : ByteArray := prog_17_method_5_code

def yJ2_getChar_3b067 : MethodName := ⟨RJ2, "getChar", "([BI)C"⟩

abbrev cJ2_length_9d52b : ByteArray := prog_17_method_6_code

def yJ2_length_9d52b : MethodName := ⟨RJ2, "length", "([B)I"⟩

abbrev cJ2_charAt_3b067 : ByteArray := prog_17_method_83_code

def yJ2_charAt_3b067 : MethodName := ⟨RJ2, "charAt", "([BI)C"⟩

abbrev cJ2_checkIndex_2214a : ByteArray := prog_17_method_91_code

def yJ2_checkIndex_2214a : MethodName := ⟨RJ2, "checkIndex", "(I[B)V"⟩

def RJ10 : String := "java/lang/System"

def TJ10 : u_T := fun k => match k with
  | _ => ("", "", "", false)

def tyJ10 : Nat → FieldType := fun k => match k with
  | _ => .int

abbrev wsJ100 : List Cond := u_ws RJ10 TJ10 0

theorem nmJ10 : ∀ a, a < 0 → ∀ b, b < 0 → a ≠ b → (TJ10 a).2.1 ≠ (TJ10 b).2.1 := by decide +kernel

theorem tyJ10_ok : ∀ k, k < 0 → parseFieldDescriptor (TJ10 k).2.2.1 = some (tyJ10 k) := by decide +kernel

def RJxfd54e : String := "java/lang/constant/Constable"

def TJxfd54e : u_T := fun k => match k with
  | _ => ("", "", "", false)

def tyJxfd54e : Nat → FieldType := fun k => match k with
  | _ => .int

abbrev wsJxfd54e0 : List Cond := u_ws RJxfd54e TJxfd54e 0

theorem nmJxfd54e : ∀ a, a < 0 → ∀ b, b < 0 → a ≠ b → (TJxfd54e a).2.1 ≠ (TJxfd54e b).2.1 := by decide +kernel

theorem tyJxfd54e_ok : ∀ k, k < 0 → parseFieldDescriptor (TJxfd54e k).2.2.1 = some (tyJxfd54e k) := by decide +kernel

def RJx3cf43 : String := "java/lang/constant/ConstantDesc"

def TJx3cf43 : u_T := fun k => match k with
  | _ => ("", "", "", false)

def tyJx3cf43 : Nat → FieldType := fun k => match k with
  | _ => .int

abbrev wsJx3cf430 : List Cond := u_ws RJx3cf43 TJx3cf43 0

theorem nmJx3cf43 : ∀ a, a < 0 → ∀ b, b < 0 → a ≠ b → (TJx3cf43 a).2.1 ≠ (TJx3cf43 b).2.1 := by decide +kernel

theorem tyJx3cf43_ok : ∀ k, k < 0 → parseFieldDescriptor (TJx3cf43 k).2.2.1 = some (tyJx3cf43 k) := by decide +kernel

def RJ7 : String := "java/util/Arrays"

def TJ7 : u_T := fun k => match k with
  | _ => ("", "", "", false)

def tyJ7 : Nat → FieldType := fun k => match k with
  | _ => .int

abbrev wsJ70 : List Cond := u_ws RJ7 TJ7 0

theorem nmJ7 : ∀ a, a < 0 → ∀ b, b < 0 → a ≠ b → (TJ7 a).2.1 ≠ (TJ7 b).2.1 := by decide +kernel

theorem tyJ7_ok : ∀ k, k < 0 → parseFieldDescriptor (TJ7 k).2.2.1 = some (tyJ7 k) := by decide +kernel

abbrev cJ7_fill_53178 : ByteArray := prog_19_method_103_code

def yJ7_fill_53178 : MethodName := ⟨RJ7, "fill", "([II)V"⟩

def RJ3 : String := "jdk/internal/util/Preconditions"

def TJ3 : u_T := fun k => match k with
  | _ => ("", "", "", false)

def tyJ3 : Nat → FieldType := fun k => match k with
  | _ => .int

abbrev wsJ30 : List Cond := u_ws RJ3 TJ3 0

theorem nmJ3 : ∀ a, a < 0 → ∀ b, b < 0 → a ≠ b → (TJ3 a).2.1 ≠ (TJ3 b).2.1 := by decide +kernel

theorem tyJ3_ok : ∀ k, k < 0 → parseFieldDescriptor (TJ3 k).2.2.1 = some (tyJ3 k) := by decide +kernel

abbrev cJ3_checkIndex_8e157 : ByteArray := prog_20_method_11_code

def yJ3_checkIndex_8e157 : MethodName := ⟨RJ3, "checkIndex", "(IILjava/util/function/BiFunction;)I"⟩

def RL : String := "RaftForestLaw"

abbrev cL_law : ByteArray := code

def yL_law : MethodName := ⟨RL, "law", "([I)Z"⟩

def wsL_law_r1 : List Cond := [Cond.classLink RL 7 RX9, Cond.instantiable RX9 12, Cond.initialized RX9, Cond.classLink RL 10 RX10, Cond.instantiable RX10 80, Cond.initialized RX10, Cond.methodLink RL 9 yX9_init, Cond.instanceMethod yX9_init, Cond.code yX9_init cX9_init 2 none, Cond.methodLink RX9 1 objectInit, Cond.instanceMethod objectInit, Cond.code objectInit ⟨#[0xb1]⟩ 1 none, Cond.classLink RX9 7 RX7, Cond.instantiable RX7 6, Cond.initialized RX7, Cond.fieldLink RX9 10 "RaftForest" "tape" "LRaftForest$Tape;", Cond.classLink RX9 16 RX3, Cond.instantiable RX3 3, Cond.initialized RX3, Cond.fieldLink RX9 21 "RaftForest" "riverReader" "LRaftForest$RiverReader;", Cond.classLink RX9 25 RX5, Cond.instantiable RX5 2, Cond.initialized RX5, Cond.fieldLink RX9 28 "RaftForest" "ruleReader" "LRaftForest$RuleReader;"]

def wsL_law_r2 : List Cond := [Cond.classLink RX9 32 RX4, Cond.fieldLink RX9 34 "RaftForest" "rules" "[LRaftForest$Rule;", Cond.instantiable RX4 6, Cond.initialized RX4, Cond.classLink RX9 39 RX8, Cond.instantiable RX8 9, Cond.initialized RX8, Cond.classLink RX9 41 RX2, Cond.instantiable RX2 12, Cond.initialized RX2, Cond.fieldLink RX9 47 "RaftForest" "now" "LRaftForest$World;", Cond.fieldLink RX9 51 "RaftForest$World" "river" "LRaftForest$River;", Cond.fieldLink RX9 55 "RaftForest" "trial" "LRaftForest$World;", Cond.classLink RX9 58 RX1, Cond.fieldLink RX9 60 "RaftForest" "images" "[LRaftForest$Image;", Cond.instantiable RX1 4, Cond.initialized RX1, Cond.arrayClass .int, Cond.fieldLink RX9 65 "RaftForest" "row" "[I", Cond.fieldLink RX9 69 "RaftForest" "rowPlaces" "[I", Cond.fieldLink RX9 72 "RaftForest" "bestRow" "[I", Cond.fieldLink RX9 75 "RaftForest" "groups" "[I", Cond.instanceMethod yX7_init, Cond.code yX7_init cX7_init 1 none]

def wsL_law_r3 : List Cond := [Cond.methodLink RX7 3 objectInit, Cond.fieldLink RX7 9 "RaftForest$Tape" "bytes" "[I", Cond.methodLink RX9 18 yX3_init, Cond.instanceMethod yX3_init, Cond.code yX3_init cX3_init 2 none, Cond.methodLink RX3 3 objectInit, Cond.classLink RX3 9 RX2, Cond.fieldLink RX3 12 "RaftForest$RiverReader" "told" "LRaftForest$River;", Cond.fieldLink RX3 18 "RaftForest$RiverReader" "tape" "LRaftForest$Tape;", Cond.instanceMethod yX2_init, Cond.code yX2_init cX2_init 1 none, Cond.methodLink RX2 3 objectInit, Cond.fieldLink RX2 9 "RaftForest$River" "villageBends" "[I", Cond.fieldLink RX2 15 "RaftForest$River" "widths" "[I", Cond.fieldLink RX2 18 "RaftForest$River" "woodPrices" "[I", Cond.fieldLink RX2 21 "RaftForest$River" "logWoods" "[I", Cond.fieldLink RX2 24 "RaftForest$River" "logLengths" "[I", Cond.fieldLink RX2 27 "RaftForest$River" "logRings" "[I", Cond.fieldLink RX2 30 "RaftForest$River" "logVillages" "[I", Cond.methodLink RX9 27 yX5_init, Cond.instanceMethod yX5_init, Cond.code yX5_init cX5_init 2 none, Cond.methodLink RX5 3 objectInit, Cond.fieldLink RX5 9 "RaftForest$RuleReader" "tape" "LRaftForest$Tape;"]

def wsL_law_r4 : List Cond := [Cond.instanceMethod yX4_init, Cond.code yX4_init cX4_init 1 none, Cond.methodLink RX4 3 objectInit, Cond.fieldLink RX4 9 "RaftForest$Rule" "steps" "[I", Cond.arrayClass .long, Cond.fieldLink RX4 15 "RaftForest$Rule" "stack" "[J", Cond.methodLink RX9 44 yX8_init, Cond.instanceMethod yX8_init, Cond.code yX8_init cX8_init 3 none, Cond.methodLink RX8 3 objectInit, Cond.classLink RX8 9 RX6, Cond.instantiable RX6 15, Cond.initialized RX6, Cond.fieldLink RX8 12 "RaftForest$World" "state" "LRaftForest$State;", Cond.classLink RX8 18 RX0, Cond.instantiable RX0 17, Cond.initialized RX0, Cond.fieldLink RX8 21 "RaftForest$World" "books" "LRaftForest$Books;", Cond.fieldLink RX8 25 "RaftForest$World" "tally" "[I", Cond.fieldLink RX8 29 "RaftForest$World" "words" "[J", Cond.fieldLink RX8 33 "RaftForest$World" "ranks" "[I", Cond.fieldLink RX8 36 "RaftForest$World" "sums" "[J", Cond.fieldLink RX8 39 "RaftForest$World" "river" "LRaftForest$River;", Cond.fieldLink RX8 43 "RaftForest$World" "rules" "[LRaftForest$Rule;"]

def wsL_law_r5 : List Cond := [Cond.instanceMethod yX6_init, Cond.code yX6_init cX6_init 1 none, Cond.methodLink RX6 3 objectInit, Cond.fieldLink RX6 9 "RaftForest$State" "ruleInForce" "I", Cond.fieldLink RX6 15 "RaftForest$State" "villageRules" "[I", Cond.fieldLink RX6 19 "RaftForest$State" "dams" "[I", Cond.fieldLink RX6 22 "RaftForest$State" "places" "[I", Cond.fieldLink RX6 25 "RaftForest$State" "lengths" "[I", Cond.fieldLink RX6 28 "RaftForest$State" "jams" "[I", Cond.fieldLink RX6 31 "RaftForest$State" "jamDays" "[I", Cond.fieldLink RX6 34 "RaftForest$State" "order" "[I", Cond.fieldLink RX6 37 "RaftForest$State" "notchCounts" "[I", Cond.fieldLink RX6 40 "RaftForest$State" "notches" "[I", Cond.instanceMethod yX0_init, Cond.code yX0_init cX0_init 1 none, Cond.methodLink RX0 3 objectInit, Cond.fieldLink RX0 9 "RaftForest$Books" "coins" "[I", Cond.fieldLink RX0 15 "RaftForest$Books" "debts" "[I", Cond.fieldLink RX0 18 "RaftForest$Books" "beams" "[I", Cond.fieldLink RX0 21 "RaftForest$Books" "sightLogs" "[I", Cond.fieldLink RX0 24 "RaftForest$Books" "sightPlaces" "[I", Cond.fieldLink RX0 27 "RaftForest$Books" "sightVillages" "[I", Cond.fieldLink RX0 30 "RaftForest$Books" "sightDays" "[I", Cond.fieldLink RX0 33 "RaftForest$Books" "cutLogs" "[I"]

def wsL_law_r6 : List Cond := [Cond.fieldLink RX0 36 "RaftForest$Books" "cutPlaces" "[I", Cond.fieldLink RX0 39 "RaftForest$Books" "cutVillages" "[I", Cond.fieldLink RX0 42 "RaftForest$Books" "cutBefore" "[I", Cond.fieldLink RX0 45 "RaftForest$Books" "keptPlaces" "[I", Cond.instanceMethod yX1_init, Cond.code yX1_init cX1_init 1 none, Cond.methodLink RX1 1 objectInit, Cond.classLink RX1 7 RX2, Cond.fieldLink RX1 10 "RaftForest$Image" "river" "LRaftForest$River;", Cond.classLink RX1 16 RX6, Cond.fieldLink RX1 19 "RaftForest$Image" "state" "LRaftForest$State;", Cond.classLink RX1 23 RX0, Cond.fieldLink RX1 26 "RaftForest$Image" "books" "LRaftForest$Books;", Cond.methodLink RL 12 yX10_init, Cond.instanceMethod yX10_init, Cond.code yX10_init cX10_init 1 none, Cond.methodLink RX10 1 objectInit, Cond.fieldLink RX10 9 "RaftForestModel" "scalar" "[I", Cond.fieldLink RX10 13 "RaftForestModel" "width" "[I", Cond.fieldLink RX10 16 "RaftForestModel" "dams" "[I", Cond.fieldLink RX10 19 "RaftForestModel" "price" "[I", Cond.fieldLink RX10 22 "RaftForestModel" "villageBend" "[I", Cond.fieldLink RX10 25 "RaftForestModel" "villageRule" "[I", Cond.fieldLink RX10 28 "RaftForestModel" "villageCoins" "[I"]

def wsL_law_r7 : List Cond := [Cond.fieldLink RX10 31 "RaftForestModel" "owed" "[I", Cond.fieldLink RX10 34 "RaftForestModel" "wood" "[I", Cond.fieldLink RX10 37 "RaftForestModel" "length" "[I", Cond.fieldLink RX10 40 "RaftForestModel" "logRings" "[I", Cond.fieldLink RX10 43 "RaftForestModel" "place" "[I", Cond.fieldLink RX10 46 "RaftForestModel" "notches" "[I", Cond.fieldLink RX10 49 "RaftForestModel" "jams" "[I", Cond.fieldLink RX10 52 "RaftForestModel" "onEnd" "[I", Cond.fieldLink RX10 55 "RaftForestModel" "weddings" "[I", Cond.fieldLink RX10 58 "RaftForestModel" "order" "[I", Cond.fieldLink RX10 61 "RaftForestModel" "notch" "[I", Cond.fieldLink RX10 64 "RaftForestModel" "beams" "[I", Cond.fieldLink RX10 67 "RaftForestModel" "sightLog" "[I", Cond.fieldLink RX10 70 "RaftForestModel" "sightPlace" "[I", Cond.fieldLink RX10 73 "RaftForestModel" "sightWhose" "[I", Cond.fieldLink RX10 76 "RaftForestModel" "sightDay" "[I", Cond.fieldLink RX10 79 "RaftForestModel" "cutLog" "[I", Cond.fieldLink RX10 82 "RaftForestModel" "cutPlace" "[I", Cond.fieldLink RX10 85 "RaftForestModel" "cutBy" "[I", Cond.fieldLink RX10 88 "RaftForestModel" "cutWas" "[I", Cond.fieldLink RX10 91 "RaftForestModel" "past" "[I", Cond.fieldLink RX10 94 "RaftForestModel" "newScalar" "[I", Cond.fieldLink RX10 97 "RaftForestModel" "newWidth" "[I", Cond.fieldLink RX10 100 "RaftForestModel" "newPrice" "[I"]

def wsL_law_r8 : List Cond := [Cond.fieldLink RX10 103 "RaftForestModel" "newBend" "[I", Cond.fieldLink RX10 106 "RaftForestModel" "newWood" "[I", Cond.fieldLink RX10 109 "RaftForestModel" "newLength" "[I", Cond.fieldLink RX10 112 "RaftForestModel" "newRings" "[I", Cond.fieldLink RX10 115 "RaftForestModel" "newFelled" "[I", Cond.fieldLink RX10 118 "RaftForestModel" "words" "I", Cond.arrayClass .byte, Cond.fieldLink RX10 122 "RaftForestModel" "tape" "[B", Cond.fieldLink RX10 126 "RaftForestModel" "sort" "[I", Cond.fieldLink RX10 129 "RaftForestModel" "number" "[I", Cond.fieldLink RX10 132 "RaftForestModel" "clauses" "[I", Cond.fieldLink RX10 135 "RaftForestModel" "actOf" "[I", Cond.fieldLink RX10 138 "RaftForestModel" "sumAt" "[I", Cond.fieldLink RX10 141 "RaftForestModel" "testAt" "[I", Cond.fieldLink RX10 144 "RaftForestModel" "endAt" "[I", Cond.fieldLink RX10 147 "RaftForestModel" "open" "[I", Cond.fieldLink RX10 150 "RaftForestModel" "asked" "[J", Cond.fieldLink RX10 154 "RaftForestModel" "stack" "[J", Cond.fieldLink RX10 157 "RaftForestModel" "group" "[I", Cond.fieldLink RX10 160 "RaftForestModel" "rank" "[J", Cond.fieldLink RX10 163 "RaftForestModel" "past0" "[I", Cond.fieldLink RX10 166 "RaftForestModel" "floating" "[I", Cond.fieldLink RX10 169 "RaftForestModel" "spot" "[I", Cond.fieldLink RX10 172 "RaftForestModel" "rowNow" "[I"]

def wsL_law_r9 : List Cond := [Cond.fieldLink RX10 175 "RaftForestModel" "bestRow" "[I", Cond.fieldLink RX10 178 "RaftForestModel" "groupsOf" "[I", Cond.fieldLink RX10 181 "RaftForestModel" "images" "[I", Cond.arrayClass .boolean, Cond.fieldLink RX10 184 "RaftForestModel" "isMade" "[Z", Cond.methodLink RL 13 yX9_feed, Cond.instanceMethod yX9_feed, Cond.selects RX9 yX9_feed yX9_feed, Cond.code yX9_feed cX9_feed 6 (some .int), Cond.fieldLink RX9 78 "RaftForest$Tape" "size" "I", Cond.methodLink RX9 82 yX7_append, Cond.instanceMethod yX7_append, Cond.selects RX7 yX7_append yX7_append, Cond.code yX7_append cX7_append 3 none, Cond.fieldLink RX7 15 "RaftForest$Tape" "size" "I", Cond.methodLink RL 17 yX10_feed, Cond.instanceMethod yX10_feed, Cond.selects RX10 yX10_feed yX10_feed, Cond.code yX10_feed cX10_feed 6 (some .int), Cond.fieldLink RX10 216 "RaftForestModel" "taped" "I", Cond.methodLink RX10 219 yX10_put, Cond.instanceMethod yX10_put, Cond.selects RX10 yX10_put yX10_put, Cond.code yX10_put cX10_put 3 none]

def wsL_law_r10 : List Cond := [Cond.methodLink RL 18 yX9_end, Cond.instanceMethod yX9_end, Cond.selects RX9 yX9_end yX9_end, Cond.code yX9_end cX9_end 2 (some .int), Cond.methodLink RL 22 yX10_end, Cond.instanceMethod yX10_end, Cond.selects RX10 yX10_end yX10_end, Cond.code yX10_end cX10_end 2 (some .int), Cond.methodLink RL 23 yX9_river, Cond.instanceMethod yX9_river, Cond.selects RX9 yX9_river yX9_river, Cond.code yX9_river cX9_river 2 (some .int), Cond.fieldLink RX9 90 "RaftForest$Tape" "fault" "I", Cond.fieldLink RX9 93 "RaftForest$RiverReader" "told" "LRaftForest$River;", Cond.fieldLink RX9 100 "RaftForest$World" "state" "LRaftForest$State;", Cond.fieldLink RX9 109 "RaftForest$World" "books" "LRaftForest$Books;", Cond.fieldLink RX9 117 "RaftForest$River" "logs" "I", Cond.methodLink RX9 86 yX3_reads, Cond.instanceMethod yX3_reads, Cond.selects RX3 yX3_reads yX3_reads, Cond.code yX3_reads cX3_reads 3 (some .boolean), Cond.fieldLink RX3 25 "RaftForest$RiverReader" "tollTold" "Z", Cond.fieldLink RX3 54 "RaftForest$Tape" "first" "I", Cond.methodLink RX3 22 yX2_clear]

def wsL_law_r11 : List Cond := [Cond.instanceMethod yX2_clear, Cond.selects RX2 yX2_clear yX2_clear, Cond.code yX2_clear cX2_clear 1 none, Cond.fieldLink RX2 33 "RaftForest$River" "bends" "I", Cond.fieldLink RX2 37 "RaftForest$River" "villages" "I", Cond.fieldLink RX2 40 "RaftForest$River" "woods" "I", Cond.fieldLink RX2 43 "RaftForest$River" "logs" "I", Cond.fieldLink RX2 46 "RaftForest$River" "toll" "I", Cond.methodLink RX2 49 yJ7_fill_53178, Cond.static yJ7_fill_53178, Cond.initialized RJ7, Cond.code yJ7_fill_53178 cJ7_fill_53178 4 none, Cond.methodLink RX3 29 yX7_rewind, Cond.instanceMethod yX7_rewind, Cond.selects RX7 yX7_rewind yX7_rewind, Cond.code yX7_rewind cX7_rewind 1 none, Cond.fieldLink RX7 19 "RaftForest$Tape" "fault" "I", Cond.fieldLink RX7 22 "RaftForest$Tape" "stop" "I", Cond.methodLink RX7 25 yX7_pass, Cond.instanceMethod yX7_pass, Cond.selects RX7 yX7_pass yX7_pass, Cond.code yX7_pass cX7_pass 4 none, Cond.fieldLink RX7 28 "RaftForest$Tape" "at" "I", Cond.fieldLink RX7 31 "RaftForest$Tape" "first" "I"]

def wsL_law_r12 : List Cond := [Cond.methodLink RX3 36 yX7_wordIn, Cond.instanceMethod yX7_wordIn, Cond.selects RX7 yX7_wordIn yX7_wordIn, Cond.code yX7_wordIn cX7_wordIn 6 (some .int), Cond.methodLink RX7 34 yJ0_length_8abf5, Cond.instanceMethod yJ0_length_8abf5, Cond.selects RJ0 yJ0_length_8abf5 yJ0_length_8abf5, Cond.initialized RJ0, Cond.code yJ0_length_8abf5 cJ0_length_8abf5 1 (some .int), Cond.fieldLink RJ0 9 "java/lang/String" "value" "[B", Cond.methodLink RJ0 335 yJ0_coder_7d493, Cond.instanceMethod yJ0_coder_7d493, Cond.selects RJ0 yJ0_coder_7d493 yJ0_coder_7d493, Cond.code yJ0_coder_7d493 cJ0_coder_7d493 1 (some .byte), Cond.fieldLink RJ0 38 "java/lang/String" "COMPACT_STRINGS" "Z", Cond.fieldLink RJ0 15 "java/lang/String" "coder" "B", Cond.methodLink RX7 40 yJ0_charAt_5068e, Cond.instanceMethod yJ0_charAt_5068e, Cond.selects RJ0 yJ0_charAt_5068e yJ0_charAt_5068e, Cond.code yJ0_charAt_5068e cJ0_charAt_5068e 2 (some .char), Cond.methodLink RJ0 492 yJ0_isLatin1_aae02, Cond.instanceMethod yJ0_isLatin1_aae02, Cond.selects RJ0 yJ0_isLatin1_aae02 yJ0_isLatin1_aae02, Cond.code yJ0_isLatin1_aae02 cJ0_isLatin1_aae02 1 (some .boolean)]

def wsL_law_r13 : List Cond := [Cond.methodLink RJ0 495 yJ1_charAt_3b067, Cond.static yJ1_charAt_3b067, Cond.initialized RJ1, Cond.code yJ1_charAt_3b067 cJ1_charAt_3b067 2 (some .char), Cond.methodLink RJ1 9 yJ0_checkIndex_df160, Cond.static yJ0_checkIndex_df160, Cond.code yJ0_checkIndex_df160 cJ0_checkIndex_df160 2 none, Cond.fieldLink RJ0 1053 "jdk/internal/util/Preconditions" "SIOOBE_FORMATTER" "Ljava/util/function/BiFunction;", Cond.methodLink RJ0 1059 yJ3_checkIndex_8e157, Cond.static yJ3_checkIndex_8e157, Cond.initialized RJ3, Cond.code yJ3_checkIndex_8e157 cJ3_checkIndex_8e157 3 (some .int), Cond.methodLink RJ0 498 yJ2_charAt_3b067, Cond.static yJ2_charAt_3b067, Cond.initialized RJ2, Cond.code yJ2_charAt_3b067 cJ2_charAt_3b067 2 (some .char), Cond.methodLink RJ2 67 yJ2_checkIndex_2214a, Cond.static yJ2_checkIndex_2214a, Cond.code yJ2_checkIndex_2214a cJ2_checkIndex_2214a 2 none, Cond.methodLink RJ2 48 yJ2_length_9d52b, Cond.static yJ2_length_9d52b, Cond.code yJ2_length_9d52b cJ2_length_9d52b 1 (some .int), Cond.methodLink RJ2 414 yJ0_checkIndex_df160, Cond.methodLink RJ2 71 yJ2_getChar_3b067]

def wsL_law_r14 : List Cond := [Cond.static yJ2_getChar_3b067, Cond.code yJ2_getChar_3b067 cJ2_getChar_3b067 2 (some .char), Cond.fieldLink RJ2 44 "java/lang/StringUTF16" "$assertionsDisabled" "Z", Cond.fieldLink RJ2 59 "java/lang/StringUTF16" "HI_BYTE_SHIFT" "I", Cond.fieldLink RJ2 63 "java/lang/StringUTF16" "LO_BYTE_SHIFT" "I", Cond.methodLink RX3 40 yX7_fails, Cond.instanceMethod yX7_fails, Cond.selects RX7 yX7_fails yX7_fails, Cond.code yX7_fails cX7_fails 2 (some .boolean), Cond.methodLink RX3 44 yX3_isTooMany, Cond.instanceMethod yX3_isTooMany, Cond.selects RX3 yX3_isTooMany yX3_isTooMany, Cond.code yX3_isTooMany cX3_isTooMany 3 (some .boolean), Cond.fieldLink RX3 58 "RaftForest$River" "villages" "I", Cond.fieldLink RX3 61 "RaftForest$River" "woods" "I", Cond.fieldLink RX3 64 "RaftForest$River" "logs" "I", Cond.methodLink RX3 48 yX7_pass, Cond.methodLink RX3 51 yX3_readsClause, Cond.instanceMethod yX3_readsClause, Cond.selects RX3 yX3_readsClause yX3_readsClause, Cond.code yX3_readsClause cX3_readsClause 4 (some .boolean), Cond.fieldLink RX3 71 "RaftForest$River" "bends" "I", Cond.fieldLink RX3 74 "RaftForest$River" "villageBends" "[I", Cond.fieldLink RX3 78 "RaftForest$River" "widths" "[I"]

def wsL_law_r15 : List Cond := [Cond.fieldLink RX3 81 "RaftForest$River" "woodPrices" "[I", Cond.fieldLink RX3 84 "RaftForest$River" "logWoods" "[I", Cond.fieldLink RX3 87 "RaftForest$River" "logLengths" "[I", Cond.fieldLink RX3 90 "RaftForest$River" "logRings" "[I", Cond.fieldLink RX3 93 "RaftForest$River" "logVillages" "[I", Cond.fieldLink RX3 96 "RaftForest$River" "toll" "I", Cond.fieldLink RX3 99 "RaftForest$Tape" "fault" "I", Cond.methodLink RX3 67 yX3_readNumber, Cond.instanceMethod yX3_readNumber, Cond.selects RX3 yX3_readNumber yX3_readNumber, Cond.code yX3_readNumber cX3_readNumber 4 (some .int), Cond.methodLink RX3 102 yX7_isNumber, Cond.instanceMethod yX7_isNumber, Cond.selects RX7 yX7_isNumber yX7_isNumber, Cond.code yX7_isNumber cX7_isNumber 1 (some .boolean), Cond.methodLink RX3 106 yX7_number, Cond.instanceMethod yX7_number, Cond.selects RX7 yX7_number yX7_number, Cond.code yX7_number cX7_number 3 (some .int), Cond.methodLink RX9 96 yX2_copy, Cond.instanceMethod yX2_copy, Cond.selects RX2 yX2_copy yX2_copy, Cond.code yX2_copy cX2_copy 2 none, Cond.static yX9_copyRow]

def wsL_law_r16 : List Cond := [Cond.code yX9_copyRow cX9_copyRow 2 none, Cond.methodLink RX9 370 Lib.Math.min.name, Cond.static Lib.Math.min.name, Cond.initialized "java/lang/Math", Cond.code Lib.Math.min.name Lib.Math.min.code 2 (some .int), Cond.methodLink RX9 315 arraycopyName, Cond.native arraycopyName, Cond.static arraycopyName, Cond.initialized "java/lang/System", Cond.methodLink RX9 104 yX6_start, Cond.instanceMethod yX6_start, Cond.selects RX6 yX6_start yX6_start, Cond.code yX6_start cX6_start 3 none, Cond.fieldLink RX6 43 "RaftForest$State" "day" "I", Cond.fieldLink RX6 46 "RaftForest$State" "water" "I", Cond.fieldLink RX6 49 "RaftForest$State" "law" "I", Cond.fieldLink RX6 52 "RaftForest$State" "lawRule" "I", Cond.fieldLink RX6 55 "RaftForest$River" "logs" "I", Cond.fieldLink RX6 60 "RaftForest$State" "logs" "I", Cond.fieldLink RX6 67 "RaftForest$River" "logLengths" "[I", Cond.fieldLink RX6 74 "RaftForest$River" "logVillages" "[I", Cond.methodLink RX6 61 yJ7_fill_53178, Cond.methodLink RX6 77 yX6_notchBehind, Cond.instanceMethod yX6_notchBehind]

def wsL_law_r17 : List Cond := [Cond.selects RX6 yX6_notchBehind yX6_notchBehind, Cond.code yX6_notchBehind cX6_notchBehind 4 none, Cond.methodLink RX6 81 Lib.Math.min.name, Cond.methodLink RX9 113 yX0_start, Cond.instanceMethod yX0_start, Cond.selects RX0 yX0_start yX0_start, Cond.code yX0_start cX0_start 1 none, Cond.fieldLink RX0 48 "RaftForest$Books" "sea" "I", Cond.fieldLink RX0 58 "RaftForest$Books" "weddings" "I", Cond.fieldLink RX0 61 "RaftForest$Books" "sights" "I", Cond.fieldLink RX0 64 "RaftForest$Books" "cutCount" "I", Cond.methodLink RX0 52 yJ7_fill_53178, Cond.methodLink RL 27 yX10_river, Cond.instanceMethod yX10_river, Cond.selects RX10 yX10_river yX10_river, Cond.code yX10_river cX10_river 3 (some .int), Cond.fieldLink RX10 354 "RaftForestModel" "isTollTold" "Z", Cond.fieldLink RX10 246 "RaftForestModel" "fault" "I", Cond.methodLink RX10 372 yX10_starts, Cond.instanceMethod yX10_starts, Cond.selects RX10 yX10_starts yX10_starts, Cond.code yX10_starts cX10_starts 1 none, Cond.fieldLink RX10 249 "RaftForestModel" "p" "I", Cond.fieldLink RX10 278 "RaftForestModel" "entries" "I"]

def wsL_law_r18 : List Cond := [Cond.fieldLink RX10 318 "RaftForestModel" "deep" "I", Cond.fieldLink RX10 281 "RaftForestModel" "counted" "I", Cond.methodLink RX10 375 yX10_riverClause, Cond.instanceMethod yX10_riverClause, Cond.selects RX10 yX10_riverClause yX10_riverClause, Cond.code yX10_riverClause cX10_riverClause 4 none, Cond.methodLink RX10 268 yX10_blanks, Cond.instanceMethod yX10_blanks, Cond.selects RX10 yX10_blanks yX10_blanks, Cond.code yX10_blanks cX10_blanks 1 none, Cond.methodLink RX10 252 yX10_sign, Cond.instanceMethod yX10_sign, Cond.selects RX10 yX10_sign yX10_sign, Cond.code yX10_sign cX10_sign 1 (some .int), Cond.methodLink RX10 358 yX10_riverWord, Cond.static yX10_riverWord, Cond.code yX10_riverWord cX10_riverWord 1 (some (.object "java/lang/String")), Cond.methodLink RX10 271 yX10_stood, Cond.instanceMethod yX10_stood, Cond.selects RX10 yX10_stood yX10_stood, Cond.code yX10_stood cX10_stood 5 (some .boolean), Cond.methodLink RX10 260 yJ0_length_8abf5, Cond.methodLink RX10 264 yJ0_charAt_5068e, Cond.methodLink RX10 284 yX10_fails]

def wsL_law_r19 : List Cond := [Cond.instanceMethod yX10_fails, Cond.selects RX10 yX10_fails yX10_fails, Cond.code yX10_fails cX10_fails 3 none, Cond.methodLink RX10 361 yX10_isFull, Cond.instanceMethod yX10_isFull, Cond.selects RX10 yX10_isFull yX10_isFull, Cond.code yX10_isFull cX10_isFull 3 (some .boolean), Cond.methodLink RX10 365 yX10_riverPart, Cond.instanceMethod yX10_riverPart, Cond.selects RX10 yX10_riverPart yX10_riverPart, Cond.code yX10_riverPart cX10_riverPart 4 none, Cond.methodLink RX10 347 yX10_amount, Cond.instanceMethod yX10_amount, Cond.selects RX10 yX10_amount yX10_amount, Cond.code yX10_amount cX10_amount 5 (some .int), Cond.constant RX10 292 (99999), Cond.methodLink RX10 293 yX10_digits, Cond.instanceMethod yX10_digits, Cond.selects RX10 yX10_digits yX10_digits, Cond.code yX10_digits cX10_digits 4 (some .int), Cond.methodLink RX10 288 yX10_isDigit, Cond.instanceMethod yX10_isDigit, Cond.selects RX10 yX10_isDigit yX10_isDigit, Cond.code yX10_isDigit cX10_isDigit 1 (some .boolean)]

def wsL_law_r20 : List Cond := [Cond.constantLong RX10 256 (48), Cond.constantLong RX10 258 (57), Cond.methodLink RX10 191 yX10_in, Cond.static yX10_in, Cond.code yX10_in cX10_in 6 (some .boolean), Cond.methodLink RX10 351 yX10_readsLog, Cond.instanceMethod yX10_readsLog, Cond.selects RX10 yX10_readsLog yX10_readsLog, Cond.code yX10_readsLog cX10_readsLog 2 none, Cond.methodLink RX10 378 yX10_goesOn, Cond.instanceMethod yX10_goesOn, Cond.selects RX10 yX10_goesOn yX10_goesOn, Cond.code yX10_goesOn cX10_goesOn 2 (some .boolean), Cond.methodLink RX10 381 yX10_begins, Cond.instanceMethod yX10_begins, Cond.selects RX10 yX10_begins yX10_begins, Cond.code yX10_begins cX10_begins 2 none, Cond.methodLink RX10 368 yX10_lay, Cond.static yX10_lay, Cond.code yX10_lay cX10_lay 3 none, Cond.methodLink RL 28 yX9_rule, Cond.instanceMethod yX9_rule, Cond.selects RX9 yX9_rule yX9_rule, Cond.code yX9_rule cX9_rule 2 (some .int)]

def wsL_law_r21 : List Cond := [Cond.fieldLink RX9 120 "RaftForest" "ruleCount" "I", Cond.methodLink RX9 123 yX5_reads, Cond.instanceMethod yX5_reads, Cond.selects RX5 yX5_reads yX5_reads, Cond.code yX5_reads cX5_reads 7 (some .boolean), Cond.fieldLink RX5 20 "RaftForest$RuleReader" "items" "I", Cond.fieldLink RX5 67 "RaftForest$Tape" "first" "I", Cond.methodLink RX5 15 yX4_clear, Cond.instanceMethod yX4_clear, Cond.selects RX4 yX4_clear yX4_clear, Cond.code yX4_clear cX4_clear 1 none, Cond.fieldLink RX4 19 "RaftForest$Rule" "size" "I", Cond.fieldLink RX4 23 "RaftForest$Rule" "kinds" "I", Cond.fieldLink RX4 26 "RaftForest$Rule" "words" "I", Cond.methodLink RX5 24 yX7_rewind, Cond.methodLink RX5 31 yX7_wordIn, Cond.methodLink RX5 35 yX7_fails, Cond.methodLink RX5 39 yX7_pass, Cond.methodLink RX5 42 yX4_begin, Cond.instanceMethod yX4_begin, Cond.selects RX4 yX4_begin yX4_begin, Cond.code yX4_begin cX4_begin 2 (some .int), Cond.methodLink RX4 29 yX4_write, Cond.instanceMethod yX4_write]

def wsL_law_r22 : List Cond := [Cond.selects RX4 yX4_write yX4_write, Cond.code yX4_write cX4_write 2 none, Cond.methodLink RX5 46 yX5_readsSum, Cond.instanceMethod yX5_readsSum, Cond.selects RX5 yX5_readsSum yX5_readsSum, Cond.code yX5_readsSum cX5_readsSum 5 (some .boolean), Cond.methodLink RX5 87 yX5_readsValue, Cond.instanceMethod yX5_readsValue, Cond.selects RX5 yX5_readsValue yX5_readsValue, Cond.code yX5_readsValue cX5_readsValue 4 (some .boolean), Cond.methodLink RX5 90 yX7_isNumber, Cond.methodLink RX5 93 yX7_number, Cond.methodLink RX5 60 yX4_write, Cond.methodLink RX5 52 yX7_takesWord, Cond.instanceMethod yX7_takesWord, Cond.selects RX7 yX7_takesWord yX7_takesWord, Cond.code yX7_takesWord cX7_takesWord 2 (some .boolean), Cond.methodLink RX7 44 yX7_wordIn, Cond.methodLink RX5 56 yX5_readsTest, Cond.instanceMethod yX5_readsTest, Cond.selects RX5 yX5_readsTest yX5_readsTest, Cond.code yX5_readsTest cX5_readsTest 6 (some .boolean), Cond.methodLink RX5 70 yX5_readsFact, Cond.instanceMethod yX5_readsFact]

def wsL_law_r23 : List Cond := [Cond.selects RX5 yX5_readsFact yX5_readsFact, Cond.code yX5_readsFact cX5_readsFact 6 (some .boolean), Cond.methodLink RX5 79 yX5_readSign, Cond.instanceMethod yX5_readSign, Cond.selects RX5 yX5_readSign yX5_readSign, Cond.code yX5_readSign cX5_readSign 2 (some .int), Cond.methodLink RX5 83 yX7_isLong, Cond.instanceMethod yX7_isLong, Cond.selects RX7 yX7_isLong yX7_isLong, Cond.code yX7_isLong cX7_isLong 1 (some .boolean), Cond.methodLink RX5 64 yX4_close, Cond.instanceMethod yX4_close, Cond.selects RX4 yX4_close yX4_close, Cond.code yX4_close cX4_close 2 none, Cond.methodLink RL 31 yX10_rule, Cond.instanceMethod yX10_rule, Cond.selects RX10 yX10_rule yX10_rule, Cond.code yX10_rule cX10_rule 3 (some .int), Cond.fieldLink RX10 405 "RaftForestModel" "rules" "I", Cond.fieldLink RX10 275 "RaftForestModel" "slot" "I", Cond.methodLink RX10 408 yX10_ruleClause, Cond.instanceMethod yX10_ruleClause, Cond.selects RX10 yX10_ruleClause yX10_ruleClause, Cond.code yX10_ruleClause cX10_ruleClause 5 none]

def wsL_law_r24 : List Cond := [Cond.methodLink RX10 394 yX10_actWord, Cond.static yX10_actWord, Cond.code yX10_actWord cX10_actWord 1 (some (.object "java/lang/String")), Cond.methodLink RX10 312 yX10_sum, Cond.instanceMethod yX10_sum, Cond.selects RX10 yX10_sum yX10_sum, Cond.code yX10_sum cX10_sum 2 none, Cond.methodLink RX10 309 yX10_term, Cond.instanceMethod yX10_term, Cond.selects RX10 yX10_term yX10_term, Cond.code yX10_term cX10_term 2 none, Cond.methodLink RX10 306 yX10_value, Cond.instanceMethod yX10_value, Cond.selects RX10 yX10_value yX10_value, Cond.code yX10_value cX10_value 3 none, Cond.methodLink RX10 296 yX10_isCounted, Cond.instanceMethod yX10_isCounted, Cond.selects RX10 yX10_isCounted yX10_isCounted, Cond.code yX10_isCounted cX10_isCounted 2 none, Cond.methodLink RX10 299 yX10_entry, Cond.instanceMethod yX10_entry, Cond.selects RX10 yX10_entry yX10_entry, Cond.code yX10_entry cX10_entry 3 none, Cond.methodLink RX10 302 yX10_wordOf]

def wsL_law_r25 : List Cond := [Cond.static yX10_wordOf, Cond.code yX10_wordOf cX10_wordOf 1 (some (.object "java/lang/String")), Cond.methodLink RX10 399 yX10_takes, Cond.instanceMethod yX10_takes, Cond.selects RX10 yX10_takes yX10_takes, Cond.code yX10_takes cX10_takes 3 (some .boolean), Cond.methodLink RX10 402 yX10_test, Cond.instanceMethod yX10_test, Cond.selects RX10 yX10_test yX10_test, Cond.code yX10_test cX10_test 5 none, Cond.fieldLink RX10 315 "RaftForestModel" "opened" "I", Cond.methodLink RX10 332 yX10_fact, Cond.instanceMethod yX10_fact, Cond.selects RX10 yX10_fact yX10_fact, Cond.code yX10_fact cX10_fact 1 (some .boolean), Cond.methodLink RX10 326 yX10_opens, Cond.instanceMethod yX10_opens, Cond.selects RX10 yX10_opens yX10_opens, Cond.code yX10_opens cX10_opens 2 none, Cond.methodLink RX10 329 yX10_compared, Cond.instanceMethod yX10_compared, Cond.selects RX10 yX10_compared yX10_compared, Cond.code yX10_compared cX10_compared 3 none, Cond.methodLink RX10 335 yX10_answers]

def wsL_law_r26 : List Cond := [Cond.instanceMethod yX10_answers, Cond.selects RX10 yX10_answers yX10_answers, Cond.code yX10_answers cX10_answers 2 none, Cond.methodLink RX10 321 yX10_top, Cond.instanceMethod yX10_top, Cond.selects RX10 yX10_top yX10_top, Cond.code yX10_top cX10_top 1 (some .int), Cond.methodLink RL 32 yX9_force, Cond.instanceMethod yX9_force, Cond.selects RX9 yX9_force yX9_force, Cond.code yX9_force cX9_force 3 (some .int), Cond.fieldLink RX9 133 "RaftForest$State" "ruleInForce" "I", Cond.methodLink RX9 126 yX9_hasRiver, Cond.instanceMethod yX9_hasRiver, Cond.selects RX9 yX9_hasRiver yX9_hasRiver, Cond.code yX9_hasRiver cX9_hasRiver 1 (some .boolean), Cond.fieldLink RX9 400 "RaftForest$River" "bends" "I", Cond.methodLink RX9 129 yX9_isRuleOrNone, Cond.instanceMethod yX9_isRuleOrNone, Cond.selects RX9 yX9_isRuleOrNone yX9_isRuleOrNone, Cond.code yX9_isRuleOrNone cX9_isRuleOrNone 2 (some .boolean), Cond.methodLink RX9 142 yX9_isRule, Cond.instanceMethod yX9_isRule, Cond.selects RX9 yX9_isRule yX9_isRule]

def wsL_law_r27 : List Cond := [Cond.code yX9_isRule cX9_isRule 2 (some .boolean), Cond.methodLink RL 35 yX10_force, Cond.instanceMethod yX10_force, Cond.selects RX10 yX10_force yX10_force, Cond.code yX10_force cX10_force 3 (some .int), Cond.methodLink RX10 413 yX10_isRiver, Cond.instanceMethod yX10_isRiver, Cond.selects RX10 yX10_isRiver yX10_isRiver, Cond.code yX10_isRiver cX10_isRiver 1 (some .boolean), Cond.methodLink RX10 416 yX10_isRuleOrNone, Cond.instanceMethod yX10_isRuleOrNone, Cond.selects RX10 yX10_isRuleOrNone yX10_isRuleOrNone, Cond.code yX10_isRuleOrNone cX10_isRuleOrNone 2 (some .boolean), Cond.constantLong RX10 411 (-1), Cond.methodLink RL 36 yX9_bind, Cond.instanceMethod yX9_bind, Cond.selects RX9 yX9_bind yX9_bind, Cond.code yX9_bind cX9_bind 4 (some .int), Cond.fieldLink RX9 139 "RaftForest$State" "villageRules" "[I", Cond.methodLink RX9 136 yX9_isVillage, Cond.instanceMethod yX9_isVillage, Cond.selects RX9 yX9_isVillage yX9_isVillage, Cond.code yX9_isVillage cX9_isVillage 2 (some .boolean), Cond.fieldLink RX9 378 "RaftForest$River" "villages" "I"]

def wsL_law_r28 : List Cond := [Cond.methodLink RL 40 yX10_bind, Cond.instanceMethod yX10_bind, Cond.selects RX10 yX10_bind yX10_bind, Cond.code yX10_bind cX10_bind 4 (some .int), Cond.methodLink RX10 419 yX10_isVillage, Cond.instanceMethod yX10_isVillage, Cond.selects RX10 yX10_isVillage yX10_isVillage, Cond.code yX10_isVillage cX10_isVillage 2 (some .boolean), Cond.methodLink RL 41 yX9_law, Cond.instanceMethod yX9_law, Cond.selects RX9 yX9_law yX9_law, Cond.code yX9_law cX9_law 4 (some .int), Cond.fieldLink RX9 145 "RaftForest$State" "lawRule" "I", Cond.fieldLink RX9 148 "RaftForest$State" "law" "I", Cond.methodLink RL 44 yX10_law, Cond.instanceMethod yX10_law, Cond.selects RX10 yX10_law yX10_law, Cond.code yX10_law cX10_law 4 (some .int), Cond.constantLong RX10 422 (3), Cond.methodLink RL 45 yX9_bend, Cond.instanceMethod yX9_bend, Cond.selects RX9 yX9_bend yX9_bend, Cond.code yX9_bend cX9_bend 3 (some .int), Cond.fieldLink RX9 154 "RaftForest$River" "widths" "[I"]

def wsL_law_r29 : List Cond := [Cond.fieldLink RX9 157 "RaftForest$State" "dams" "[I", Cond.methodLink RX9 151 yX9_isBend, Cond.instanceMethod yX9_isBend, Cond.selects RX9 yX9_isBend yX9_isBend, Cond.code yX9_isBend cX9_isBend 2 (some .boolean), Cond.methodLink RX9 160 yX8_logsAt, Cond.instanceMethod yX8_logsAt, Cond.selects RX8 yX8_logsAt yX8_logsAt, Cond.code yX8_logsAt cX8_logsAt 4 (some .int), Cond.fieldLink RX8 69 "RaftForest$River" "logs" "I", Cond.fieldLink RX8 57 "RaftForest$State" "places" "[I", Cond.methodLink RX9 164 yX8_roomAt, Cond.instanceMethod yX8_roomAt, Cond.selects RX8 yX8_roomAt yX8_roomAt, Cond.code yX8_roomAt cX8_roomAt 2 (some .int), Cond.fieldLink RX8 72 "RaftForest$River" "widths" "[I", Cond.fieldLink RX8 75 "RaftForest$State" "dams" "[I", Cond.methodLink RX8 87 Lib.Math.max.name, Cond.static Lib.Math.max.name, Cond.code Lib.Math.max.name Lib.Math.max.code 2 (some .int), Cond.methodLink RX8 78 yX8_logsAt, Cond.methodLink RX8 82 yJ6_bitCount_0f7a4, Cond.static yJ6_bitCount_0f7a4, Cond.initialized RJ6]

def wsL_law_r30 : List Cond := [Cond.code yJ6_bitCount_0f7a4 cJ6_bitCount_0f7a4 1 (some .int), Cond.constant RJ6 265 (1431655765), Cond.constant RJ6 266 (858993459), Cond.constant RJ6 267 (252645135), Cond.methodLink RL 48 yX10_bend, Cond.instanceMethod yX10_bend, Cond.selects RX10 yX10_bend yX10_bend, Cond.code yX10_bend cX10_bend 3 (some .int), Cond.methodLink RX10 467 yX10_isBend, Cond.instanceMethod yX10_isBend, Cond.selects RX10 yX10_isBend yX10_isBend, Cond.code yX10_isBend cX10_isBend 2 (some .boolean), Cond.methodLink RX10 206 yX10_logsAt, Cond.instanceMethod yX10_logsAt, Cond.selects RX10 yX10_logsAt yX10_logsAt, Cond.code yX10_logsAt cX10_logsAt 4 (some .int), Cond.methodLink RX10 470 yX10_roomAt, Cond.instanceMethod yX10_roomAt, Cond.selects RX10 yX10_roomAt yX10_roomAt, Cond.code yX10_roomAt cX10_roomAt 3 (some .int), Cond.methodLink RX10 210 yX10_bits, Cond.static yX10_bits, Cond.code yX10_bits cX10_bits 3 (some .int), Cond.methodLink RL 49 yX9_village]

def wsL_law_r31 : List Cond := [Cond.instanceMethod yX9_village, Cond.selects RX9 yX9_village yX9_village, Cond.code yX9_village cX9_village 3 (some .int), Cond.constant RX9 167 (-1000000), Cond.fieldLink RX9 168 "RaftForest$River" "villageBends" "[I", Cond.fieldLink RX9 171 "RaftForest$Books" "coins" "[I", Cond.methodLink RX9 174 yX8_logsOf, Cond.instanceMethod yX8_logsOf, Cond.selects RX8 yX8_logsOf yX8_logsOf, Cond.code yX8_logsOf cX8_logsOf 4 (some .int), Cond.methodLink RX8 146 yX6_isGone, Cond.instanceMethod yX6_isGone, Cond.selects RX6 yX6_isGone yX6_isGone, Cond.code yX6_isGone cX6_isGone 2 (some .boolean), Cond.methodLink RX8 150 yX8_ownerOf, Cond.instanceMethod yX8_ownerOf, Cond.selects RX8 yX8_ownerOf yX8_ownerOf, Cond.code yX8_ownerOf cX8_ownerOf 10 (some .int), Cond.fieldLink RX8 114 "RaftForest$State" "notchCounts" "[I", Cond.fieldLink RX8 117 "RaftForest$State" "law" "I", Cond.fieldLink RX8 93 "RaftForest$River" "villages" "I", Cond.fieldLink RX8 126 "RaftForest$State" "lawRule" "I", Cond.fieldLink RX8 139 "RaftForest$Rule" "sum" "J", Cond.methodLink RX8 120 yX6_notchAt]

def wsL_law_r32 : List Cond := [Cond.instanceMethod yX6_notchAt, Cond.selects RX6 yX6_notchAt yX6_notchAt, Cond.code yX6_notchAt cX6_notchAt 3 (some .int), Cond.methodLink RX8 123 yX8_notchesOf, Cond.instanceMethod yX8_notchesOf, Cond.selects RX8 yX8_notchesOf yX8_notchesOf, Cond.code yX8_notchesOf cX8_notchesOf 5 (some .int), Cond.fieldLink RX8 143 "RaftForest$State" "notches" "[I", Cond.methodLink RX8 129 yX8_tellWords, Cond.instanceMethod yX8_tellWords, Cond.selects RX8 yX8_tellWords yX8_tellWords, Cond.code yX8_tellWords cX8_tellWords 6 none, Cond.fieldLink RX8 159 "RaftForest$River" "logWoods" "[I", Cond.fieldLink RX8 153 "RaftForest$State" "lengths" "[I", Cond.fieldLink RX8 190 "RaftForest$River" "logRings" "[I", Cond.constantLong RX8 193 (9), Cond.fieldLink RX8 195 "RaftForest$State" "water" "I", Cond.fieldLink RX8 96 "RaftForest$State" "day" "I", Cond.methodLink RX8 165 yX8_bendOf, Cond.instanceMethod yX8_bendOf, Cond.selects RX8 yX8_bendOf yX8_bendOf, Cond.code yX8_bendOf cX8_bendOf 3 (some .int), Cond.fieldLink RX8 60 "RaftForest$River" "villageBends" "[I", Cond.fieldLink RX8 65 "RaftForest$River" "bends" "I"]

def wsL_law_r33 : List Cond := [Cond.methodLink RX8 133 yX4_finds, Cond.instanceMethod yX4_finds, Cond.selects RX4 yX4_finds yX4_finds, Cond.code yX4_finds cX4_finds 7 (some .boolean), Cond.constantLong RX4 33 (-1), Cond.fieldLink RX4 35 "RaftForest$Rule" "sum" "J", Cond.methodLink RX4 39 yX4_joined, Cond.static yX4_joined, Cond.code yX4_joined cX4_joined 5 (some .long), Cond.methodLink RX9 177 yX0_net, Cond.instanceMethod yX0_net, Cond.selects RX0 yX0_net yX0_net, Cond.code yX0_net cX0_net 4 (some .int), Cond.methodLink RL 52 yX10_village, Cond.instanceMethod yX10_village, Cond.selects RX10 yX10_village yX10_village, Cond.code yX10_village cX10_village 3 (some .int), Cond.constant RX10 476 (-1000000), Cond.methodLink RX10 477 yX10_ownedBy, Cond.instanceMethod yX10_ownedBy, Cond.selects RX10 yX10_ownedBy yX10_ownedBy, Cond.code yX10_ownedBy cX10_ownedBy 4 (some .int), Cond.methodLink RX10 473 yX10_isThere, Cond.instanceMethod yX10_isThere]

def wsL_law_r34 : List Cond := [Cond.selects RX10 yX10_isThere yX10_isThere, Cond.code yX10_isThere cX10_isThere 2 (some .boolean), Cond.methodLink RX10 464 yX10_ownerOf, Cond.instanceMethod yX10_ownerOf, Cond.selects RX10 yX10_ownerOf yX10_ownerOf, Cond.code yX10_ownerOf cX10_ownerOf 2 (some .int), Cond.methodLink RX10 427 yX10_firstOf, Cond.instanceMethod yX10_firstOf, Cond.selects RX10 yX10_firstOf yX10_firstOf, Cond.code yX10_firstOf cX10_firstOf 2 (some .int), Cond.methodLink RX10 430 yX10_lastOf, Cond.instanceMethod yX10_lastOf, Cond.selects RX10 yX10_lastOf yX10_lastOf, Cond.code yX10_lastOf cX10_lastOf 2 (some .int), Cond.methodLink RX10 458 yX10_byMost, Cond.instanceMethod yX10_byMost, Cond.selects RX10 yX10_byMost yX10_byMost, Cond.code yX10_byMost cX10_byMost 4 (some .int), Cond.methodLink RX10 448 yX10_notchesOf, Cond.instanceMethod yX10_notchesOf, Cond.selects RX10 yX10_notchesOf yX10_notchesOf, Cond.code yX10_notchesOf cX10_notchesOf 5 (some .int), Cond.methodLink RX10 461 yX10_byRule, Cond.instanceMethod yX10_byRule]

def wsL_law_r35 : List Cond := [Cond.selects RX10 yX10_byRule yX10_byRule, Cond.code yX10_byRule cX10_byRule 10 (some .int), Cond.methodLink RX10 451 yX10_asks, Cond.instanceMethod yX10_asks, Cond.selects RX10 yX10_asks yX10_asks, Cond.code yX10_asks cX10_asks 5 none, Cond.methodLink RX10 213 yX10_bendOf, Cond.instanceMethod yX10_bendOf, Cond.selects RX10 yX10_bendOf yX10_bendOf, Cond.code yX10_bendOf cX10_bendOf 2 (some .int), Cond.methodLink RX10 199 yX10_isInWater, Cond.instanceMethod yX10_isInWater, Cond.selects RX10 yX10_isInWater yX10_isInWater, Cond.code yX10_isInWater cX10_isInWater 2 (some .boolean), Cond.methodLink RX10 203 yX10_isAshore, Cond.instanceMethod yX10_isAshore, Cond.selects RX10 yX10_isAshore yX10_isAshore, Cond.code yX10_isAshore cX10_isAshore 2 (some .boolean), Cond.constantLong RX10 195 (20), Cond.constantLong RX10 197 (25), Cond.methodLink RX10 424 yX10_orNine, Cond.static yX10_orNine, Cond.code yX10_orNine cX10_orNine 1 (some .int), Cond.methodLink RX10 455 yX10_firstClause]

def wsL_law_r36 : List Cond := [Cond.instanceMethod yX10_firstClause, Cond.selects RX10 yX10_firstClause yX10_firstClause, Cond.code yX10_firstClause cX10_firstClause 4 (some .int), Cond.methodLink RX10 437 yX10_holds, Cond.instanceMethod yX10_holds, Cond.selects RX10 yX10_holds yX10_holds, Cond.code yX10_holds cX10_holds 3 (some .boolean), Cond.methodLink RX10 433 yX10_answer, Cond.instanceMethod yX10_answer, Cond.selects RX10 yX10_answer yX10_answer, Cond.code yX10_answer cX10_answer 8 (some .long), Cond.methodLink RX10 444 yX10_both, Cond.static yX10_both, Cond.code yX10_both cX10_both 5 (some .long), Cond.methodLink RX10 440 yX10_truth, Cond.static yX10_truth, Cond.code yX10_truth cX10_truth 1 (some .long), Cond.methodLink RX10 480 yX10_netOf, Cond.instanceMethod yX10_netOf, Cond.selects RX10 yX10_netOf yX10_netOf, Cond.code yX10_netOf cX10_netOf 4 (some .int), Cond.methodLink RL 53 yX9_log, Cond.instanceMethod yX9_log, Cond.selects RX9 yX9_log yX9_log]

def wsL_law_r37 : List Cond := [Cond.code yX9_log cX9_log 4 (some .int), Cond.fieldLink RX9 183 "RaftForest$River" "logWoods" "[I", Cond.fieldLink RX9 186 "RaftForest$State" "lengths" "[I", Cond.fieldLink RX9 189 "RaftForest$River" "logRings" "[I", Cond.fieldLink RX9 192 "RaftForest$State" "places" "[I", Cond.fieldLink RX9 195 "RaftForest$State" "notchCounts" "[I", Cond.fieldLink RX9 204 "RaftForest$State" "jams" "[I", Cond.fieldLink RX9 207 "RaftForest$State" "jamDays" "[I", Cond.methodLink RX9 180 yX9_isLog, Cond.instanceMethod yX9_isLog, Cond.selects RX9 yX9_isLog yX9_isLog, Cond.code yX9_isLog cX9_isLog 2 (some .boolean), Cond.methodLink RX9 198 yX8_ownerOf, Cond.methodLink RX9 201 yX8_priceOf, Cond.instanceMethod yX8_priceOf, Cond.selects RX8 yX8_priceOf yX8_priceOf, Cond.code yX8_priceOf cX8_priceOf 3 (some .int), Cond.fieldLink RX8 156 "RaftForest$River" "woodPrices" "[I", Cond.fieldLink RX8 162 "RaftForest$River" "toll" "I", Cond.methodLink RX9 210 yX6_placeInOrder, Cond.instanceMethod yX6_placeInOrder, Cond.selects RX6 yX6_placeInOrder yX6_placeInOrder, Cond.code yX6_placeInOrder cX6_placeInOrder 3 (some .int), Cond.methodLink RX9 213 yX0_weddingsOf]

def wsL_law_r38 : List Cond := [Cond.instanceMethod yX0_weddingsOf, Cond.selects RX0 yX0_weddingsOf yX0_weddingsOf, Cond.code yX0_weddingsOf cX0_weddingsOf 4 (some .int), Cond.methodLink RL 56 yX10_log, Cond.instanceMethod yX10_log, Cond.selects RX10 yX10_log yX10_log, Cond.code yX10_log cX10_log 3 (some .int), Cond.methodLink RX10 483 yX10_isLog, Cond.instanceMethod yX10_isLog, Cond.selects RX10 yX10_isLog yX10_isLog, Cond.code yX10_isLog cX10_isLog 2 (some .boolean), Cond.methodLink RX10 486 yX10_priceOf, Cond.instanceMethod yX10_priceOf, Cond.selects RX10 yX10_priceOf yX10_priceOf, Cond.code yX10_priceOf cX10_priceOf 3 (some .int), Cond.methodLink RX10 489 yX10_placeInOrder, Cond.instanceMethod yX10_placeInOrder, Cond.selects RX10 yX10_placeInOrder yX10_placeInOrder, Cond.code yX10_placeInOrder cX10_placeInOrder 3 (some .int), Cond.methodLink RL 57 yX9_notch, Cond.instanceMethod yX9_notch, Cond.selects RX9 yX9_notch yX9_notch, Cond.code yX9_notch cX9_notch 3 (some .int), Cond.methodLink RX9 216 yX6_notchAt]

def wsL_law_r39 : List Cond := [Cond.methodLink RL 60 yX10_notch, Cond.instanceMethod yX10_notch, Cond.selects RX10 yX10_notch yX10_notch, Cond.code yX10_notch cX10_notch 3 (some .int), Cond.methodLink RL 61 yX9_cut, Cond.instanceMethod yX9_cut, Cond.selects RX9 yX9_cut yX9_cut, Cond.code yX9_cut cX9_cut 4 (some .int), Cond.methodLink RX9 220 yX8_reaches, Cond.instanceMethod yX8_reaches, Cond.selects RX8 yX8_reaches yX8_reaches, Cond.code yX8_reaches cX8_reaches 4 (some .boolean), Cond.methodLink RX9 224 yX6_notchBehind, Cond.methodLink RX9 228 yX0_keepCut, Cond.instanceMethod yX0_keepCut, Cond.selects RX0 yX0_keepCut yX0_keepCut, Cond.code yX0_keepCut cX0_keepCut 5 none, Cond.methodLink RX0 74 yX0_dropFirst, Cond.static yX0_dropFirst, Cond.code yX0_dropFirst cX0_dropFirst 1 none, Cond.methodLink RX0 78 arraycopyName, Cond.methodLink RL 64 yX10_cut, Cond.instanceMethod yX10_cut, Cond.selects RX10 yX10_cut yX10_cut]

def wsL_law_r40 : List Cond := [Cond.code yX10_cut cX10_cut 3 (some .int), Cond.methodLink RX10 492 yX10_mayCut, Cond.instanceMethod yX10_mayCut, Cond.selects RX10 yX10_mayCut yX10_mayCut, Cond.code yX10_mayCut cX10_mayCut 3 (some .boolean), Cond.methodLink RX10 495 yX10_keepsCut, Cond.instanceMethod yX10_keepsCut, Cond.selects RX10 yX10_keepsCut yX10_keepsCut, Cond.code yX10_keepsCut cX10_keepsCut 6 none, Cond.methodLink RL 65 yX9_cutOver, Cond.instanceMethod yX9_cutOver, Cond.selects RX9 yX9_cutOver yX9_cutOver, Cond.code yX9_cutOver cX9_cutOver 5 (some .int), Cond.fieldLink RX9 232 "RaftForest$State" "notches" "[I", Cond.methodLink RL 69 yX10_cutOver, Cond.instanceMethod yX10_cutOver, Cond.selects RX10 yX10_cutOver yX10_cutOver, Cond.code yX10_cutOver cX10_cutOver 5 (some .int), Cond.methodLink RL 70 yX9_undo, Cond.instanceMethod yX9_undo, Cond.selects RX9 yX9_undo yX9_undo, Cond.code yX9_undo cX9_undo 6 (some .int), Cond.fieldLink RX9 235 "RaftForest$Books" "cutCount" "I", Cond.fieldLink RX9 238 "RaftForest$Books" "cutLogs" "[I"]

def wsL_law_r41 : List Cond := [Cond.fieldLink RX9 241 "RaftForest$Books" "cutPlaces" "[I", Cond.fieldLink RX9 244 "RaftForest$Books" "cutBefore" "[I", Cond.fieldLink RX9 247 "RaftForest$Books" "cutVillages" "[I", Cond.methodLink RL 73 yX10_undo, Cond.instanceMethod yX10_undo, Cond.selects RX10 yX10_undo yX10_undo, Cond.code yX10_undo cX10_undo 5 (some .int), Cond.methodLink RL 74 yX9_launch, Cond.instanceMethod yX9_launch, Cond.selects RX9 yX9_launch yX9_launch, Cond.code yX9_launch cX9_launch 3 (some .int), Cond.methodLink RX9 250 yX6_isAshore, Cond.instanceMethod yX6_isAshore, Cond.selects RX6 yX6_isAshore yX6_isAshore, Cond.code yX6_isAshore cX6_isAshore 2 (some .boolean), Cond.methodLink RX9 253 yX8_bendOf, Cond.methodLink RL 77 yX10_launch, Cond.instanceMethod yX10_launch, Cond.selects RX10 yX10_launch yX10_launch, Cond.code yX10_launch cX10_launch 2 (some .int), Cond.methodLink RL 78 yX9_land, Cond.instanceMethod yX9_land, Cond.selects RX9 yX9_land yX9_land, Cond.code yX9_land cX9_land 3 (some .boolean)]

def wsL_law_r42 : List Cond := [Cond.methodLink RL 82 yX10_land, Cond.instanceMethod yX10_land, Cond.selects RX10 yX10_land yX10_land, Cond.code yX10_land cX10_land 4 (some .boolean), Cond.methodLink RL 83 yX9_burn, Cond.instanceMethod yX9_burn, Cond.selects RX9 yX9_burn yX9_burn, Cond.code yX9_burn cX9_burn 3 (some .int), Cond.methodLink RX9 256 yX0_owe, Cond.instanceMethod yX0_owe, Cond.selects RX0 yX0_owe yX0_owe, Cond.code yX0_owe cX0_owe 4 none, Cond.methodLink RL 86 yX10_burn, Cond.instanceMethod yX10_burn, Cond.selects RX10 yX10_burn yX10_burn, Cond.code yX10_burn cX10_burn 3 (some .int), Cond.methodLink RX10 498 yX10_owes1, Cond.instanceMethod yX10_owes1, Cond.selects RX10 yX10_owes1 yX10_owes1, Cond.code yX10_owes1 cX10_owes1 4 none, Cond.methodLink RL 87 yX9_saw, Cond.instanceMethod yX9_saw, Cond.selects RX9 yX9_saw yX9_saw, Cond.code yX9_saw cX9_saw 3 (some .int)]

def wsL_law_r43 : List Cond := [Cond.methodLink RX9 260 yX6_isGone, Cond.methodLink RL 90 yX10_saw, Cond.instanceMethod yX10_saw, Cond.selects RX10 yX10_saw yX10_saw, Cond.code yX10_saw cX10_saw 3 (some .int), Cond.methodLink RL 91 yX9_ahead, Cond.instanceMethod yX9_ahead, Cond.selects RX9 yX9_ahead yX9_ahead, Cond.code yX9_ahead cX9_ahead 6 (some .int), Cond.fieldLink RX9 263 "RaftForest$State" "order" "[I", Cond.methodLink RL 94 yX10_ahead, Cond.instanceMethod yX10_ahead, Cond.selects RX10 yX10_ahead yX10_ahead, Cond.code yX10_ahead cX10_ahead 5 (some .int), Cond.methodLink RL 95 yX9_dam, Cond.instanceMethod yX9_dam, Cond.selects RX9 yX9_dam yX9_dam, Cond.code yX9_dam cX9_dam 2 (some .int), Cond.methodLink RL 98 yX10_dam, Cond.instanceMethod yX10_dam, Cond.selects RX10 yX10_dam yX10_dam, Cond.code yX10_dam cX10_dam 2 (some .int), Cond.methodLink RL 99 yX9_appeal, Cond.instanceMethod yX9_appeal]

def wsL_law_r44 : List Cond := [Cond.selects RX9 yX9_appeal yX9_appeal, Cond.code yX9_appeal cX9_appeal 2 (some .int), Cond.methodLink RX9 266 yX8_tearing, Cond.instanceMethod yX8_tearing, Cond.selects RX8 yX8_tearing yX8_tearing, Cond.code yX8_tearing cX8_tearing 2 (some .int), Cond.methodLink RX8 171 yX8_ownersBetween, Cond.instanceMethod yX8_ownersBetween, Cond.selects RX8 yX8_ownersBetween yX8_ownersBetween, Cond.code yX8_ownersBetween cX8_ownersBetween 6 (some .int), Cond.methodLink RX9 269 yJ6_bitCount_0f7a4, Cond.methodLink RX9 274 yX8_keeping, Cond.instanceMethod yX8_keeping, Cond.selects RX8 yX8_keeping yX8_keeping, Cond.code yX8_keeping cX8_keeping 2 (some .int), Cond.methodLink RL 102 yX10_appeal, Cond.instanceMethod yX10_appeal, Cond.selects RX10 yX10_appeal yX10_appeal, Cond.code yX10_appeal cX10_appeal 3 (some .int), Cond.methodLink RX10 502 yX10_votesOf, Cond.instanceMethod yX10_votesOf, Cond.selects RX10 yX10_votesOf yX10_votesOf, Cond.code yX10_votesOf cX10_votesOf 7 (some .int), Cond.methodLink RL 103 yX9_votes]

def wsL_law_r45 : List Cond := [Cond.instanceMethod yX9_votes, Cond.selects RX9 yX9_votes yX9_votes, Cond.code yX9_votes cX9_votes 3 (some .int), Cond.methodLink RL 106 yX10_votes, Cond.instanceMethod yX10_votes, Cond.selects RX10 yX10_votes yX10_votes, Cond.code yX10_votes cX10_votes 3 (some .int), Cond.methodLink RL 107 yX9_flood, Cond.instanceMethod yX9_flood, Cond.selects RX9 yX9_flood yX9_flood, Cond.code yX9_flood cX9_flood 2 (some .int), Cond.fieldLink RX9 280 "RaftForest$State" "water" "I", Cond.methodLink RX9 277 yX8_rise, Cond.instanceMethod yX8_rise, Cond.selects RX8 yX8_rise yX8_rise, Cond.code yX8_rise cX8_rise 4 none, Cond.methodLink RX8 99 Lib.Math.min.name, Cond.fieldLink RX8 218 "RaftForest$State" "ruleInForce" "I", Cond.fieldLink RX8 198 "RaftForest$State" "order" "[I", Cond.methodLink RX8 51 yJ7_fill_53178, Cond.methodLink RX8 221 yX8_asks, Cond.instanceMethod yX8_asks, Cond.selects RX8 yX8_asks yX8_asks, Cond.code yX8_asks cX8_asks 8 (some .boolean)]

def wsL_law_r46 : List Cond := [Cond.methodLink RX8 174 yX4_hasKind, Cond.instanceMethod yX4_hasKind, Cond.selects RX4 yX4_hasKind yX4_hasKind, Cond.code yX4_hasKind cX4_hasKind 2 (some .boolean), Cond.methodLink RX8 177 yX4_hasWord, Cond.instanceMethod yX4_hasWord, Cond.selects RX4 yX4_hasWord yX4_hasWord, Cond.code yX4_hasWord cX4_hasWord 2 (some .boolean), Cond.methodLink RX8 180 yX8_roomFor, Cond.instanceMethod yX8_roomFor, Cond.selects RX8 yX8_roomFor yX8_roomFor, Cond.code yX8_roomFor cX8_roomFor 5 (some .int), Cond.methodLink RX8 184 yX8_roomAt, Cond.methodLink RX8 187 yX6_isInWater, Cond.instanceMethod yX6_isInWater, Cond.selects RX6 yX6_isInWater yX6_isInWater, Cond.code yX6_isInWater cX6_isInWater 2 (some .boolean), Cond.methodLink RX8 250 yX8_goesAhead, Cond.instanceMethod yX8_goesAhead, Cond.selects RX8 yX8_goesAhead yX8_goesAhead, Cond.code yX8_goesAhead cX8_goesAhead 3 (some .boolean), Cond.methodLink RL 110 yX10_flood, Cond.instanceMethod yX10_flood, Cond.selects RX10 yX10_flood yX10_flood]

def wsL_law_r47 : List Cond := [Cond.code yX10_flood cX10_flood 2 (some .int), Cond.constantLong RX10 512 (99), Cond.methodLink RX10 514 yX10_floods, Cond.instanceMethod yX10_floods, Cond.selects RX10 yX10_floods yX10_floods, Cond.code yX10_floods cX10_floods 3 none, Cond.methodLink RX10 509 yX10_elects, Cond.instanceMethod yX10_elects, Cond.selects RX10 yX10_elects yX10_elects, Cond.code yX10_elects cX10_elects 4 none, Cond.methodLink RX10 506 yX10_roomAhead, Cond.instanceMethod yX10_roomAhead, Cond.selects RX10 yX10_roomAhead yX10_roomAhead, Cond.code yX10_roomAhead cX10_roomAhead 2 (some .int), Cond.methodLink RL 111 yX9_elected, Cond.instanceMethod yX9_elected, Cond.selects RX9 yX9_elected yX9_elected, Cond.code yX9_elected cX9_elected 2 (some .int), Cond.methodLink RX9 283 yX8_begin, Cond.instanceMethod yX8_begin, Cond.selects RX8 yX8_begin yX8_begin, Cond.code yX8_begin cX8_begin 2 none, Cond.methodLink RX8 47 yX6_copy, Cond.instanceMethod yX6_copy]

def wsL_law_r48 : List Cond := [Cond.selects RX6 yX6_copy yX6_copy, Cond.code yX6_copy cX6_copy 2 none, Cond.methodLink RL 114 yX10_elected, Cond.instanceMethod yX10_elected, Cond.selects RX10 yX10_elected yX10_elected, Cond.code yX10_elected cX10_elected 3 (some .int), Cond.methodLink RX10 517 yX10_keeps, Cond.instanceMethod yX10_keeps, Cond.selects RX10 yX10_keeps yX10_keeps, Cond.code yX10_keeps cX10_keeps 1 none, Cond.methodLink RX10 651 yX10_carriesAll, Cond.instanceMethod yX10_carriesAll, Cond.selects RX10 yX10_carriesAll yX10_carriesAll, Cond.code yX10_carriesAll cX10_carriesAll 3 none, Cond.fieldLink RX10 644 "RaftForestModel" "imageAt" "I", Cond.fieldLink RX10 641 "RaftForestModel" "goesBack" "Z", Cond.methodLink RX10 647 yX10_carry, Cond.instanceMethod yX10_carry, Cond.selects RX10 yX10_carry yX10_carry, Cond.code yX10_carry cX10_carry 3 none, Cond.methodLink RX10 520 yX10_laysBack, Cond.instanceMethod yX10_laysBack, Cond.selects RX10 yX10_laysBack yX10_laysBack, Cond.code yX10_laysBack cX10_laysBack 1 none]

def wsL_law_r49 : List Cond := [Cond.methodLink RL 115 yX9_wedding, Cond.instanceMethod yX9_wedding, Cond.selects RX9 yX9_wedding yX9_wedding, Cond.code yX9_wedding cX9_wedding 4 (some .int), Cond.fieldLink RX9 287 "RaftForest$Books" "weddings" "I", Cond.fieldLink RX9 290 "RaftForest$Books" "beams" "[I", Cond.methodLink RL 118 yX10_wedding, Cond.instanceMethod yX10_wedding, Cond.selects RX10 yX10_wedding yX10_wedding, Cond.code yX10_wedding cX10_wedding 4 (some .int), Cond.methodLink RL 119 yX9_winter, Cond.instanceMethod yX9_winter, Cond.selects RX9 yX9_winter yX9_winter, Cond.code yX9_winter cX9_winter 2 (some .int), Cond.constant RX9 293 (99999), Cond.methodLink RX9 294 yX0_writeOff, Cond.instanceMethod yX0_writeOff, Cond.selects RX0 yX0_writeOff yX0_writeOff, Cond.code yX0_writeOff cX0_writeOff 4 (some .int), Cond.methodLink RL 122 yX10_winter, Cond.instanceMethod yX10_winter, Cond.selects RX10 yX10_winter yX10_winter, Cond.code yX10_winter cX10_winter 4 (some .int), Cond.constantLong RX10 523 (99999)]

def wsL_law_r50 : List Cond := [Cond.methodLink RL 123 yX9_days, Cond.instanceMethod yX9_days, Cond.selects RX9 yX9_days yX9_days, Cond.code yX9_days cX9_days 3 (some .int), Cond.fieldLink RX9 297 "RaftForest$State" "day" "I", Cond.methodLink RX9 300 yX8_passDay, Cond.instanceMethod yX8_passDay, Cond.selects RX8 yX8_passDay yX8_passDay, Cond.code yX8_passDay cX8_passDay 2 none, Cond.fieldLink RX8 205 "RaftForest$World" "takenToday" "I", Cond.fieldLink RX8 208 "RaftForest$State" "villageRules" "[I", Cond.methodLink RX8 201 yX8_passLog, Cond.instanceMethod yX8_passLog, Cond.selects RX8 yX8_passLog yX8_passLog, Cond.code yX8_passLog cX8_passLog 3 none, Cond.fieldLink RX8 215 "RaftForest$State" "jamDays" "[I", Cond.methodLink RX8 225 yX8_jam, Cond.instanceMethod yX8_jam, Cond.selects RX8 yX8_jam yX8_jam, Cond.code yX8_jam cX8_jam 2 none, Cond.fieldLink RX8 231 "RaftForest$State" "jams" "[I", Cond.methodLink RX8 228 yX8_sell, Cond.instanceMethod yX8_sell, Cond.selects RX8 yX8_sell yX8_sell]

def wsL_law_r51 : List Cond := [Cond.code yX8_sell cX8_sell 5 none, Cond.fieldLink RX8 234 "RaftForest$Books" "coins" "[I", Cond.fieldLink RX8 237 "RaftForest$Books" "sea" "I", Cond.methodLink RX8 168 yX8_priceOf, Cond.methodLink RX8 211 yX8_passVillage, Cond.instanceMethod yX8_passVillage, Cond.selects RX8 yX8_passVillage yX8_passVillage, Cond.code yX8_passVillage cX8_passVillage 5 none, Cond.methodLink RX8 240 yX8_take, Cond.instanceMethod yX8_take, Cond.selects RX8 yX8_take yX8_take, Cond.code yX8_take cX8_take 3 none, Cond.methodLink RX8 243 yX0_owe, Cond.methodLink RX8 247 yX6_notchBehind, Cond.methodLink RX9 303 yX0_keepPlaces, Cond.instanceMethod yX0_keepPlaces, Cond.selects RX0 yX0_keepPlaces yX0_keepPlaces, Cond.code yX0_keepPlaces cX0_keepPlaces 2 none, Cond.fieldLink RX0 88 "RaftForest$State" "places" "[I", Cond.fieldLink RX0 93 "RaftForest$State" "day" "I", Cond.methodLink RL 126 yX10_days, Cond.instanceMethod yX10_days, Cond.selects RX10 yX10_days yX10_days, Cond.code yX10_days cX10_days 3 (some .int)]

def wsL_law_r52 : List Cond := [Cond.constantLong RX10 574 (60), Cond.methodLink RX10 576 yX10_day, Cond.instanceMethod yX10_day, Cond.selects RX10 yX10_day yX10_day, Cond.code yX10_day cX10_day 2 none, Cond.fieldLink RX10 559 "RaftForestModel" "takenSet" "I", Cond.methodLink RX10 565 yX10_goesAll, Cond.instanceMethod yX10_goesAll, Cond.selects RX10 yX10_goesAll yX10_goesAll, Cond.code yX10_goesAll cX10_goesAll 4 none, Cond.methodLink RX10 549 yX10_saysOf, Cond.instanceMethod yX10_saysOf, Cond.selects RX10 yX10_saysOf yX10_saysOf, Cond.code yX10_saysOf cX10_saysOf 6 (some .boolean), Cond.methodLink RX10 553 yX10_jams1, Cond.instanceMethod yX10_jams1, Cond.selects RX10 yX10_jams1 yX10_jams1, Cond.code yX10_jams1 cX10_jams1 2 none, Cond.fieldLink RX10 525 "RaftForestModel" "jammed" "I", Cond.fieldLink RX10 540 "RaftForestModel" "faded" "I", Cond.methodLink RX10 556 yX10_floats1, Cond.instanceMethod yX10_floats1, Cond.selects RX10 yX10_floats1 yX10_floats1, Cond.code yX10_floats1 cX10_floats1 2 none]

def wsL_law_r53 : List Cond := [Cond.methodLink RX10 546 yX10_sells, Cond.instanceMethod yX10_sells, Cond.selects RX10 yX10_sells yX10_sells, Cond.code yX10_sells cX10_sells 6 none, Cond.fieldLink RX10 528 "RaftForestModel" "sold" "I", Cond.fieldLink RX10 531 "RaftForestModel" "soldCoins" "I", Cond.methodLink RX10 543 yX10_ownerAtMouth, Cond.instanceMethod yX10_ownerAtMouth, Cond.selects RX10 yX10_ownerAtMouth yX10_ownerAtMouth, Cond.code yX10_ownerAtMouth cX10_ownerAtMouth 2 (some .int), Cond.methodLink RX10 568 yX10_worksVillage, Cond.instanceMethod yX10_worksVillage, Cond.selects RX10 yX10_worksVillage yX10_worksVillage, Cond.code yX10_worksVillage cX10_worksVillage 4 none, Cond.fieldLink RX10 537 "RaftForestModel" "added" "I", Cond.methodLink RX10 562 yX10_takes1, Cond.instanceMethod yX10_takes1, Cond.selects RX10 yX10_takes1 yX10_takes1, Cond.code yX10_takes1 cX10_takes1 3 none, Cond.fieldLink RX10 534 "RaftForestModel" "taken" "I", Cond.methodLink RX10 571 yX10_keepsPlaces, Cond.instanceMethod yX10_keepsPlaces, Cond.selects RX10 yX10_keepsPlaces yX10_keepsPlaces, Cond.code yX10_keepsPlaces cX10_keepsPlaces 2 none]

def wsL_law_r54 : List Cond := [Cond.methodLink RL 127 yX9_floats, Cond.instanceMethod yX9_floats, Cond.selects RX9 yX9_floats yX9_floats, Cond.code yX9_floats cX9_floats 4 (some .int), Cond.fieldLink RX9 307 "RaftForest$World" "tally" "[I", Cond.methodLink RL 130 yX10_floats, Cond.instanceMethod yX10_floats, Cond.selects RX10 yX10_floats yX10_floats, Cond.code yX10_floats cX10_floats 3 (some .int), Cond.constantLong RX10 581 (5), Cond.methodLink RX10 583 yX10_wouldBe, Cond.instanceMethod yX10_wouldBe, Cond.selects RX10 yX10_wouldBe yX10_wouldBe, Cond.code yX10_wouldBe cX10_wouldBe 3 none, Cond.methodLink RX10 578 yX10_forgetsCounts, Cond.instanceMethod yX10_forgetsCounts, Cond.selects RX10 yX10_forgetsCounts yX10_forgetsCounts, Cond.code yX10_forgetsCounts cX10_forgetsCounts 1 none, Cond.methodLink RX10 586 yX10_counted1, Cond.instanceMethod yX10_counted1, Cond.selects RX10 yX10_counted1 yX10_counted1, Cond.code yX10_counted1 cX10_counted1 2 (some .int), Cond.methodLink RL 131 yX9_letAhead, Cond.instanceMethod yX9_letAhead]

def wsL_law_r55 : List Cond := [Cond.selects RX9 yX9_letAhead yX9_letAhead, Cond.code yX9_letAhead cX9_letAhead 8 (some .int), Cond.constant RX9 314 (2147483647), Cond.methodLink RX9 310 yX9_takeRow, Cond.instanceMethod yX9_takeRow, Cond.selects RX9 yX9_takeRow yX9_takeRow, Cond.code yX9_takeRow cX9_takeRow 4 (some .int), Cond.methodLink RX9 325 yX6_isInWater, Cond.methodLink RX9 321 yX9_nextRow, Cond.static yX9_nextRow, Cond.code yX9_nextRow cX9_nextRow 6 (some .boolean), Cond.methodLink RX9 328 yX9_swap, Cond.static yX9_swap, Cond.code yX9_swap cX9_swap 4 none, Cond.methodLink RL 134 yX10_letAhead, Cond.instanceMethod yX10_letAhead, Cond.selects RX10 yX10_letAhead yX10_letAhead, Cond.code yX10_letAhead cX10_letAhead 3 (some .int), Cond.constantLong RX10 598 (6), Cond.fieldLink RX10 589 "RaftForestModel" "floatingMany" "I", Cond.fieldLink RX10 592 "RaftForestModel" "fewestJams" "I", Cond.methodLink RX10 600 yX10_fillsFloating, Cond.instanceMethod yX10_fillsFloating, Cond.selects RX10 yX10_fillsFloating yX10_fillsFloating]

def wsL_law_r56 : List Cond := [Cond.code yX10_fillsFloating cX10_fillsFloating 3 none, Cond.methodLink RX10 603 yX10_findsAhead, Cond.instanceMethod yX10_findsAhead, Cond.selects RX10 yX10_findsAhead yX10_findsAhead, Cond.code yX10_findsAhead cX10_findsAhead 5 none, Cond.methodLink RX10 595 yX10_laysRow, Cond.instanceMethod yX10_laysRow, Cond.selects RX10 yX10_laysRow yX10_laysRow, Cond.code yX10_laysRow cX10_laysRow 6 (some .boolean), Cond.methodLink RL 135 yX9_kin, Cond.instanceMethod yX9_kin, Cond.selects RX9 yX9_kin yX9_kin, Cond.code yX9_kin cX9_kin 5 (some .int), Cond.methodLink RX9 332 yX0_kinOfAll, Cond.instanceMethod yX0_kinOfAll, Cond.selects RX0 yX0_kinOfAll yX0_kinOfAll, Cond.code yX0_kinOfAll cX0_kinOfAll 4 (some .int), Cond.methodLink RL 138 yX10_kin, Cond.instanceMethod yX10_kin, Cond.selects RX10 yX10_kin yX10_kin, Cond.code yX10_kin cX10_kin 5 (some .int), Cond.methodLink RX10 606 yX10_stepOfKin, Cond.instanceMethod yX10_stepOfKin, Cond.selects RX10 yX10_stepOfKin yX10_stepOfKin]

def wsL_law_r57 : List Cond := [Cond.code yX10_stepOfKin cX10_stepOfKin 4 (some .int), Cond.methodLink RL 139 yX9_kinOf, Cond.instanceMethod yX9_kinOf, Cond.selects RX9 yX9_kinOf yX9_kinOf, Cond.code yX9_kinOf cX9_kinOf 4 (some .int), Cond.methodLink RL 142 yX10_kinOf, Cond.instanceMethod yX10_kinOf, Cond.selects RX10 yX10_kinOf yX10_kinOf, Cond.code yX10_kinOf cX10_kinOf 4 (some .int), Cond.methodLink RL 143 yX9_was, Cond.instanceMethod yX9_was, Cond.selects RX9 yX9_was yX9_was, Cond.code yX9_was cX9_was 3 (some .int), Cond.methodLink RX9 335 yX8_daysKept, Cond.instanceMethod yX8_daysKept, Cond.selects RX8 yX8_daysKept yX8_daysKept, Cond.code yX8_daysKept cX8_daysKept 1 (some .int), Cond.methodLink RX9 338 yX8_placeAgo, Cond.instanceMethod yX8_placeAgo, Cond.selects RX8 yX8_placeAgo yX8_placeAgo, Cond.code yX8_placeAgo cX8_placeAgo 3 (some .int), Cond.fieldLink RX8 102 "RaftForest$Books" "keptPlaces" "[I", Cond.methodLink RX8 105 yJ9_floorMod_7cf53, Cond.static yJ9_floorMod_7cf53]

def wsL_law_r58 : List Cond := [Cond.initialized RJ9, Cond.code yJ9_floorMod_7cf53 cJ9_floorMod_7cf53 3 (some .int), Cond.methodLink RL 146 yX10_was, Cond.instanceMethod yX10_was, Cond.selects RX10 yX10_was yX10_was, Cond.code yX10_was cX10_was 3 (some .int), Cond.methodLink RL 147 yX9_wereAt, Cond.instanceMethod yX9_wereAt, Cond.selects RX9 yX9_wereAt yX9_wereAt, Cond.code yX9_wereAt cX9_wereAt 4 (some .int), Cond.methodLink RX9 341 yX9_areKept, Cond.instanceMethod yX9_areKept, Cond.selects RX9 yX9_areKept yX9_areKept, Cond.code yX9_areKept cX9_areKept 4 (some .boolean), Cond.methodLink RX9 345 yX8_villagesSeen, Cond.instanceMethod yX8_villagesSeen, Cond.selects RX8 yX8_villagesSeen yX8_villagesSeen, Cond.code yX8_villagesSeen cX8_villagesSeen 6 (some .int), Cond.methodLink RX8 108 yX8_placeAgo, Cond.methodLink RX8 111 yX8_villagesAt, Cond.instanceMethod yX8_villagesAt, Cond.selects RX8 yX8_villagesAt yX8_villagesAt, Cond.code yX8_villagesAt cX8_villagesAt 4 (some .int), Cond.methodLink RL 150 yX10_wereAt]

def wsL_law_r59 : List Cond := [Cond.instanceMethod yX10_wereAt, Cond.selects RX10 yX10_wereAt yX10_wereAt, Cond.code yX10_wereAt cX10_wereAt 4 (some .int), Cond.methodLink RX10 612 yX10_wereAtIn, Cond.instanceMethod yX10_wereAtIn, Cond.selects RX10 yX10_wereAtIn yX10_wereAtIn, Cond.code yX10_wereAtIn cX10_wereAtIn 6 (some .int), Cond.methodLink RX10 609 yX10_atAgo, Cond.instanceMethod yX10_atAgo, Cond.selects RX10 yX10_atAgo yX10_atAgo, Cond.code yX10_atAgo cX10_atAgo 6 (some .int), Cond.methodLink RL 151 yX9_likely, Cond.instanceMethod yX9_likely, Cond.selects RX9 yX9_likely yX9_likely, Cond.code yX9_likely cX9_likely 11 (some .int), Cond.methodLink RX9 349 yX8_villagesAt, Cond.methodLink RX9 352 yX9_commonDivisor, Cond.static yX9_commonDivisor, Cond.code yX9_commonDivisor cX9_commonDivisor 6 (some .int), Cond.methodLink RL 154 yX10_likely, Cond.instanceMethod yX10_likely, Cond.selects RX10 yX10_likely yX10_likely, Cond.code yX10_likely cX10_likely 10 (some .int), Cond.methodLink RX10 616 yX10_divisor]

def wsL_law_r60 : List Cond := [Cond.static yX10_divisor, Cond.code yX10_divisor cX10_divisor 5 (some .int), Cond.methodLink RL 155 yX9_sight, Cond.instanceMethod yX9_sight, Cond.selects RX9 yX9_sight yX9_sight, Cond.code yX9_sight cX9_sight 4 (some .int), Cond.fieldLink RX9 355 "RaftForest$Books" "sights" "I", Cond.methodLink RX9 358 yX0_keepSight, Cond.instanceMethod yX0_keepSight, Cond.selects RX0 yX0_keepSight yX0_keepSight, Cond.code yX0_keepSight cX0_keepSight 5 none, Cond.methodLink RL 158 yX10_sight, Cond.instanceMethod yX10_sight, Cond.selects RX10 yX10_sight yX10_sight, Cond.code yX10_sight cX10_sight 5 (some .int), Cond.methodLink RL 159 yX9_parted, Cond.instanceMethod yX9_parted, Cond.selects RX9 yX9_parted yX9_parted, Cond.code yX9_parted cX9_parted 10 (some .int), Cond.fieldLink RX9 367 "RaftForest$Books" "sightDays" "[I", Cond.methodLink RX9 361 yX0_partedSight, Cond.instanceMethod yX0_partedSight, Cond.selects RX0 yX0_partedSight yX0_partedSight, Cond.code yX0_partedSight cX0_partedSight 5 (some .int)]

def wsL_law_r61 : List Cond := [Cond.methodLink RX0 84 yX0_sightAhead, Cond.instanceMethod yX0_sightAhead, Cond.selects RX0 yX0_sightAhead yX0_sightAhead, Cond.code yX0_sightAhead cX0_sightAhead 3 (some .int), Cond.methodLink RX9 364 yX0_sightAhead, Cond.methodLink RL 162 yX10_parted, Cond.instanceMethod yX10_parted, Cond.selects RX10 yX10_parted yX10_parted, Cond.code yX10_parted cX10_parted 6 (some .int), Cond.methodLink RX10 619 yX10_whoCould, Cond.instanceMethod yX10_whoCould, Cond.selects RX10 yX10_whoCould yX10_whoCould, Cond.code yX10_whoCould cX10_whoCould 6 (some .int), Cond.methodLink RL 163 yX9_owes, Cond.instanceMethod yX9_owes, Cond.selects RX9 yX9_owes yX9_owes, Cond.code yX9_owes cX9_owes 3 (some .int), Cond.fieldLink RX9 375 "RaftForest$Books" "debts" "[I", Cond.methodLink RL 166 yX10_owes, Cond.instanceMethod yX10_owes, Cond.selects RX10 yX10_owes yX10_owes, Cond.code yX10_owes cX10_owes 3 (some .int), Cond.methodLink RL 167 yX9_payments, Cond.instanceMethod yX9_payments]

def wsL_law_r62 : List Cond := [Cond.selects RX9 yX9_payments yX9_payments, Cond.code yX9_payments cX9_payments 7 (some .int), Cond.methodLink RX9 381 Lib.Math.max.name, Cond.methodLink RL 170 yX10_payments, Cond.instanceMethod yX10_payments, Cond.selects RX10 yX10_payments yX10_payments, Cond.code yX10_payments cX10_payments 7 (some .int), Cond.methodLink RL 171 yX9_repaid, Cond.instanceMethod yX9_repaid, Cond.selects RX9 yX9_repaid yX9_repaid, Cond.code yX9_repaid cX9_repaid 11 (some .int), Cond.methodLink RX9 384 yX8_priceOfSet, Cond.instanceMethod yX8_priceOfSet, Cond.selects RX8 yX8_priceOfSet yX8_priceOfSet, Cond.code yX8_priceOfSet cX8_priceOfSet 4 (some .int), Cond.methodLink RL 174 yX10_repaid, Cond.instanceMethod yX10_repaid, Cond.selects RX10 yX10_repaid yX10_repaid, Cond.code yX10_repaid cX10_repaid 10 (some .int), Cond.methodLink RL 175 yX9_seed, Cond.instanceMethod yX9_seed, Cond.selects RX9 yX9_seed yX9_seed, Cond.code yX9_seed cX9_seed 3 (some .int), Cond.fieldLink RX9 387 "RaftForest$Books" "seed" "I"]

def wsL_law_r63 : List Cond := [Cond.methodLink RL 178 yX10_seed, Cond.instanceMethod yX10_seed, Cond.selects RX10 yX10_seed yX10_seed, Cond.code yX10_seed cX10_seed 3 (some .int), Cond.methodLink RL 179 yX9_drawn, Cond.instanceMethod yX9_drawn, Cond.selects RX9 yX9_drawn yX9_drawn, Cond.code yX9_drawn cX9_drawn 11 (some .int), Cond.constant RX9 393 (65536), Cond.methodLink RX9 390 yX9_nextDrawn, Cond.static yX9_nextDrawn, Cond.code yX9_nextDrawn cX9_nextDrawn 1 (some .int), Cond.constantLong RX9 394 (1103515245), Cond.constantLong RX9 396 (12345), Cond.constantLong RX9 398 (2147483647), Cond.methodLink RL 183 yX10_drawn, Cond.instanceMethod yX10_drawn, Cond.selects RX10 yX10_drawn yX10_drawn, Cond.code yX10_drawn cX10_drawn 10 (some .int), Cond.constantLong RX10 629 (10), Cond.constantLong RX10 631 (100), Cond.constantLong RX10 633 (2), Cond.methodLink RX10 635 yX10_draws, Cond.instanceMethod yX10_draws]

def wsL_law_r64 : List Cond := [Cond.selects RX10 yX10_draws yX10_draws, Cond.code yX10_draws cX10_draws 2 (some .int), Cond.constantLong RX10 622 (1103515245), Cond.constantLong RX10 624 (12345), Cond.constantLong RX10 626 (2147483648), Cond.constant RX10 628 (65536), Cond.methodLink RL 184 yX9_count, Cond.instanceMethod yX9_count, Cond.selects RX9 yX9_count yX9_count, Cond.code yX9_count cX9_count 2 (some .int), Cond.fieldLink RX9 403 "RaftForest$River" "woods" "I", Cond.methodLink RX9 406 yX6_logsBetween, Cond.instanceMethod yX6_logsBetween, Cond.selects RX6 yX6_logsBetween yX6_logsBetween, Cond.code yX6_logsBetween cX6_logsBetween 5 (some .int), Cond.methodLink RX9 409 yX9_countKept, Cond.instanceMethod yX9_countKept, Cond.selects RX9 yX9_countKept yX9_countKept, Cond.code yX9_countKept cX9_countKept 2 (some .int), Cond.fieldLink RX9 412 "RaftForest$Books" "sea" "I", Cond.fieldLink RX9 418 "RaftForest$River" "toll" "I", Cond.methodLink RX9 415 yX6_jamsInAll, Cond.instanceMethod yX6_jamsInAll, Cond.selects RX6 yX6_jamsInAll yX6_jamsInAll]

def wsL_law_r65 : List Cond := [Cond.code yX6_jamsInAll cX6_jamsInAll 3 (some .int), Cond.methodLink RL 187 yX10_count, Cond.instanceMethod yX10_count, Cond.selects RX10 yX10_count yX10_count, Cond.code yX10_count cX10_count 2 (some .int), Cond.methodLink RX10 638 yX10_countOf, Cond.instanceMethod yX10_countOf, Cond.selects RX10 yX10_countOf yX10_countOf, Cond.code yX10_countOf cX10_countOf 5 (some .int), Cond.methodLink RL 188 yX9_image, Cond.instanceMethod yX9_image, Cond.selects RX9 yX9_image yX9_image, Cond.code yX9_image cX9_image 2 (some .int), Cond.methodLink RX9 421 yX1_take, Cond.instanceMethod yX1_take, Cond.selects RX1 yX1_take yX1_take, Cond.code yX1_take cX1_take 2 none, Cond.fieldLink RX1 30 "RaftForest$Image" "made" "Z", Cond.fieldLink RX1 34 "RaftForest$World" "river" "LRaftForest$River;", Cond.fieldLink RX1 41 "RaftForest$World" "state" "LRaftForest$State;", Cond.fieldLink RX1 45 "RaftForest$World" "books" "LRaftForest$Books;", Cond.methodLink RX1 37 yX2_copy, Cond.methodLink RX1 42 yX6_copy, Cond.methodLink RX1 46 yX0_copy]

def wsL_law_r66 : List Cond := [Cond.instanceMethod yX0_copy, Cond.selects RX0 yX0_copy yX0_copy, Cond.code yX0_copy cX0_copy 2 none, Cond.fieldLink RX0 67 "RaftForest$Books" "seed" "I", Cond.methodLink RL 191 yX10_image, Cond.instanceMethod yX10_image, Cond.selects RX10 yX10_image yX10_image, Cond.code yX10_image cX10_image 2 (some .int), Cond.methodLink RL 192 yX9_back, Cond.instanceMethod yX9_back, Cond.selects RX9 yX9_back yX9_back, Cond.code yX9_back cX9_back 2 (some .int), Cond.fieldLink RX9 424 "RaftForest$Image" "made" "Z", Cond.methodLink RX9 428 yX1_give, Cond.instanceMethod yX1_give, Cond.selects RX1 yX1_give yX1_give, Cond.code yX1_give cX1_give 2 none, Cond.methodLink RL 195 yX10_back, Cond.instanceMethod yX10_back, Cond.selects RX10 yX10_back yX10_back, Cond.code yX10_back cX10_back 2 (some .int)]

def wsL_law : List Cond := (wsL_law_r1 ++ (wsL_law_r2 ++ (wsL_law_r3 ++ (wsL_law_r4 ++ (wsL_law_r5 ++ (wsL_law_r6 ++ (wsL_law_r7 ++ (wsL_law_r8 ++ (wsL_law_r9 ++ (wsL_law_r10 ++ (wsL_law_r11 ++ (wsL_law_r12 ++ (wsL_law_r13 ++ (wsL_law_r14 ++ (wsL_law_r15 ++ (wsL_law_r16 ++ (wsL_law_r17 ++ (wsL_law_r18 ++ (wsL_law_r19 ++ (wsL_law_r20 ++ (wsL_law_r21 ++ (wsL_law_r22 ++ (wsL_law_r23 ++ (wsL_law_r24 ++ (wsL_law_r25 ++ (wsL_law_r26 ++ (wsL_law_r27 ++ (wsL_law_r28 ++ (wsL_law_r29 ++ (wsL_law_r30 ++ (wsL_law_r31 ++ (wsL_law_r32 ++ (wsL_law_r33 ++ (wsL_law_r34 ++ (wsL_law_r35 ++ (wsL_law_r36 ++ (wsL_law_r37 ++ (wsL_law_r38 ++ (wsL_law_r39 ++ (wsL_law_r40 ++ (wsL_law_r41 ++ (wsL_law_r42 ++ (wsL_law_r43 ++ (wsL_law_r44 ++ (wsL_law_r45 ++ (wsL_law_r46 ++ (wsL_law_r47 ++ (wsL_law_r48 ++ (wsL_law_r49 ++ (wsL_law_r50 ++ (wsL_law_r51 ++ (wsL_law_r52 ++ (wsL_law_r53 ++ (wsL_law_r54 ++ (wsL_law_r55 ++ (wsL_law_r56 ++ (wsL_law_r57 ++ (wsL_law_r58 ++ (wsL_law_r59 ++ (wsL_law_r60 ++ (wsL_law_r61 ++ (wsL_law_r62 ++ (wsL_law_r63 ++ (wsL_law_r64 ++ (wsL_law_r65 ++ wsL_law_r66))))))))))))))))))))))))))))))))))))))))))))))))))))))))))))))))) ++ wsX90 ++ wsX100 ++ wsX70 ++ wsX30 ++ wsX50 ++ wsX40 ++ wsX80 ++ wsX20 ++ wsX10 ++ wsX60 ++ wsX00 ++ ([] : List Cond)

set_option maxRecDepth 20000 in
theorem wsL_law_in : ∀ w ∈ wsL_law, w ∈ lw_tbl := fun w h => (goodIn_p wsL_law [138, 141, 146, 177, 183, 270, 284, 313, 319, 401, 511, 1248, 573, 577, 1494, 1498, 581, 1502, 585, 589, 593, 596, 600, 604, 609, 613, 617, 623, 627, 630, 633, 638, 641, 644, 647, 651, 661, 665, 670, 674, 678, 682, 686, 689, 692, 699, 705, 710, 1506, 1510, 1514, 1518, 1522, 1525, 1535, 1541, 1545, 1549, 1553, 1558, 1562, 1567, 1571, 1575, 1579, 1582, 716, 720, 724, 733, 737, 741, 745, 754, 759, 763, 768, 772, 778, 1586, 1590, 1593, 1602, 1606, 1610, 1614, 1618, 1621, 1636, 1640, 1644, 1649, 1653, 1657, 1661, 782, 786, 790, 794, 1667, 1671, 1675, 798, 802, 1680, 1684, 806, 1688, 810, 814, 818, 822, 832, 826, 1693, 1697, 1701, 1705, 1708, 836, 841, 845, 849, 853, 857, 861, 865, 870, 874, 878, 1712, 1717, 1721, 1725, 1729, 1733, 1737, 1741, 1745, 1749, 1753, 1757, 1761, 1766, 1770, 1774, 1778, 1781, 1784, 1788, 882, 886, 891, 895, 899, 1792, 1796, 1800, 1804, 903, 1808, 908, 912, 917, 920, 1812, 1816, 1820, 925, 1824, 929, 1828, 933, 937, 1832, 942, 1836, 946, 950, 1840, 1844, 954, 1848, 959, 1852, 963, 1856, 967, 971, 975, 980, 1868, 1864, 984, 1860, 988, 992, 998, 1002, 1006, 1010, 1015, 1019, 1872, 1877, 1881, 1885, 1023, 1027, 1031, 1889, 1893, 1897, 1901, 1905, 1035, 1909, 1039, 1044, 1913, 1048, 1052, 1056, 1060, 1064, 1069, 1073, 1079, 1918, 1923, 1927, 1931, 1935, 1939, 1943, 1947, 1951, 1955, 1959, 1083, 1963, 1968, 1972, 1976, 1087, 1091, 1096, 1099, 1980, 1985, 1989, 1993, 1103, 1107, 1997, 2001, 1111, 2005, 1115, 1119, 1123, 1126, 2009, 1130, 1134, 1138, 1143, 2013, 2017, 2021, 1147, 1151, 2025, 2028, 1155, 1159, 2032, 1163, 1167, 1171, 2036, 2040, 1176, 2044, 1180, 2048, 1185, 1189, 2052, 1193, 2056, 1197, 1200, 2060, 2067, 1208, 1212, 1216, 1220, 2075, 2079, 1224, 1228, 1234, 2083, 1239, 1243, 2087] (by decide +kernel) (by decide +kernel) w h).1

theorem inlX0 : ∀ w ∈ wsX00, w ∈ wsL_law := fun _ h => List.mem_append_left _ (List.mem_append_right _ h)

theorem inlX1 : ∀ w ∈ wsX10, w ∈ wsL_law := fun _ h => List.mem_append_left _ (List.mem_append_left _ (List.mem_append_left _ (List.mem_append_right _ h)))

theorem inlX2 : ∀ w ∈ wsX20, w ∈ wsL_law := fun _ h => List.mem_append_left _ (List.mem_append_left _ (List.mem_append_left _ (List.mem_append_left _ (List.mem_append_right _ h))))

theorem inlX3 : ∀ w ∈ wsX30, w ∈ wsL_law := fun _ h => List.mem_append_left _ (List.mem_append_left _ (List.mem_append_left _ (List.mem_append_left _ (List.mem_append_left _ (List.mem_append_left _ (List.mem_append_left _ (List.mem_append_left _ (List.mem_append_right _ h))))))))

theorem inlX4 : ∀ w ∈ wsX40, w ∈ wsL_law := fun _ h => List.mem_append_left _ (List.mem_append_left _ (List.mem_append_left _ (List.mem_append_left _ (List.mem_append_left _ (List.mem_append_left _ (List.mem_append_right _ h))))))

theorem inlX5 : ∀ w ∈ wsX50, w ∈ wsL_law := fun _ h => List.mem_append_left _ (List.mem_append_left _ (List.mem_append_left _ (List.mem_append_left _ (List.mem_append_left _ (List.mem_append_left _ (List.mem_append_left _ (List.mem_append_right _ h)))))))

theorem inlX6 : ∀ w ∈ wsX60, w ∈ wsL_law := fun _ h => List.mem_append_left _ (List.mem_append_left _ (List.mem_append_right _ h))

theorem inlX7 : ∀ w ∈ wsX70, w ∈ wsL_law := fun _ h => List.mem_append_left _ (List.mem_append_left _ (List.mem_append_left _ (List.mem_append_left _ (List.mem_append_left _ (List.mem_append_left _ (List.mem_append_left _ (List.mem_append_left _ (List.mem_append_left _ (List.mem_append_right _ h)))))))))

theorem inlX8 : ∀ w ∈ wsX80, w ∈ wsL_law := fun _ h => List.mem_append_left _ (List.mem_append_left _ (List.mem_append_left _ (List.mem_append_left _ (List.mem_append_left _ (List.mem_append_right _ h)))))

theorem inlX9 : ∀ w ∈ wsX90, w ∈ wsL_law := fun _ h => List.mem_append_left _ (List.mem_append_left _ (List.mem_append_left _ (List.mem_append_left _ (List.mem_append_left _ (List.mem_append_left _ (List.mem_append_left _ (List.mem_append_left _ (List.mem_append_left _ (List.mem_append_left _ (List.mem_append_left _ (List.mem_append_right _ h)))))))))))

theorem inlX10 : ∀ w ∈ wsX100, w ∈ wsL_law := fun _ h => List.mem_append_left _ (List.mem_append_left _ (List.mem_append_left _ (List.mem_append_left _ (List.mem_append_left _ (List.mem_append_left _ (List.mem_append_left _ (List.mem_append_left _ (List.mem_append_left _ (List.mem_append_left _ (List.mem_append_right _ h))))))))))

abbrev vwCl : List vw_C := [(RX0, TX0, 17), (RX1, TX1, 4), (RX2, TX2, 12), (RX3, TX3, 3), (RX4, TX4, 6), (RX5, TX5, 2), (RX6, TX6, 15), (RX7, TX7, 6), (RX8, TX8, 9), (RX9, TX9, 12), (RX10, TX10, 80)]

