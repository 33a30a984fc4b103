-- ===== PART A: goes FIRST, ahead of the names: the tables' words, and 'selects' of the private methods out of them =====
/-- a private method of a class that the tables say can be made, by its rows of tables_1 -/
def lw_okq (q : MethodName × Nat) : Prop := (q.1.cls ≠ "java/lang/invoke/MethodHandle" ∧ q.1.cls ≠ "java/lang/invoke/VarHandle") ∧ Cond.instantiable q.1.cls q.2 ∈ tables_1 ∧ Cond.privateMethod q.1 ∈ tables_1 ∧ Cond.instanceMethod q.1 ∈ tables_1
theorem lw_p0 : lw_okq (⟨"RaftForest$RiverReader", "isTooMany", "(II)Z"⟩, 3) := ⟨⟨by decide +kernel, by decide +kernel⟩, List.mem_of_getElem? (i := 60) (by decide +kernel), List.mem_of_getElem? (i := 549) (by decide +kernel), List.mem_of_getElem? (i := 550) (by decide +kernel)⟩
theorem lw_p1 : lw_okq (⟨"RaftForest$RiverReader", "readsClause", "(I)Z"⟩, 3) := ⟨⟨by decide +kernel, by decide +kernel⟩, List.mem_of_getElem? (i := 60) (by decide +kernel), List.mem_of_getElem? (i := 554) (by decide +kernel), List.mem_of_getElem? (i := 555) (by decide +kernel)⟩
theorem lw_p2 : lw_okq (⟨"RaftForest$RiverReader", "readNumber", "(II)I"⟩, 3) := ⟨⟨by decide +kernel, by decide +kernel⟩, List.mem_of_getElem? (i := 60) (by decide +kernel), List.mem_of_getElem? (i := 558) (by decide +kernel), List.mem_of_getElem? (i := 559) (by decide +kernel)⟩
theorem lw_p3 : lw_okq (⟨"RaftForest$RuleReader", "readsSum", "(LRaftForest$Rule;)Z"⟩, 2) := ⟨⟨by decide +kernel, by decide +kernel⟩, List.mem_of_getElem? (i := 153) (by decide +kernel), List.mem_of_getElem? (i := 625) (by decide +kernel), List.mem_of_getElem? (i := 626) (by decide +kernel)⟩
theorem lw_p4 : lw_okq (⟨"RaftForest$RuleReader", "readsValue", "(LRaftForest$Rule;)Z"⟩, 2) := ⟨⟨by decide +kernel, by decide +kernel⟩, List.mem_of_getElem? (i := 153) (by decide +kernel), List.mem_of_getElem? (i := 629) (by decide +kernel), List.mem_of_getElem? (i := 630) (by decide +kernel)⟩
theorem lw_p5 : lw_okq (⟨"RaftForest$RuleReader", "readsTest", "(LRaftForest$Rule;I)Z"⟩, 2) := ⟨⟨by decide +kernel, by decide +kernel⟩, List.mem_of_getElem? (i := 153) (by decide +kernel), List.mem_of_getElem? (i := 643) (by decide +kernel), List.mem_of_getElem? (i := 644) (by decide +kernel)⟩
theorem lw_p6 : lw_okq (⟨"RaftForest$RuleReader", "readsFact", "(LRaftForest$Rule;I)Z"⟩, 2) := ⟨⟨by decide +kernel, by decide +kernel⟩, List.mem_of_getElem? (i := 153) (by decide +kernel), List.mem_of_getElem? (i := 647) (by decide +kernel), List.mem_of_getElem? (i := 648) (by decide +kernel)⟩
theorem lw_p7 : lw_okq (⟨"RaftForest$RuleReader", "readSign", "()I"⟩, 2) := ⟨⟨by decide +kernel, by decide +kernel⟩, List.mem_of_getElem? (i := 153) (by decide +kernel), List.mem_of_getElem? (i := 652) (by decide +kernel), List.mem_of_getElem? (i := 653) (by decide +kernel)⟩
theorem lw_p8 : lw_okq (⟨"RaftForest", "hasRiver", "()Z"⟩, 12) := ⟨⟨by decide +kernel, by decide +kernel⟩, List.mem_of_getElem? (i := 21) (by decide +kernel), List.mem_of_getElem? (i := 670) (by decide +kernel), List.mem_of_getElem? (i := 671) (by decide +kernel)⟩
theorem lw_p9 : lw_okq (⟨"RaftForest", "isRuleOrNone", "(I)Z"⟩, 12) := ⟨⟨by decide +kernel, by decide +kernel⟩, List.mem_of_getElem? (i := 21) (by decide +kernel), List.mem_of_getElem? (i := 674) (by decide +kernel), List.mem_of_getElem? (i := 675) (by decide +kernel)⟩
theorem lw_p10 : lw_okq (⟨"RaftForest", "isRule", "(I)Z"⟩, 12) := ⟨⟨by decide +kernel, by decide +kernel⟩, List.mem_of_getElem? (i := 21) (by decide +kernel), List.mem_of_getElem? (i := 678) (by decide +kernel), List.mem_of_getElem? (i := 679) (by decide +kernel)⟩
theorem lw_p11 : lw_okq (⟨"RaftForest", "isVillage", "(I)Z"⟩, 12) := ⟨⟨by decide +kernel, by decide +kernel⟩, List.mem_of_getElem? (i := 21) (by decide +kernel), List.mem_of_getElem? (i := 686) (by decide +kernel), List.mem_of_getElem? (i := 687) (by decide +kernel)⟩
theorem lw_p12 : lw_okq (⟨"RaftForest", "isBend", "(I)Z"⟩, 12) := ⟨⟨by decide +kernel, by decide +kernel⟩, List.mem_of_getElem? (i := 21) (by decide +kernel), List.mem_of_getElem? (i := 698) (by decide +kernel), List.mem_of_getElem? (i := 699) (by decide +kernel)⟩
theorem lw_p13 : lw_okq (⟨"RaftForest$World", "notchesOf", "(II)I"⟩, 9) := ⟨⟨by decide +kernel, by decide +kernel⟩, List.mem_of_getElem? (i := 194) (by decide +kernel), List.mem_of_getElem? (i := 741) (by decide +kernel), List.mem_of_getElem? (i := 742) (by decide +kernel)⟩
theorem lw_p14 : lw_okq (⟨"RaftForest$World", "tellWords", "(IIII)V"⟩, 9) := ⟨⟨by decide +kernel, by decide +kernel⟩, List.mem_of_getElem? (i := 194) (by decide +kernel), List.mem_of_getElem? (i := 745) (by decide +kernel), List.mem_of_getElem? (i := 746) (by decide +kernel)⟩
theorem lw_p15 : lw_okq (⟨"RaftForest", "isLog", "(I)Z"⟩, 12) := ⟨⟨by decide +kernel, by decide +kernel⟩, List.mem_of_getElem? (i := 21) (by decide +kernel), List.mem_of_getElem? (i := 770) (by decide +kernel), List.mem_of_getElem? (i := 771) (by decide +kernel)⟩
def lw_privs_1 : List (MethodName × Nat) := [(⟨"RaftForest$RiverReader", "isTooMany", "(II)Z"⟩, 3), (⟨"RaftForest$RiverReader", "readsClause", "(I)Z"⟩, 3), (⟨"RaftForest$RiverReader", "readNumber", "(II)I"⟩, 3), (⟨"RaftForest$RuleReader", "readsSum", "(LRaftForest$Rule;)Z"⟩, 2), (⟨"RaftForest$RuleReader", "readsValue", "(LRaftForest$Rule;)Z"⟩, 2), (⟨"RaftForest$RuleReader", "readsTest", "(LRaftForest$Rule;I)Z"⟩, 2), (⟨"RaftForest$RuleReader", "readsFact", "(LRaftForest$Rule;I)Z"⟩, 2), (⟨"RaftForest$RuleReader", "readSign", "()I"⟩, 2), (⟨"RaftForest", "hasRiver", "()Z"⟩, 12), (⟨"RaftForest", "isRuleOrNone", "(I)Z"⟩, 12), (⟨"RaftForest", "isRule", "(I)Z"⟩, 12), (⟨"RaftForest", "isVillage", "(I)Z"⟩, 12), (⟨"RaftForest", "isBend", "(I)Z"⟩, 12), (⟨"RaftForest$World", "notchesOf", "(II)I"⟩, 9), (⟨"RaftForest$World", "tellWords", "(IIII)V"⟩, 9), (⟨"RaftForest", "isLog", "(I)Z"⟩, 12)]
theorem lw_r1 : ∀ q ∈ lw_privs_1, lw_okq q := List.forall_mem_cons.mpr ⟨lw_p0, List.forall_mem_cons.mpr ⟨lw_p1, List.forall_mem_cons.mpr ⟨lw_p2, List.forall_mem_cons.mpr ⟨lw_p3, List.forall_mem_cons.mpr ⟨lw_p4, List.forall_mem_cons.mpr ⟨lw_p5, List.forall_mem_cons.mpr ⟨lw_p6, List.forall_mem_cons.mpr ⟨lw_p7, List.forall_mem_cons.mpr ⟨lw_p8, List.forall_mem_cons.mpr ⟨lw_p9, List.forall_mem_cons.mpr ⟨lw_p10, List.forall_mem_cons.mpr ⟨lw_p11, List.forall_mem_cons.mpr ⟨lw_p12, List.forall_mem_cons.mpr ⟨lw_p13, List.forall_mem_cons.mpr ⟨lw_p14, List.forall_mem_cons.mpr ⟨lw_p15, fun _ h => absurd h List.not_mem_nil⟩⟩⟩⟩⟩⟩⟩⟩⟩⟩⟩⟩⟩⟩⟩⟩
theorem lw_p16 : lw_okq (⟨"RaftForest$World", "ownersBetween", "(II)I"⟩, 9) := ⟨⟨by decide +kernel, by decide +kernel⟩, List.mem_of_getElem? (i := 194) (by decide +kernel), List.mem_of_getElem? (i := 859) (by decide +kernel), List.mem_of_getElem? (i := 860) (by decide +kernel)⟩
theorem lw_p17 : lw_okq (⟨"RaftForest$World", "asks", "(IIII)Z"⟩, 9) := ⟨⟨by decide +kernel, by decide +kernel⟩, List.mem_of_getElem? (i := 194) (by decide +kernel), List.mem_of_getElem? (i := 882) (by decide +kernel), List.mem_of_getElem? (i := 883) (by decide +kernel)⟩
theorem lw_p18 : lw_okq (⟨"RaftForest$World", "roomFor", "(III)I"⟩, 9) := ⟨⟨by decide +kernel, by decide +kernel⟩, List.mem_of_getElem? (i := 194) (by decide +kernel), List.mem_of_getElem? (i := 894) (by decide +kernel), List.mem_of_getElem? (i := 895) (by decide +kernel)⟩
theorem lw_p19 : lw_okq (⟨"RaftForest$World", "goesAhead", "(II)Z"⟩, 9) := ⟨⟨by decide +kernel, by decide +kernel⟩, List.mem_of_getElem? (i := 194) (by decide +kernel), List.mem_of_getElem? (i := 903) (by decide +kernel), List.mem_of_getElem? (i := 904) (by decide +kernel)⟩
theorem lw_p20 : lw_okq (⟨"RaftForest$World", "passLog", "(I)V"⟩, 9) := ⟨⟨by decide +kernel, by decide +kernel⟩, List.mem_of_getElem? (i := 194) (by decide +kernel), List.mem_of_getElem? (i := 940) (by decide +kernel), List.mem_of_getElem? (i := 941) (by decide +kernel)⟩
theorem lw_p21 : lw_okq (⟨"RaftForest$World", "jam", "(I)V"⟩, 9) := ⟨⟨by decide +kernel, by decide +kernel⟩, List.mem_of_getElem? (i := 194) (by decide +kernel), List.mem_of_getElem? (i := 944) (by decide +kernel), List.mem_of_getElem? (i := 945) (by decide +kernel)⟩
theorem lw_p22 : lw_okq (⟨"RaftForest$World", "sell", "(I)V"⟩, 9) := ⟨⟨by decide +kernel, by decide +kernel⟩, List.mem_of_getElem? (i := 194) (by decide +kernel), List.mem_of_getElem? (i := 948) (by decide +kernel), List.mem_of_getElem? (i := 949) (by decide +kernel)⟩
theorem lw_p23 : lw_okq (⟨"RaftForest$World", "passVillage", "(II)V"⟩, 9) := ⟨⟨by decide +kernel, by decide +kernel⟩, List.mem_of_getElem? (i := 194) (by decide +kernel), List.mem_of_getElem? (i := 953) (by decide +kernel), List.mem_of_getElem? (i := 954) (by decide +kernel)⟩
theorem lw_p24 : lw_okq (⟨"RaftForest$World", "take", "(II)V"⟩, 9) := ⟨⟨by decide +kernel, by decide +kernel⟩, List.mem_of_getElem? (i := 194) (by decide +kernel), List.mem_of_getElem? (i := 957) (by decide +kernel), List.mem_of_getElem? (i := 958) (by decide +kernel)⟩
theorem lw_p25 : lw_okq (⟨"RaftForest", "takeRow", "()I"⟩, 12) := ⟨⟨by decide +kernel, by decide +kernel⟩, List.mem_of_getElem? (i := 21) (by decide +kernel), List.mem_of_getElem? (i := 975) (by decide +kernel), List.mem_of_getElem? (i := 976) (by decide +kernel)⟩
theorem lw_p26 : lw_okq (⟨"RaftForest", "areKept", "(III)Z"⟩, 12) := ⟨⟨by decide +kernel, by decide +kernel⟩, List.mem_of_getElem? (i := 21) (by decide +kernel), List.mem_of_getElem? (i := 1018) (by decide +kernel), List.mem_of_getElem? (i := 1019) (by decide +kernel)⟩
theorem lw_p27 : lw_okq (⟨"RaftForest", "countKept", "(I)I"⟩, 12) := ⟨⟨by decide +kernel, by decide +kernel⟩, List.mem_of_getElem? (i := 21) (by decide +kernel), List.mem_of_getElem? (i := 1100) (by decide +kernel), List.mem_of_getElem? (i := 1101) (by decide +kernel)⟩
theorem lw_p28 : lw_okq (⟨"RaftForestModel", "put", "(I)V"⟩, 80) := ⟨⟨by decide +kernel, by decide +kernel⟩, List.mem_of_getElem? (i := 1131) (by decide +kernel), List.mem_of_getElem? (i := 1382) (by decide +kernel), List.mem_of_getElem? (i := 1383) (by decide +kernel)⟩
theorem lw_p29 : lw_okq (⟨"RaftForestModel", "starts", "()V"⟩, 80) := ⟨⟨by decide +kernel, by decide +kernel⟩, List.mem_of_getElem? (i := 1131) (by decide +kernel), List.mem_of_getElem? (i := 1394) (by decide +kernel), List.mem_of_getElem? (i := 1395) (by decide +kernel)⟩
theorem lw_p30 : lw_okq (⟨"RaftForestModel", "riverClause", "(I)V"⟩, 80) := ⟨⟨by decide +kernel, by decide +kernel⟩, List.mem_of_getElem? (i := 1131) (by decide +kernel), List.mem_of_getElem? (i := 1398) (by decide +kernel), List.mem_of_getElem? (i := 1399) (by decide +kernel)⟩
theorem lw_p31 : lw_okq (⟨"RaftForestModel", "blanks", "()V"⟩, 80) := ⟨⟨by decide +kernel, by decide +kernel⟩, List.mem_of_getElem? (i := 1131) (by decide +kernel), List.mem_of_getElem? (i := 1402) (by decide +kernel), List.mem_of_getElem? (i := 1403) (by decide +kernel)⟩
def lw_privs_2 : List (MethodName × Nat) := [(⟨"RaftForest$World", "ownersBetween", "(II)I"⟩, 9), (⟨"RaftForest$World", "asks", "(IIII)Z"⟩, 9), (⟨"RaftForest$World", "roomFor", "(III)I"⟩, 9), (⟨"RaftForest$World", "goesAhead", "(II)Z"⟩, 9), (⟨"RaftForest$World", "passLog", "(I)V"⟩, 9), (⟨"RaftForest$World", "jam", "(I)V"⟩, 9), (⟨"RaftForest$World", "sell", "(I)V"⟩, 9), (⟨"RaftForest$World", "passVillage", "(II)V"⟩, 9), (⟨"RaftForest$World", "take", "(II)V"⟩, 9), (⟨"RaftForest", "takeRow", "()I"⟩, 12), (⟨"RaftForest", "areKept", "(III)Z"⟩, 12), (⟨"RaftForest", "countKept", "(I)I"⟩, 12), (⟨"RaftForestModel", "put", "(I)V"⟩, 80), (⟨"RaftForestModel", "starts", "()V"⟩, 80), (⟨"RaftForestModel", "riverClause", "(I)V"⟩, 80), (⟨"RaftForestModel", "blanks", "()V"⟩, 80)]
theorem lw_r2 : ∀ q ∈ lw_privs_2, lw_okq q := List.forall_mem_cons.mpr ⟨lw_p16, List.forall_mem_cons.mpr ⟨lw_p17, List.forall_mem_cons.mpr ⟨lw_p18, List.forall_mem_cons.mpr ⟨lw_p19, List.forall_mem_cons.mpr ⟨lw_p20, List.forall_mem_cons.mpr ⟨lw_p21, List.forall_mem_cons.mpr ⟨lw_p22, List.forall_mem_cons.mpr ⟨lw_p23, List.forall_mem_cons.mpr ⟨lw_p24, List.forall_mem_cons.mpr ⟨lw_p25, List.forall_mem_cons.mpr ⟨lw_p26, List.forall_mem_cons.mpr ⟨lw_p27, List.forall_mem_cons.mpr ⟨lw_p28, List.forall_mem_cons.mpr ⟨lw_p29, List.forall_mem_cons.mpr ⟨lw_p30, List.forall_mem_cons.mpr ⟨lw_p31, fun _ h => absurd h List.not_mem_nil⟩⟩⟩⟩⟩⟩⟩⟩⟩⟩⟩⟩⟩⟩⟩⟩
theorem lw_p32 : lw_okq (⟨"RaftForestModel", "sign", "()I"⟩, 80) := ⟨⟨by decide +kernel, by decide +kernel⟩, List.mem_of_getElem? (i := 1131) (by decide +kernel), List.mem_of_getElem? (i := 1406) (by decide +kernel), List.mem_of_getElem? (i := 1407) (by decide +kernel)⟩
theorem lw_p33 : lw_okq (⟨"RaftForestModel", "stood", "(Ljava/lang/String;)Z"⟩, 80) := ⟨⟨by decide +kernel, by decide +kernel⟩, List.mem_of_getElem? (i := 1131) (by decide +kernel), List.mem_of_getElem? (i := 1419) (by decide +kernel), List.mem_of_getElem? (i := 1420) (by decide +kernel)⟩
theorem lw_p34 : lw_okq (⟨"RaftForestModel", "fails", "(II)V"⟩, 80) := ⟨⟨by decide +kernel, by decide +kernel⟩, List.mem_of_getElem? (i := 1131) (by decide +kernel), List.mem_of_getElem? (i := 1425) (by decide +kernel), List.mem_of_getElem? (i := 1426) (by decide +kernel)⟩
theorem lw_p35 : lw_okq (⟨"RaftForestModel", "isFull", "(II)Z"⟩, 80) := ⟨⟨by decide +kernel, by decide +kernel⟩, List.mem_of_getElem? (i := 1131) (by decide +kernel), List.mem_of_getElem? (i := 1429) (by decide +kernel), List.mem_of_getElem? (i := 1430) (by decide +kernel)⟩
theorem lw_p36 : lw_okq (⟨"RaftForestModel", "riverPart", "(I)V"⟩, 80) := ⟨⟨by decide +kernel, by decide +kernel⟩, List.mem_of_getElem? (i := 1131) (by decide +kernel), List.mem_of_getElem? (i := 1433) (by decide +kernel), List.mem_of_getElem? (i := 1434) (by decide +kernel)⟩
theorem lw_p37 : lw_okq (⟨"RaftForestModel", "amount", "(II)I"⟩, 80) := ⟨⟨by decide +kernel, by decide +kernel⟩, List.mem_of_getElem? (i := 1131) (by decide +kernel), List.mem_of_getElem? (i := 1437) (by decide +kernel), List.mem_of_getElem? (i := 1438) (by decide +kernel)⟩
theorem lw_p38 : lw_okq (⟨"RaftForestModel", "digits", "(I)I"⟩, 80) := ⟨⟨by decide +kernel, by decide +kernel⟩, List.mem_of_getElem? (i := 1131) (by decide +kernel), List.mem_of_getElem? (i := 1442) (by decide +kernel), List.mem_of_getElem? (i := 1443) (by decide +kernel)⟩
theorem lw_p39 : lw_okq (⟨"RaftForestModel", "isDigit", "()Z"⟩, 80) := ⟨⟨by decide +kernel, by decide +kernel⟩, List.mem_of_getElem? (i := 1131) (by decide +kernel), List.mem_of_getElem? (i := 1446) (by decide +kernel), List.mem_of_getElem? (i := 1447) (by decide +kernel)⟩
theorem lw_p40 : lw_okq (⟨"RaftForestModel", "readsLog", "()V"⟩, 80) := ⟨⟨by decide +kernel, by decide +kernel⟩, List.mem_of_getElem? (i := 1131) (by decide +kernel), List.mem_of_getElem? (i := 1455) (by decide +kernel), List.mem_of_getElem? (i := 1456) (by decide +kernel)⟩
theorem lw_p41 : lw_okq (⟨"RaftForestModel", "goesOn", "()Z"⟩, 80) := ⟨⟨by decide +kernel, by decide +kernel⟩, List.mem_of_getElem? (i := 1131) (by decide +kernel), List.mem_of_getElem? (i := 1459) (by decide +kernel), List.mem_of_getElem? (i := 1460) (by decide +kernel)⟩
theorem lw_p42 : lw_okq (⟨"RaftForestModel", "begins", "()V"⟩, 80) := ⟨⟨by decide +kernel, by decide +kernel⟩, List.mem_of_getElem? (i := 1131) (by decide +kernel), List.mem_of_getElem? (i := 1463) (by decide +kernel), List.mem_of_getElem? (i := 1464) (by decide +kernel)⟩
theorem lw_p43 : lw_okq (⟨"RaftForestModel", "ruleClause", "(I)V"⟩, 80) := ⟨⟨by decide +kernel, by decide +kernel⟩, List.mem_of_getElem? (i := 1131) (by decide +kernel), List.mem_of_getElem? (i := 1474) (by decide +kernel), List.mem_of_getElem? (i := 1475) (by decide +kernel)⟩
theorem lw_p44 : lw_okq (⟨"RaftForestModel", "sum", "()V"⟩, 80) := ⟨⟨by decide +kernel, by decide +kernel⟩, List.mem_of_getElem? (i := 1131) (by decide +kernel), List.mem_of_getElem? (i := 1486) (by decide +kernel), List.mem_of_getElem? (i := 1487) (by decide +kernel)⟩
theorem lw_p45 : lw_okq (⟨"RaftForestModel", "term", "()V"⟩, 80) := ⟨⟨by decide +kernel, by decide +kernel⟩, List.mem_of_getElem? (i := 1131) (by decide +kernel), List.mem_of_getElem? (i := 1490) (by decide +kernel), List.mem_of_getElem? (i := 1491) (by decide +kernel)⟩
theorem lw_p46 : lw_okq (⟨"RaftForestModel", "value", "()V"⟩, 80) := ⟨⟨by decide +kernel, by decide +kernel⟩, List.mem_of_getElem? (i := 1131) (by decide +kernel), List.mem_of_getElem? (i := 1494) (by decide +kernel), List.mem_of_getElem? (i := 1495) (by decide +kernel)⟩
theorem lw_p47 : lw_okq (⟨"RaftForestModel", "isCounted", "(I)V"⟩, 80) := ⟨⟨by decide +kernel, by decide +kernel⟩, List.mem_of_getElem? (i := 1131) (by decide +kernel), List.mem_of_getElem? (i := 1498) (by decide +kernel), List.mem_of_getElem? (i := 1499) (by decide +kernel)⟩
def lw_privs_3 : List (MethodName × Nat) := [(⟨"RaftForestModel", "sign", "()I"⟩, 80), (⟨"RaftForestModel", "stood", "(Ljava/lang/String;)Z"⟩, 80), (⟨"RaftForestModel", "fails", "(II)V"⟩, 80), (⟨"RaftForestModel", "isFull", "(II)Z"⟩, 80), (⟨"RaftForestModel", "riverPart", "(I)V"⟩, 80), (⟨"RaftForestModel", "amount", "(II)I"⟩, 80), (⟨"RaftForestModel", "digits", "(I)I"⟩, 80), (⟨"RaftForestModel", "isDigit", "()Z"⟩, 80), (⟨"RaftForestModel", "readsLog", "()V"⟩, 80), (⟨"RaftForestModel", "goesOn", "()Z"⟩, 80), (⟨"RaftForestModel", "begins", "()V"⟩, 80), (⟨"RaftForestModel", "ruleClause", "(I)V"⟩, 80), (⟨"RaftForestModel", "sum", "()V"⟩, 80), (⟨"RaftForestModel", "term", "()V"⟩, 80), (⟨"RaftForestModel", "value", "()V"⟩, 80), (⟨"RaftForestModel", "isCounted", "(I)V"⟩, 80)]
theorem lw_r3 : ∀ q ∈ lw_privs_3, lw_okq q := List.forall_mem_cons.mpr ⟨lw_p32, List.forall_mem_cons.mpr ⟨lw_p33, List.forall_mem_cons.mpr ⟨lw_p34, List.forall_mem_cons.mpr ⟨lw_p35, List.forall_mem_cons.mpr ⟨lw_p36, List.forall_mem_cons.mpr ⟨lw_p37, List.forall_mem_cons.mpr ⟨lw_p38, List.forall_mem_cons.mpr ⟨lw_p39, List.forall_mem_cons.mpr ⟨lw_p40, List.forall_mem_cons.mpr ⟨lw_p41, List.forall_mem_cons.mpr ⟨lw_p42, List.forall_mem_cons.mpr ⟨lw_p43, List.forall_mem_cons.mpr ⟨lw_p44, List.forall_mem_cons.mpr ⟨lw_p45, List.forall_mem_cons.mpr ⟨lw_p46, List.forall_mem_cons.mpr ⟨lw_p47, fun _ h => absurd h List.not_mem_nil⟩⟩⟩⟩⟩⟩⟩⟩⟩⟩⟩⟩⟩⟩⟩⟩
theorem lw_p48 : lw_okq (⟨"RaftForestModel", "entry", "(II)V"⟩, 80) := ⟨⟨by decide +kernel, by decide +kernel⟩, List.mem_of_getElem? (i := 1131) (by decide +kernel), List.mem_of_getElem? (i := 1502) (by decide +kernel), List.mem_of_getElem? (i := 1503) (by decide +kernel)⟩
theorem lw_p49 : lw_okq (⟨"RaftForestModel", "takes", "(Ljava/lang/String;)Z"⟩, 80) := ⟨⟨by decide +kernel, by decide +kernel⟩, List.mem_of_getElem? (i := 1131) (by decide +kernel), List.mem_of_getElem? (i := 1520) (by decide +kernel), List.mem_of_getElem? (i := 1521) (by decide +kernel)⟩
theorem lw_p50 : lw_okq (⟨"RaftForestModel", "test", "()V"⟩, 80) := ⟨⟨by decide +kernel, by decide +kernel⟩, List.mem_of_getElem? (i := 1131) (by decide +kernel), List.mem_of_getElem? (i := 1524) (by decide +kernel), List.mem_of_getElem? (i := 1525) (by decide +kernel)⟩
theorem lw_p51 : lw_okq (⟨"RaftForestModel", "fact", "()Z"⟩, 80) := ⟨⟨by decide +kernel, by decide +kernel⟩, List.mem_of_getElem? (i := 1131) (by decide +kernel), List.mem_of_getElem? (i := 1528) (by decide +kernel), List.mem_of_getElem? (i := 1529) (by decide +kernel)⟩
theorem lw_p52 : lw_okq (⟨"RaftForestModel", "opens", "(I)V"⟩, 80) := ⟨⟨by decide +kernel, by decide +kernel⟩, List.mem_of_getElem? (i := 1131) (by decide +kernel), List.mem_of_getElem? (i := 1533) (by decide +kernel), List.mem_of_getElem? (i := 1534) (by decide +kernel)⟩
theorem lw_p53 : lw_okq (⟨"RaftForestModel", "compared", "()V"⟩, 80) := ⟨⟨by decide +kernel, by decide +kernel⟩, List.mem_of_getElem? (i := 1131) (by decide +kernel), List.mem_of_getElem? (i := 1537) (by decide +kernel), List.mem_of_getElem? (i := 1538) (by decide +kernel)⟩
theorem lw_p54 : lw_okq (⟨"RaftForestModel", "answers", "(I)V"⟩, 80) := ⟨⟨by decide +kernel, by decide +kernel⟩, List.mem_of_getElem? (i := 1131) (by decide +kernel), List.mem_of_getElem? (i := 1541) (by decide +kernel), List.mem_of_getElem? (i := 1542) (by decide +kernel)⟩
theorem lw_p55 : lw_okq (⟨"RaftForestModel", "top", "()I"⟩, 80) := ⟨⟨by decide +kernel, by decide +kernel⟩, List.mem_of_getElem? (i := 1131) (by decide +kernel), List.mem_of_getElem? (i := 1545) (by decide +kernel), List.mem_of_getElem? (i := 1546) (by decide +kernel)⟩
theorem lw_p56 : lw_okq (⟨"RaftForestModel", "isRiver", "()Z"⟩, 80) := ⟨⟨by decide +kernel, by decide +kernel⟩, List.mem_of_getElem? (i := 1131) (by decide +kernel), List.mem_of_getElem? (i := 1555) (by decide +kernel), List.mem_of_getElem? (i := 1556) (by decide +kernel)⟩
theorem lw_p57 : lw_okq (⟨"RaftForestModel", "isRuleOrNone", "(I)Z"⟩, 80) := ⟨⟨by decide +kernel, by decide +kernel⟩, List.mem_of_getElem? (i := 1131) (by decide +kernel), List.mem_of_getElem? (i := 1559) (by decide +kernel), List.mem_of_getElem? (i := 1560) (by decide +kernel)⟩
theorem lw_p58 : lw_okq (⟨"RaftForestModel", "isVillage", "(I)Z"⟩, 80) := ⟨⟨by decide +kernel, by decide +kernel⟩, List.mem_of_getElem? (i := 1131) (by decide +kernel), List.mem_of_getElem? (i := 1568) (by decide +kernel), List.mem_of_getElem? (i := 1569) (by decide +kernel)⟩
theorem lw_p59 : lw_okq (⟨"RaftForestModel", "isBend", "(I)Z"⟩, 80) := ⟨⟨by decide +kernel, by decide +kernel⟩, List.mem_of_getElem? (i := 1131) (by decide +kernel), List.mem_of_getElem? (i := 1581) (by decide +kernel), List.mem_of_getElem? (i := 1582) (by decide +kernel)⟩
theorem lw_p60 : lw_okq (⟨"RaftForestModel", "logsAt", "(I)I"⟩, 80) := ⟨⟨by decide +kernel, by decide +kernel⟩, List.mem_of_getElem? (i := 1131) (by decide +kernel), List.mem_of_getElem? (i := 1585) (by decide +kernel), List.mem_of_getElem? (i := 1586) (by decide +kernel)⟩
theorem lw_p61 : lw_okq (⟨"RaftForestModel", "roomAt", "(I)I"⟩, 80) := ⟨⟨by decide +kernel, by decide +kernel⟩, List.mem_of_getElem? (i := 1131) (by decide +kernel), List.mem_of_getElem? (i := 1589) (by decide +kernel), List.mem_of_getElem? (i := 1590) (by decide +kernel)⟩
theorem lw_p62 : lw_okq (⟨"RaftForestModel", "ownedBy", "(I)I"⟩, 80) := ⟨⟨by decide +kernel, by decide +kernel⟩, List.mem_of_getElem? (i := 1131) (by decide +kernel), List.mem_of_getElem? (i := 1601) (by decide +kernel), List.mem_of_getElem? (i := 1602) (by decide +kernel)⟩
theorem lw_p63 : lw_okq (⟨"RaftForestModel", "isThere", "(I)Z"⟩, 80) := ⟨⟨by decide +kernel, by decide +kernel⟩, List.mem_of_getElem? (i := 1131) (by decide +kernel), List.mem_of_getElem? (i := 1605) (by decide +kernel), List.mem_of_getElem? (i := 1606) (by decide +kernel)⟩
def lw_privs_4 : List (MethodName × Nat) := [(⟨"RaftForestModel", "entry", "(II)V"⟩, 80), (⟨"RaftForestModel", "takes", "(Ljava/lang/String;)Z"⟩, 80), (⟨"RaftForestModel", "test", "()V"⟩, 80), (⟨"RaftForestModel", "fact", "()Z"⟩, 80), (⟨"RaftForestModel", "opens", "(I)V"⟩, 80), (⟨"RaftForestModel", "compared", "()V"⟩, 80), (⟨"RaftForestModel", "answers", "(I)V"⟩, 80), (⟨"RaftForestModel", "top", "()I"⟩, 80), (⟨"RaftForestModel", "isRiver", "()Z"⟩, 80), (⟨"RaftForestModel", "isRuleOrNone", "(I)Z"⟩, 80), (⟨"RaftForestModel", "isVillage", "(I)Z"⟩, 80), (⟨"RaftForestModel", "isBend", "(I)Z"⟩, 80), (⟨"RaftForestModel", "logsAt", "(I)I"⟩, 80), (⟨"RaftForestModel", "roomAt", "(I)I"⟩, 80), (⟨"RaftForestModel", "ownedBy", "(I)I"⟩, 80), (⟨"RaftForestModel", "isThere", "(I)Z"⟩, 80)]
theorem lw_r4 : ∀ q ∈ lw_privs_4, lw_okq q := List.forall_mem_cons.mpr ⟨lw_p48, List.forall_mem_cons.mpr ⟨lw_p49, List.forall_mem_cons.mpr ⟨lw_p50, List.forall_mem_cons.mpr ⟨lw_p51, List.forall_mem_cons.mpr ⟨lw_p52, List.forall_mem_cons.mpr ⟨lw_p53, List.forall_mem_cons.mpr ⟨lw_p54, List.forall_mem_cons.mpr ⟨lw_p55, List.forall_mem_cons.mpr ⟨lw_p56, List.forall_mem_cons.mpr ⟨lw_p57, List.forall_mem_cons.mpr ⟨lw_p58, List.forall_mem_cons.mpr ⟨lw_p59, List.forall_mem_cons.mpr ⟨lw_p60, List.forall_mem_cons.mpr ⟨lw_p61, List.forall_mem_cons.mpr ⟨lw_p62, List.forall_mem_cons.mpr ⟨lw_p63, fun _ h => absurd h List.not_mem_nil⟩⟩⟩⟩⟩⟩⟩⟩⟩⟩⟩⟩⟩⟩⟩⟩
theorem lw_p64 : lw_okq (⟨"RaftForestModel", "ownerOf", "(I)I"⟩, 80) := ⟨⟨by decide +kernel, by decide +kernel⟩, List.mem_of_getElem? (i := 1131) (by decide +kernel), List.mem_of_getElem? (i := 1609) (by decide +kernel), List.mem_of_getElem? (i := 1610) (by decide +kernel)⟩
theorem lw_p65 : lw_okq (⟨"RaftForestModel", "firstOf", "(I)I"⟩, 80) := ⟨⟨by decide +kernel, by decide +kernel⟩, List.mem_of_getElem? (i := 1131) (by decide +kernel), List.mem_of_getElem? (i := 1613) (by decide +kernel), List.mem_of_getElem? (i := 1614) (by decide +kernel)⟩
theorem lw_p66 : lw_okq (⟨"RaftForestModel", "lastOf", "(I)I"⟩, 80) := ⟨⟨by decide +kernel, by decide +kernel⟩, List.mem_of_getElem? (i := 1131) (by decide +kernel), List.mem_of_getElem? (i := 1617) (by decide +kernel), List.mem_of_getElem? (i := 1618) (by decide +kernel)⟩
theorem lw_p67 : lw_okq (⟨"RaftForestModel", "byMost", "(I)I"⟩, 80) := ⟨⟨by decide +kernel, by decide +kernel⟩, List.mem_of_getElem? (i := 1131) (by decide +kernel), List.mem_of_getElem? (i := 1621) (by decide +kernel), List.mem_of_getElem? (i := 1622) (by decide +kernel)⟩
theorem lw_p68 : lw_okq (⟨"RaftForestModel", "notchesOf", "(II)I"⟩, 80) := ⟨⟨by decide +kernel, by decide +kernel⟩, List.mem_of_getElem? (i := 1131) (by decide +kernel), List.mem_of_getElem? (i := 1625) (by decide +kernel), List.mem_of_getElem? (i := 1626) (by decide +kernel)⟩
theorem lw_p69 : lw_okq (⟨"RaftForestModel", "byRule", "(I)I"⟩, 80) := ⟨⟨by decide +kernel, by decide +kernel⟩, List.mem_of_getElem? (i := 1131) (by decide +kernel), List.mem_of_getElem? (i := 1629) (by decide +kernel), List.mem_of_getElem? (i := 1630) (by decide +kernel)⟩
theorem lw_p70 : lw_okq (⟨"RaftForestModel", "asks", "(IIII)V"⟩, 80) := ⟨⟨by decide +kernel, by decide +kernel⟩, List.mem_of_getElem? (i := 1131) (by decide +kernel), List.mem_of_getElem? (i := 1633) (by decide +kernel), List.mem_of_getElem? (i := 1634) (by decide +kernel)⟩
theorem lw_p71 : lw_okq (⟨"RaftForestModel", "bendOf", "(I)I"⟩, 80) := ⟨⟨by decide +kernel, by decide +kernel⟩, List.mem_of_getElem? (i := 1131) (by decide +kernel), List.mem_of_getElem? (i := 1637) (by decide +kernel), List.mem_of_getElem? (i := 1638) (by decide +kernel)⟩
theorem lw_p72 : lw_okq (⟨"RaftForestModel", "isInWater", "(I)Z"⟩, 80) := ⟨⟨by decide +kernel, by decide +kernel⟩, List.mem_of_getElem? (i := 1131) (by decide +kernel), List.mem_of_getElem? (i := 1641) (by decide +kernel), List.mem_of_getElem? (i := 1642) (by decide +kernel)⟩
theorem lw_p73 : lw_okq (⟨"RaftForestModel", "isAshore", "(I)Z"⟩, 80) := ⟨⟨by decide +kernel, by decide +kernel⟩, List.mem_of_getElem? (i := 1131) (by decide +kernel), List.mem_of_getElem? (i := 1645) (by decide +kernel), List.mem_of_getElem? (i := 1646) (by decide +kernel)⟩
theorem lw_p74 : lw_okq (⟨"RaftForestModel", "firstClause", "(II)I"⟩, 80) := ⟨⟨by decide +kernel, by decide +kernel⟩, List.mem_of_getElem? (i := 1131) (by decide +kernel), List.mem_of_getElem? (i := 1654) (by decide +kernel), List.mem_of_getElem? (i := 1655) (by decide +kernel)⟩
theorem lw_p75 : lw_okq (⟨"RaftForestModel", "holds", "(II)Z"⟩, 80) := ⟨⟨by decide +kernel, by decide +kernel⟩, List.mem_of_getElem? (i := 1131) (by decide +kernel), List.mem_of_getElem? (i := 1658) (by decide +kernel), List.mem_of_getElem? (i := 1659) (by decide +kernel)⟩
theorem lw_p76 : lw_okq (⟨"RaftForestModel", "answer", "(III)J"⟩, 80) := ⟨⟨by decide +kernel, by decide +kernel⟩, List.mem_of_getElem? (i := 1131) (by decide +kernel), List.mem_of_getElem? (i := 1662) (by decide +kernel), List.mem_of_getElem? (i := 1663) (by decide +kernel)⟩
theorem lw_p77 : lw_okq (⟨"RaftForestModel", "netOf", "(I)I"⟩, 80) := ⟨⟨by decide +kernel, by decide +kernel⟩, List.mem_of_getElem? (i := 1131) (by decide +kernel), List.mem_of_getElem? (i := 1672) (by decide +kernel), List.mem_of_getElem? (i := 1673) (by decide +kernel)⟩
theorem lw_p78 : lw_okq (⟨"RaftForestModel", "isLog", "(I)Z"⟩, 80) := ⟨⟨by decide +kernel, by decide +kernel⟩, List.mem_of_getElem? (i := 1131) (by decide +kernel), List.mem_of_getElem? (i := 1680) (by decide +kernel), List.mem_of_getElem? (i := 1681) (by decide +kernel)⟩
theorem lw_p79 : lw_okq (⟨"RaftForestModel", "priceOf", "(I)I"⟩, 80) := ⟨⟨by decide +kernel, by decide +kernel⟩, List.mem_of_getElem? (i := 1131) (by decide +kernel), List.mem_of_getElem? (i := 1684) (by decide +kernel), List.mem_of_getElem? (i := 1685) (by decide +kernel)⟩
def lw_privs_5 : List (MethodName × Nat) := [(⟨"RaftForestModel", "ownerOf", "(I)I"⟩, 80), (⟨"RaftForestModel", "firstOf", "(I)I"⟩, 80), (⟨"RaftForestModel", "lastOf", "(I)I"⟩, 80), (⟨"RaftForestModel", "byMost", "(I)I"⟩, 80), (⟨"RaftForestModel", "notchesOf", "(II)I"⟩, 80), (⟨"RaftForestModel", "byRule", "(I)I"⟩, 80), (⟨"RaftForestModel", "asks", "(IIII)V"⟩, 80), (⟨"RaftForestModel", "bendOf", "(I)I"⟩, 80), (⟨"RaftForestModel", "isInWater", "(I)Z"⟩, 80), (⟨"RaftForestModel", "isAshore", "(I)Z"⟩, 80), (⟨"RaftForestModel", "firstClause", "(II)I"⟩, 80), (⟨"RaftForestModel", "holds", "(II)Z"⟩, 80), (⟨"RaftForestModel", "answer", "(III)J"⟩, 80), (⟨"RaftForestModel", "netOf", "(I)I"⟩, 80), (⟨"RaftForestModel", "isLog", "(I)Z"⟩, 80), (⟨"RaftForestModel", "priceOf", "(I)I"⟩, 80)]
theorem lw_r5 : ∀ q ∈ lw_privs_5, lw_okq q := List.forall_mem_cons.mpr ⟨lw_p64, List.forall_mem_cons.mpr ⟨lw_p65, List.forall_mem_cons.mpr ⟨lw_p66, List.forall_mem_cons.mpr ⟨lw_p67, List.forall_mem_cons.mpr ⟨lw_p68, List.forall_mem_cons.mpr ⟨lw_p69, List.forall_mem_cons.mpr ⟨lw_p70, List.forall_mem_cons.mpr ⟨lw_p71, List.forall_mem_cons.mpr ⟨lw_p72, List.forall_mem_cons.mpr ⟨lw_p73, List.forall_mem_cons.mpr ⟨lw_p74, List.forall_mem_cons.mpr ⟨lw_p75, List.forall_mem_cons.mpr ⟨lw_p76, List.forall_mem_cons.mpr ⟨lw_p77, List.forall_mem_cons.mpr ⟨lw_p78, List.forall_mem_cons.mpr ⟨lw_p79, fun _ h => absurd h List.not_mem_nil⟩⟩⟩⟩⟩⟩⟩⟩⟩⟩⟩⟩⟩⟩⟩⟩
theorem lw_p80 : lw_okq (⟨"RaftForestModel", "placeInOrder", "(I)I"⟩, 80) := ⟨⟨by decide +kernel, by decide +kernel⟩, List.mem_of_getElem? (i := 1131) (by decide +kernel), List.mem_of_getElem? (i := 1688) (by decide +kernel), List.mem_of_getElem? (i := 1689) (by decide +kernel)⟩
theorem lw_p81 : lw_okq (⟨"RaftForestModel", "mayCut", "(II)Z"⟩, 80) := ⟨⟨by decide +kernel, by decide +kernel⟩, List.mem_of_getElem? (i := 1131) (by decide +kernel), List.mem_of_getElem? (i := 1700) (by decide +kernel), List.mem_of_getElem? (i := 1701) (by decide +kernel)⟩
theorem lw_p82 : lw_okq (⟨"RaftForestModel", "keepsCut", "(IIII)V"⟩, 80) := ⟨⟨by decide +kernel, by decide +kernel⟩, List.mem_of_getElem? (i := 1131) (by decide +kernel), List.mem_of_getElem? (i := 1704) (by decide +kernel), List.mem_of_getElem? (i := 1705) (by decide +kernel)⟩
theorem lw_p83 : lw_okq (⟨"RaftForestModel", "owes1", "(III)V"⟩, 80) := ⟨⟨by decide +kernel, by decide +kernel⟩, List.mem_of_getElem? (i := 1131) (by decide +kernel), List.mem_of_getElem? (i := 1728) (by decide +kernel), List.mem_of_getElem? (i := 1729) (by decide +kernel)⟩
theorem lw_p84 : lw_okq (⟨"RaftForestModel", "votesOf", "(IZ)I"⟩, 80) := ⟨⟨by decide +kernel, by decide +kernel⟩, List.mem_of_getElem? (i := 1131) (by decide +kernel), List.mem_of_getElem? (i := 1748) (by decide +kernel), List.mem_of_getElem? (i := 1749) (by decide +kernel)⟩
theorem lw_p85 : lw_okq (⟨"RaftForestModel", "floods", "(I)V"⟩, 80) := ⟨⟨by decide +kernel, by decide +kernel⟩, List.mem_of_getElem? (i := 1131) (by decide +kernel), List.mem_of_getElem? (i := 1761) (by decide +kernel), List.mem_of_getElem? (i := 1762) (by decide +kernel)⟩
theorem lw_p86 : lw_okq (⟨"RaftForestModel", "elects", "()V"⟩, 80) := ⟨⟨by decide +kernel, by decide +kernel⟩, List.mem_of_getElem? (i := 1131) (by decide +kernel), List.mem_of_getElem? (i := 1765) (by decide +kernel), List.mem_of_getElem? (i := 1766) (by decide +kernel)⟩
theorem lw_p87 : lw_okq (⟨"RaftForestModel", "roomAhead", "(I)I"⟩, 80) := ⟨⟨by decide +kernel, by decide +kernel⟩, List.mem_of_getElem? (i := 1131) (by decide +kernel), List.mem_of_getElem? (i := 1769) (by decide +kernel), List.mem_of_getElem? (i := 1770) (by decide +kernel)⟩
theorem lw_p88 : lw_okq (⟨"RaftForestModel", "keeps", "()V"⟩, 80) := ⟨⟨by decide +kernel, by decide +kernel⟩, List.mem_of_getElem? (i := 1131) (by decide +kernel), List.mem_of_getElem? (i := 1777) (by decide +kernel), List.mem_of_getElem? (i := 1778) (by decide +kernel)⟩
theorem lw_p89 : lw_okq (⟨"RaftForestModel", "carriesAll", "(IZ)V"⟩, 80) := ⟨⟨by decide +kernel, by decide +kernel⟩, List.mem_of_getElem? (i := 1131) (by decide +kernel), List.mem_of_getElem? (i := 1781) (by decide +kernel), List.mem_of_getElem? (i := 1782) (by decide +kernel)⟩
theorem lw_p90 : lw_okq (⟨"RaftForestModel", "carry", "([I)V"⟩, 80) := ⟨⟨by decide +kernel, by decide +kernel⟩, List.mem_of_getElem? (i := 1131) (by decide +kernel), List.mem_of_getElem? (i := 1785) (by decide +kernel), List.mem_of_getElem? (i := 1786) (by decide +kernel)⟩
theorem lw_p91 : lw_okq (⟨"RaftForestModel", "laysBack", "()V"⟩, 80) := ⟨⟨by decide +kernel, by decide +kernel⟩, List.mem_of_getElem? (i := 1131) (by decide +kernel), List.mem_of_getElem? (i := 1789) (by decide +kernel), List.mem_of_getElem? (i := 1790) (by decide +kernel)⟩
theorem lw_p92 : lw_okq (⟨"RaftForestModel", "day", "()V"⟩, 80) := ⟨⟨by decide +kernel, by decide +kernel⟩, List.mem_of_getElem? (i := 1131) (by decide +kernel), List.mem_of_getElem? (i := 1807) (by decide +kernel), List.mem_of_getElem? (i := 1808) (by decide +kernel)⟩
theorem lw_p93 : lw_okq (⟨"RaftForestModel", "goesAll", "()V"⟩, 80) := ⟨⟨by decide +kernel, by decide +kernel⟩, List.mem_of_getElem? (i := 1131) (by decide +kernel), List.mem_of_getElem? (i := 1811) (by decide +kernel), List.mem_of_getElem? (i := 1812) (by decide +kernel)⟩
theorem lw_p94 : lw_okq (⟨"RaftForestModel", "saysOf", "(IIIII)Z"⟩, 80) := ⟨⟨by decide +kernel, by decide +kernel⟩, List.mem_of_getElem? (i := 1131) (by decide +kernel), List.mem_of_getElem? (i := 1815) (by decide +kernel), List.mem_of_getElem? (i := 1816) (by decide +kernel)⟩
theorem lw_p95 : lw_okq (⟨"RaftForestModel", "jams1", "(I)V"⟩, 80) := ⟨⟨by decide +kernel, by decide +kernel⟩, List.mem_of_getElem? (i := 1131) (by decide +kernel), List.mem_of_getElem? (i := 1819) (by decide +kernel), List.mem_of_getElem? (i := 1820) (by decide +kernel)⟩
def lw_privs_6 : List (MethodName × Nat) := [(⟨"RaftForestModel", "placeInOrder", "(I)I"⟩, 80), (⟨"RaftForestModel", "mayCut", "(II)Z"⟩, 80), (⟨"RaftForestModel", "keepsCut", "(IIII)V"⟩, 80), (⟨"RaftForestModel", "owes1", "(III)V"⟩, 80), (⟨"RaftForestModel", "votesOf", "(IZ)I"⟩, 80), (⟨"RaftForestModel", "floods", "(I)V"⟩, 80), (⟨"RaftForestModel", "elects", "()V"⟩, 80), (⟨"RaftForestModel", "roomAhead", "(I)I"⟩, 80), (⟨"RaftForestModel", "keeps", "()V"⟩, 80), (⟨"RaftForestModel", "carriesAll", "(IZ)V"⟩, 80), (⟨"RaftForestModel", "carry", "([I)V"⟩, 80), (⟨"RaftForestModel", "laysBack", "()V"⟩, 80), (⟨"RaftForestModel", "day", "()V"⟩, 80), (⟨"RaftForestModel", "goesAll", "()V"⟩, 80), (⟨"RaftForestModel", "saysOf", "(IIIII)Z"⟩, 80), (⟨"RaftForestModel", "jams1", "(I)V"⟩, 80)]
theorem lw_r6 : ∀ q ∈ lw_privs_6, lw_okq q := List.forall_mem_cons.mpr ⟨lw_p80, List.forall_mem_cons.mpr ⟨lw_p81, List.forall_mem_cons.mpr ⟨lw_p82, List.forall_mem_cons.mpr ⟨lw_p83, List.forall_mem_cons.mpr ⟨lw_p84, List.forall_mem_cons.mpr ⟨lw_p85, List.forall_mem_cons.mpr ⟨lw_p86, List.forall_mem_cons.mpr ⟨lw_p87, List.forall_mem_cons.mpr ⟨lw_p88, List.forall_mem_cons.mpr ⟨lw_p89, List.forall_mem_cons.mpr ⟨lw_p90, List.forall_mem_cons.mpr ⟨lw_p91, List.forall_mem_cons.mpr ⟨lw_p92, List.forall_mem_cons.mpr ⟨lw_p93, List.forall_mem_cons.mpr ⟨lw_p94, List.forall_mem_cons.mpr ⟨lw_p95, fun _ h => absurd h List.not_mem_nil⟩⟩⟩⟩⟩⟩⟩⟩⟩⟩⟩⟩⟩⟩⟩⟩
theorem lw_p96 : lw_okq (⟨"RaftForestModel", "floats1", "(I)V"⟩, 80) := ⟨⟨by decide +kernel, by decide +kernel⟩, List.mem_of_getElem? (i := 1131) (by decide +kernel), List.mem_of_getElem? (i := 1823) (by decide +kernel), List.mem_of_getElem? (i := 1824) (by decide +kernel)⟩
theorem lw_p97 : lw_okq (⟨"RaftForestModel", "sells", "(I)V"⟩, 80) := ⟨⟨by decide +kernel, by decide +kernel⟩, List.mem_of_getElem? (i := 1131) (by decide +kernel), List.mem_of_getElem? (i := 1827) (by decide +kernel), List.mem_of_getElem? (i := 1828) (by decide +kernel)⟩
theorem lw_p98 : lw_okq (⟨"RaftForestModel", "ownerAtMouth", "(I)I"⟩, 80) := ⟨⟨by decide +kernel, by decide +kernel⟩, List.mem_of_getElem? (i := 1131) (by decide +kernel), List.mem_of_getElem? (i := 1831) (by decide +kernel), List.mem_of_getElem? (i := 1832) (by decide +kernel)⟩
theorem lw_p99 : lw_okq (⟨"RaftForestModel", "worksVillage", "(I)V"⟩, 80) := ⟨⟨by decide +kernel, by decide +kernel⟩, List.mem_of_getElem? (i := 1131) (by decide +kernel), List.mem_of_getElem? (i := 1835) (by decide +kernel), List.mem_of_getElem? (i := 1836) (by decide +kernel)⟩
theorem lw_p100 : lw_okq (⟨"RaftForestModel", "takes1", "(II)V"⟩, 80) := ⟨⟨by decide +kernel, by decide +kernel⟩, List.mem_of_getElem? (i := 1131) (by decide +kernel), List.mem_of_getElem? (i := 1839) (by decide +kernel), List.mem_of_getElem? (i := 1840) (by decide +kernel)⟩
theorem lw_p101 : lw_okq (⟨"RaftForestModel", "keepsPlaces", "()V"⟩, 80) := ⟨⟨by decide +kernel, by decide +kernel⟩, List.mem_of_getElem? (i := 1131) (by decide +kernel), List.mem_of_getElem? (i := 1843) (by decide +kernel), List.mem_of_getElem? (i := 1844) (by decide +kernel)⟩
theorem lw_p102 : lw_okq (⟨"RaftForestModel", "wouldBe", "(I)V"⟩, 80) := ⟨⟨by decide +kernel, by decide +kernel⟩, List.mem_of_getElem? (i := 1131) (by decide +kernel), List.mem_of_getElem? (i := 1852) (by decide +kernel), List.mem_of_getElem? (i := 1853) (by decide +kernel)⟩
theorem lw_p103 : lw_okq (⟨"RaftForestModel", "forgetsCounts", "()V"⟩, 80) := ⟨⟨by decide +kernel, by decide +kernel⟩, List.mem_of_getElem? (i := 1131) (by decide +kernel), List.mem_of_getElem? (i := 1856) (by decide +kernel), List.mem_of_getElem? (i := 1857) (by decide +kernel)⟩
theorem lw_p104 : lw_okq (⟨"RaftForestModel", "counted1", "(I)I"⟩, 80) := ⟨⟨by decide +kernel, by decide +kernel⟩, List.mem_of_getElem? (i := 1131) (by decide +kernel), List.mem_of_getElem? (i := 1860) (by decide +kernel), List.mem_of_getElem? (i := 1861) (by decide +kernel)⟩
theorem lw_p105 : lw_okq (⟨"RaftForestModel", "fillsFloating", "()V"⟩, 80) := ⟨⟨by decide +kernel, by decide +kernel⟩, List.mem_of_getElem? (i := 1131) (by decide +kernel), List.mem_of_getElem? (i := 1869) (by decide +kernel), List.mem_of_getElem? (i := 1870) (by decide +kernel)⟩
theorem lw_p106 : lw_okq (⟨"RaftForestModel", "findsAhead", "(I)V"⟩, 80) := ⟨⟨by decide +kernel, by decide +kernel⟩, List.mem_of_getElem? (i := 1131) (by decide +kernel), List.mem_of_getElem? (i := 1873) (by decide +kernel), List.mem_of_getElem? (i := 1874) (by decide +kernel)⟩
theorem lw_p107 : lw_okq (⟨"RaftForestModel", "laysRow", "(I)Z"⟩, 80) := ⟨⟨by decide +kernel, by decide +kernel⟩, List.mem_of_getElem? (i := 1131) (by decide +kernel), List.mem_of_getElem? (i := 1877) (by decide +kernel), List.mem_of_getElem? (i := 1878) (by decide +kernel)⟩
theorem lw_p108 : lw_okq (⟨"RaftForestModel", "stepOfKin", "(I)I"⟩, 80) := ⟨⟨by decide +kernel, by decide +kernel⟩, List.mem_of_getElem? (i := 1131) (by decide +kernel), List.mem_of_getElem? (i := 1885) (by decide +kernel), List.mem_of_getElem? (i := 1886) (by decide +kernel)⟩
theorem lw_p109 : lw_okq (⟨"RaftForestModel", "wereAtIn", "(III)I"⟩, 80) := ⟨⟨by decide +kernel, by decide +kernel⟩, List.mem_of_getElem? (i := 1131) (by decide +kernel), List.mem_of_getElem? (i := 1901) (by decide +kernel), List.mem_of_getElem? (i := 1902) (by decide +kernel)⟩
theorem lw_p110 : lw_okq (⟨"RaftForestModel", "atAgo", "(II)I"⟩, 80) := ⟨⟨by decide +kernel, by decide +kernel⟩, List.mem_of_getElem? (i := 1131) (by decide +kernel), List.mem_of_getElem? (i := 1905) (by decide +kernel), List.mem_of_getElem? (i := 1906) (by decide +kernel)⟩
theorem lw_p111 : lw_okq (⟨"RaftForestModel", "whoCould", "(III)I"⟩, 80) := ⟨⟨by decide +kernel, by decide +kernel⟩, List.mem_of_getElem? (i := 1131) (by decide +kernel), List.mem_of_getElem? (i := 1924) (by decide +kernel), List.mem_of_getElem? (i := 1925) (by decide +kernel)⟩
def lw_privs_7 : List (MethodName × Nat) := [(⟨"RaftForestModel", "floats1", "(I)V"⟩, 80), (⟨"RaftForestModel", "sells", "(I)V"⟩, 80), (⟨"RaftForestModel", "ownerAtMouth", "(I)I"⟩, 80), (⟨"RaftForestModel", "worksVillage", "(I)V"⟩, 80), (⟨"RaftForestModel", "takes1", "(II)V"⟩, 80), (⟨"RaftForestModel", "keepsPlaces", "()V"⟩, 80), (⟨"RaftForestModel", "wouldBe", "(I)V"⟩, 80), (⟨"RaftForestModel", "forgetsCounts", "()V"⟩, 80), (⟨"RaftForestModel", "counted1", "(I)I"⟩, 80), (⟨"RaftForestModel", "fillsFloating", "()V"⟩, 80), (⟨"RaftForestModel", "findsAhead", "(I)V"⟩, 80), (⟨"RaftForestModel", "laysRow", "(I)Z"⟩, 80), (⟨"RaftForestModel", "stepOfKin", "(I)I"⟩, 80), (⟨"RaftForestModel", "wereAtIn", "(III)I"⟩, 80), (⟨"RaftForestModel", "atAgo", "(II)I"⟩, 80), (⟨"RaftForestModel", "whoCould", "(III)I"⟩, 80)]
theorem lw_r7 : ∀ q ∈ lw_privs_7, lw_okq q := List.forall_mem_cons.mpr ⟨lw_p96, List.forall_mem_cons.mpr ⟨lw_p97, List.forall_mem_cons.mpr ⟨lw_p98, List.forall_mem_cons.mpr ⟨lw_p99, List.forall_mem_cons.mpr ⟨lw_p100, List.forall_mem_cons.mpr ⟨lw_p101, List.forall_mem_cons.mpr ⟨lw_p102, List.forall_mem_cons.mpr ⟨lw_p103, List.forall_mem_cons.mpr ⟨lw_p104, List.forall_mem_cons.mpr ⟨lw_p105, List.forall_mem_cons.mpr ⟨lw_p106, List.forall_mem_cons.mpr ⟨lw_p107, List.forall_mem_cons.mpr ⟨lw_p108, List.forall_mem_cons.mpr ⟨lw_p109, List.forall_mem_cons.mpr ⟨lw_p110, List.forall_mem_cons.mpr ⟨lw_p111, fun _ h => absurd h List.not_mem_nil⟩⟩⟩⟩⟩⟩⟩⟩⟩⟩⟩⟩⟩⟩⟩⟩
theorem lw_p112 : lw_okq (⟨"RaftForestModel", "draws", "(I)I"⟩, 80) := ⟨⟨by decide +kernel, by decide +kernel⟩, List.mem_of_getElem? (i := 1131) (by decide +kernel), List.mem_of_getElem? (i := 1951) (by decide +kernel), List.mem_of_getElem? (i := 1952) (by decide +kernel)⟩
theorem lw_p113 : lw_okq (⟨"RaftForestModel", "countOf", "(II)I"⟩, 80) := ⟨⟨by decide +kernel, by decide +kernel⟩, List.mem_of_getElem? (i := 1131) (by decide +kernel), List.mem_of_getElem? (i := 1963) (by decide +kernel), List.mem_of_getElem? (i := 1964) (by decide +kernel)⟩
def lw_privs_8 : List (MethodName × Nat) := [(⟨"RaftForestModel", "draws", "(I)I"⟩, 80), (⟨"RaftForestModel", "countOf", "(II)I"⟩, 80)]
theorem lw_r8 : ∀ q ∈ lw_privs_8, lw_okq q := List.forall_mem_cons.mpr ⟨lw_p112, List.forall_mem_cons.mpr ⟨lw_p113, fun _ h => absurd h List.not_mem_nil⟩⟩
def lw_privs : List (MethodName × Nat) := lw_privs_1 ++ (lw_privs_2 ++ (lw_privs_3 ++ (lw_privs_4 ++ (lw_privs_5 ++ (lw_privs_6 ++ (lw_privs_7 ++ (lw_privs_8)))))))
def lw_tbl : List Cond := k2_sels lw_privs ++ tables_1
theorem lw_privs_ok : ∀ q ∈ lw_privs, lw_okq q := by
  show ∀ q ∈ lw_privs_1 ++ (lw_privs_2 ++ (lw_privs_3 ++ (lw_privs_4 ++ (lw_privs_5 ++ (lw_privs_6 ++ (lw_privs_7 ++ (lw_privs_8))))))), lw_okq q
  exact List.forall_mem_append.mpr ⟨lw_r1, List.forall_mem_append.mpr ⟨lw_r2, List.forall_mem_append.mpr ⟨lw_r3, List.forall_mem_append.mpr ⟨lw_r4, List.forall_mem_append.mpr ⟨lw_r5, List.forall_mem_append.mpr ⟨lw_r6, List.forall_mem_append.mpr ⟨lw_r7, lw_r8⟩⟩⟩⟩⟩⟩⟩

def RX0 : String := "RaftForest$Books"

def TX0 : u_T := fun k => match k with
  | 0 => ("RaftForest$Books", "seed", "I", false)
  | 1 => ("RaftForest$Books", "sea", "I", false)
  | 2 => ("RaftForest$Books", "coins", "[I", true)
  | 3 => ("RaftForest$Books", "debts", "[I", true)
  | 4 => ("RaftForest$Books", "weddings", "I", false)
  | 5 => ("RaftForest$Books", "beams", "[I", true)
  | 6 => ("RaftForest$Books", "sights", "I", false)
  | 7 => ("RaftForest$Books", "sightLogs", "[I", true)
  | 8 => ("RaftForest$Books", "sightPlaces", "[I", true)
  | 9 => ("RaftForest$Books", "sightVillages", "[I", true)
  | 10 => ("RaftForest$Books", "sightDays", "[I", true)
  | 11 => ("RaftForest$Books", "cutCount", "I", false)
  | 12 => ("RaftForest$Books", "cutLogs", "[I", true)
  | 13 => ("RaftForest$Books", "cutPlaces", "[I", true)
  | 14 => ("RaftForest$Books", "cutVillages", "[I", true)
  | 15 => ("RaftForest$Books", "cutBefore", "[I", true)
  | _ => ("RaftForest$Books", "keptPlaces", "[I", true)

def tyX0 : Nat → FieldType := fun k => match k with
  | 0 => .int
  | 1 => .int
  | 2 => .array .int
  | 3 => .array .int
  | 4 => .int
  | 5 => .array .int
  | 6 => .int
  | 7 => .array .int
  | 8 => .array .int
  | 9 => .array .int
  | 10 => .array .int
  | 11 => .int
  | 12 => .array .int
  | 13 => .array .int
  | 14 => .array .int
  | 15 => .array .int
  | _ => .array .int

abbrev wsX00 : List Cond := u_ws RX0 TX0 17

theorem nmX0 : ∀ a, a < 17 → ∀ b, b < 17 → a ≠ b → (TX0 a).2.1 ≠ (TX0 b).2.1 := by decide +kernel

theorem tyX0_ok : ∀ k, k < 17 → parseFieldDescriptor (TX0 k).2.2.1 = some (tyX0 k) := by decide +kernel

abbrev cX0_init : ByteArray := prog_2_method_1_code

def yX0_init : MethodName := ⟨RX0, "<init>", "()V"⟩

abbrev cX0_start : ByteArray := prog_2_method_2_code

def yX0_start : MethodName := ⟨RX0, "start", "()V"⟩

abbrev cX0_copy : ByteArray := prog_2_method_3_code

def yX0_copy : MethodName := ⟨RX0, "copy", "(LRaftForest$Books;)V"⟩

abbrev cX0_owe : ByteArray := prog_2_method_4_code

def yX0_owe : MethodName := ⟨RX0, "owe", "(III)V"⟩

abbrev cX0_net : ByteArray := prog_2_method_5_code

def yX0_net : MethodName := ⟨RX0, "net", "(I)I"⟩

abbrev cX0_writeOff : ByteArray := prog_2_method_6_code

def yX0_writeOff : MethodName := ⟨RX0, "writeOff", "(I)I"⟩

abbrev cX0_weddingsOf : ByteArray := prog_2_method_7_code

def yX0_weddingsOf : MethodName := ⟨RX0, "weddingsOf", "(I)I"⟩

abbrev cX0_kinOfAll : ByteArray := prog_2_method_8_code

def yX0_kinOfAll : MethodName := ⟨RX0, "kinOfAll", "(I)I"⟩

abbrev cX0_keepCut : ByteArray := prog_2_method_9_code

def yX0_keepCut : MethodName := ⟨RX0, "keepCut", "(IIII)V"⟩

abbrev cX0_dropFirst : ByteArray := prog_2_method_10_code

def yX0_dropFirst : MethodName := ⟨RX0, "dropFirst", "([I)V"⟩

abbrev cX0_keepSight : ByteArray := prog_2_method_11_code

def yX0_keepSight : MethodName := ⟨RX0, "keepSight", "(IIII)V"⟩

abbrev cX0_sightAhead : ByteArray := prog_2_method_12_code

def yX0_sightAhead : MethodName := ⟨RX0, "sightAhead", "(I)I"⟩

abbrev cX0_partedSight : ByteArray := prog_2_method_13_code

def yX0_partedSight : MethodName := ⟨RX0, "partedSight", "(II)I"⟩

abbrev cX0_keepPlaces : ByteArray := prog_2_method_14_code

def yX0_keepPlaces : MethodName := ⟨RX0, "keepPlaces", "(LRaftForest$State;)V"⟩

def RX1 : String := "RaftForest$Image"

def TX1 : u_T := fun k => match k with
  | 0 => ("RaftForest$Image", "made", "Z", false)
  | 1 => ("RaftForest$Image", "river", "LRaftForest$River;", true)
  | 2 => ("RaftForest$Image", "state", "LRaftForest$State;", true)
  | _ => ("RaftForest$Image", "books", "LRaftForest$Books;", true)

def tyX1 : Nat → FieldType := fun k => match k with
  | 0 => .boolean
  | 1 => .object "RaftForest$River"
  | 2 => .object "RaftForest$State"
  | _ => .object "RaftForest$Books"

abbrev wsX10 : List Cond := u_ws RX1 TX1 4

theorem nmX1 : ∀ a, a < 4 → ∀ b, b < 4 → a ≠ b → (TX1 a).2.1 ≠ (TX1 b).2.1 := by decide +kernel

theorem tyX1_ok : ∀ k, k < 4 → parseFieldDescriptor (TX1 k).2.2.1 = some (tyX1 k) := by decide +kernel

abbrev cX1_init : ByteArray := prog_3_method_1_code

def yX1_init : MethodName := ⟨RX1, "<init>", "()V"⟩

abbrev cX1_take : ByteArray := prog_3_method_2_code

def yX1_take : MethodName := ⟨RX1, "take", "(LRaftForest$World;)V"⟩

abbrev cX1_give : ByteArray := prog_3_method_3_code

def yX1_give : MethodName := ⟨RX1, "give", "(LRaftForest$World;)V"⟩

def RX2 : String := "RaftForest$River"

def TX2 : u_T := fun k => match k with
  | 0 => ("RaftForest$River", "bends", "I", false)
  | 1 => ("RaftForest$River", "villages", "I", false)
  | 2 => ("RaftForest$River", "woods", "I", false)
  | 3 => ("RaftForest$River", "logs", "I", false)
  | 4 => ("RaftForest$River", "toll", "I", false)
  | 5 => ("RaftForest$River", "villageBends", "[I", true)
  | 6 => ("RaftForest$River", "widths", "[I", true)
  | 7 => ("RaftForest$River", "woodPrices", "[I", true)
  | 8 => ("RaftForest$River", "logWoods", "[I", true)
  | 9 => ("RaftForest$River", "logLengths", "[I", true)
  | 10 => ("RaftForest$River", "logRings", "[I", true)
  | _ => ("RaftForest$River", "logVillages", "[I", true)

def tyX2 : Nat → FieldType := fun k => match k with
  | 0 => .int
  | 1 => .int
  | 2 => .int
  | 3 => .int
  | 4 => .int
  | 5 => .array .int
  | 6 => .array .int
  | 7 => .array .int
  | 8 => .array .int
  | 9 => .array .int
  | 10 => .array .int
  | _ => .array .int

abbrev wsX20 : List Cond := u_ws RX2 TX2 12

theorem nmX2 : ∀ a, a < 12 → ∀ b, b < 12 → a ≠ b → (TX2 a).2.1 ≠ (TX2 b).2.1 := by decide +kernel

theorem tyX2_ok : ∀ k, k < 12 → parseFieldDescriptor (TX2 k).2.2.1 = some (tyX2 k) := by decide +kernel

abbrev cX2_init : ByteArray := prog_4_method_1_code

def yX2_init : MethodName := ⟨RX2, "<init>", "()V"⟩

abbrev cX2_clear : ByteArray := prog_4_method_2_code

def yX2_clear : MethodName := ⟨RX2, "clear", "()V"⟩

abbrev cX2_copy : ByteArray := prog_4_method_3_code

def yX2_copy : MethodName := ⟨RX2, "copy", "(LRaftForest$River;)V"⟩

def RX3 : String := "RaftForest$RiverReader"

def TX3 : u_T := fun k => match k with
  | 0 => ("RaftForest$RiverReader", "told", "LRaftForest$River;", true)
  | 1 => ("RaftForest$RiverReader", "tape", "LRaftForest$Tape;", true)
  | _ => ("RaftForest$RiverReader", "tollTold", "Z", false)

def tyX3 : Nat → FieldType := fun k => match k with
  | 0 => .object "RaftForest$River"
  | 1 => .object "RaftForest$Tape"
  | _ => .boolean

abbrev wsX30 : List Cond := u_ws RX3 TX3 3

theorem nmX3 : ∀ a, a < 3 → ∀ b, b < 3 → a ≠ b → (TX3 a).2.1 ≠ (TX3 b).2.1 := by decide +kernel

theorem tyX3_ok : ∀ k, k < 3 → parseFieldDescriptor (TX3 k).2.2.1 = some (tyX3 k) := by decide +kernel

abbrev cX3_init : ByteArray := prog_5_method_1_code

def yX3_init : MethodName := ⟨RX3, "<init>", "(LRaftForest$Tape;)V"⟩

abbrev cX3_reads : ByteArray := prog_5_method_2_code

def yX3_reads : MethodName := ⟨RX3, "reads", "()Z"⟩

abbrev cX3_isTooMany : ByteArray := prog_5_method_3_code

def yX3_isTooMany : MethodName := ⟨RX3, "isTooMany", "(II)Z"⟩

abbrev cX3_readsClause : ByteArray := prog_5_method_4_code

def yX3_readsClause : MethodName := ⟨RX3, "readsClause", "(I)Z"⟩

abbrev cX3_readNumber : ByteArray := prog_5_method_5_code

def yX3_readNumber : MethodName := ⟨RX3, "readNumber", "(II)I"⟩

def RX4 : String := "RaftForest$Rule"

def TX4 : u_T := fun k => match k with
  | 0 => ("RaftForest$Rule", "steps", "[I", true)
  | 1 => ("RaftForest$Rule", "size", "I", false)
  | 2 => ("RaftForest$Rule", "kinds", "I", false)
  | 3 => ("RaftForest$Rule", "words", "I", false)
  | 4 => ("RaftForest$Rule", "stack", "[J", true)
  | _ => ("RaftForest$Rule", "sum", "J", false)

def tyX4 : Nat → FieldType := fun k => match k with
  | 0 => .array .int
  | 1 => .int
  | 2 => .int
  | 3 => .int
  | 4 => .array .long
  | _ => .long

abbrev wsX40 : List Cond := u_ws RX4 TX4 6

theorem nmX4 : ∀ a, a < 6 → ∀ b, b < 6 → a ≠ b → (TX4 a).2.1 ≠ (TX4 b).2.1 := by decide +kernel

theorem tyX4_ok : ∀ k, k < 6 → parseFieldDescriptor (TX4 k).2.2.1 = some (tyX4 k) := by decide +kernel

abbrev cX4_init : ByteArray := prog_6_method_1_code

def yX4_init : MethodName := ⟨RX4, "<init>", "()V"⟩

abbrev cX4_clear : ByteArray := prog_6_method_2_code

def yX4_clear : MethodName := ⟨RX4, "clear", "()V"⟩

abbrev cX4_write : ByteArray := prog_6_method_3_code

def yX4_write : MethodName := ⟨RX4, "write", "(I)V"⟩

abbrev cX4_begin : ByteArray := prog_6_method_4_code

def yX4_begin : MethodName := ⟨RX4, "begin", "(I)I"⟩

abbrev cX4_close : ByteArray := prog_6_method_5_code

def yX4_close : MethodName := ⟨RX4, "close", "(I)V"⟩

abbrev cX4_hasKind : ByteArray := prog_6_method_6_code

def yX4_hasKind : MethodName := ⟨RX4, "hasKind", "(I)Z"⟩

abbrev cX4_hasWord : ByteArray := prog_6_method_7_code

def yX4_hasWord : MethodName := ⟨RX4, "hasWord", "(I)Z"⟩

abbrev cX4_finds : ByteArray := prog_6_method_8_code

def yX4_finds : MethodName := ⟨RX4, "finds", "(I[J)Z"⟩

abbrev cX4_joined : ByteArray := prog_6_method_9_code

def yX4_joined : MethodName := ⟨RX4, "joined", "(IJJ)J"⟩

def RX5 : String := "RaftForest$RuleReader"

def TX5 : u_T := fun k => match k with
  | 0 => ("RaftForest$RuleReader", "tape", "LRaftForest$Tape;", true)
  | _ => ("RaftForest$RuleReader", "items", "I", false)

def tyX5 : Nat → FieldType := fun k => match k with
  | 0 => .object "RaftForest$Tape"
  | _ => .int

abbrev wsX50 : List Cond := u_ws RX5 TX5 2

theorem nmX5 : ∀ a, a < 2 → ∀ b, b < 2 → a ≠ b → (TX5 a).2.1 ≠ (TX5 b).2.1 := by decide +kernel

theorem tyX5_ok : ∀ k, k < 2 → parseFieldDescriptor (TX5 k).2.2.1 = some (tyX5 k) := by decide +kernel

abbrev cX5_init : ByteArray := prog_7_method_1_code

def yX5_init : MethodName := ⟨RX5, "<init>", "(LRaftForest$Tape;)V"⟩

abbrev cX5_reads : ByteArray := prog_7_method_2_code

def yX5_reads : MethodName := ⟨RX5, "reads", "(LRaftForest$Rule;)Z"⟩

abbrev cX5_readsTest : ByteArray := prog_7_method_3_code

def yX5_readsTest : MethodName := ⟨RX5, "readsTest", "(LRaftForest$Rule;I)Z"⟩

abbrev cX5_readsFact : ByteArray := prog_7_method_4_code

def yX5_readsFact : MethodName := ⟨RX5, "readsFact", "(LRaftForest$Rule;I)Z"⟩

abbrev cX5_readSign : ByteArray := prog_7_method_5_code

def yX5_readSign : MethodName := ⟨RX5, "readSign", "()I"⟩

abbrev cX5_readsSum : ByteArray := prog_7_method_6_code

def yX5_readsSum : MethodName := ⟨RX5, "readsSum", "(LRaftForest$Rule;)Z"⟩

abbrev cX5_readsValue : ByteArray := prog_7_method_7_code

def yX5_readsValue : MethodName := ⟨RX5, "readsValue", "(LRaftForest$Rule;)Z"⟩

def RX6 : String := "RaftForest$State"

def TX6 : u_T := fun k => match k with
  | 0 => ("RaftForest$State", "day", "I", false)
  | 1 => ("RaftForest$State", "water", "I", false)
  | 2 => ("RaftForest$State", "ruleInForce", "I", false)
  | 3 => ("RaftForest$State", "law", "I", false)
  | 4 => ("RaftForest$State", "lawRule", "I", false)
  | 5 => ("RaftForest$State", "logs", "I", false)
  | 6 => ("RaftForest$State", "villageRules", "[I", true)
  | 7 => ("RaftForest$State", "dams", "[I", true)
  | 8 => ("RaftForest$State", "places", "[I", true)
  | 9 => ("RaftForest$State", "lengths", "[I", true)
  | 10 => ("RaftForest$State", "jams", "[I", true)
  | 11 => ("RaftForest$State", "jamDays", "[I", true)
  | 12 => ("RaftForest$State", "order", "[I", true)
  | 13 => ("RaftForest$State", "notchCounts", "[I", true)
  | _ => ("RaftForest$State", "notches", "[I", true)

def tyX6 : Nat → FieldType := fun k => match k with
  | 0 => .int
  | 1 => .int
  | 2 => .int
  | 3 => .int
  | 4 => .int
  | 5 => .int
  | 6 => .array .int
  | 7 => .array .int
  | 8 => .array .int
  | 9 => .array .int
  | 10 => .array .int
  | 11 => .array .int
  | 12 => .array .int
  | 13 => .array .int
  | _ => .array .int

abbrev wsX60 : List Cond := u_ws RX6 TX6 15

theorem nmX6 : ∀ a, a < 15 → ∀ b, b < 15 → a ≠ b → (TX6 a).2.1 ≠ (TX6 b).2.1 := by decide +kernel

theorem tyX6_ok : ∀ k, k < 15 → parseFieldDescriptor (TX6 k).2.2.1 = some (tyX6 k) := by decide +kernel

abbrev cX6_init : ByteArray := prog_8_method_1_code

def yX6_init : MethodName := ⟨RX6, "<init>", "()V"⟩

abbrev cX6_start : ByteArray := prog_8_method_2_code

def yX6_start : MethodName := ⟨RX6, "start", "(LRaftForest$River;)V"⟩

abbrev cX6_copy : ByteArray := prog_8_method_3_code

def yX6_copy : MethodName := ⟨RX6, "copy", "(LRaftForest$State;)V"⟩

abbrev cX6_isInWater : ByteArray := prog_8_method_4_code

def yX6_isInWater : MethodName := ⟨RX6, "isInWater", "(I)Z"⟩

abbrev cX6_isAshore : ByteArray := prog_8_method_5_code

def yX6_isAshore : MethodName := ⟨RX6, "isAshore", "(I)Z"⟩

abbrev cX6_isGone : ByteArray := prog_8_method_6_code

def yX6_isGone : MethodName := ⟨RX6, "isGone", "(I)Z"⟩

abbrev cX6_logsBetween : ByteArray := prog_8_method_7_code

def yX6_logsBetween : MethodName := ⟨RX6, "logsBetween", "(II)I"⟩

abbrev cX6_jamsInAll : ByteArray := prog_8_method_8_code

def yX6_jamsInAll : MethodName := ⟨RX6, "jamsInAll", "()I"⟩

abbrev cX6_placeInOrder : ByteArray := prog_8_method_9_code

def yX6_placeInOrder : MethodName := ⟨RX6, "placeInOrder", "(I)I"⟩

abbrev cX6_notchAt : ByteArray := prog_8_method_10_code

def yX6_notchAt : MethodName := ⟨RX6, "notchAt", "(II)I"⟩

abbrev cX6_notchBehind : ByteArray := prog_8_method_11_code

def yX6_notchBehind : MethodName := ⟨RX6, "notchBehind", "(II)V"⟩

def RX7 : String := "RaftForest$Tape"

def TX7 : u_T := fun k => match k with
  | 0 => ("RaftForest$Tape", "bytes", "[I", true)
  | 1 => ("RaftForest$Tape", "size", "I", false)
  | 2 => ("RaftForest$Tape", "at", "I", false)
  | 3 => ("RaftForest$Tape", "stop", "I", false)
  | 4 => ("RaftForest$Tape", "first", "I", false)
  | _ => ("RaftForest$Tape", "fault", "I", false)

def tyX7 : Nat → FieldType := fun k => match k with
  | 0 => .array .int
  | 1 => .int
  | 2 => .int
  | 3 => .int
  | 4 => .int
  | _ => .int

abbrev wsX70 : List Cond := u_ws RX7 TX7 6

theorem nmX7 : ∀ a, a < 6 → ∀ b, b < 6 → a ≠ b → (TX7 a).2.1 ≠ (TX7 b).2.1 := by decide +kernel

theorem tyX7_ok : ∀ k, k < 6 → parseFieldDescriptor (TX7 k).2.2.1 = some (tyX7 k) := by decide +kernel

abbrev cX7_init : ByteArray := prog_9_method_1_code

def yX7_init : MethodName := ⟨RX7, "<init>", "()V"⟩

abbrev cX7_append : ByteArray := prog_9_method_2_code

def yX7_append : MethodName := ⟨RX7, "append", "(I)V"⟩

abbrev cX7_rewind : ByteArray := prog_9_method_3_code

def yX7_rewind : MethodName := ⟨RX7, "rewind", "()V"⟩

abbrev cX7_pass : ByteArray := prog_9_method_4_code

def yX7_pass : MethodName := ⟨RX7, "pass", "()V"⟩

abbrev cX7_fails : ByteArray := prog_9_method_5_code

def yX7_fails : MethodName := ⟨RX7, "fails", "(I)Z"⟩

abbrev cX7_isNumber : ByteArray := prog_9_method_6_code

def yX7_isNumber : MethodName := ⟨RX7, "isNumber", "()Z"⟩

abbrev cX7_number : ByteArray := prog_9_method_7_code

def yX7_number : MethodName := ⟨RX7, "number", "()I"⟩

abbrev cX7_isLong : ByteArray := prog_9_method_8_code

def yX7_isLong : MethodName := ⟨RX7, "isLong", "()Z"⟩

abbrev cX7_wordIn : ByteArray := prog_9_method_9_code

def yX7_wordIn : MethodName := ⟨RX7, "wordIn", "(Ljava/lang/String;)I"⟩

abbrev cX7_takesWord : ByteArray := prog_9_method_10_code

def yX7_takesWord : MethodName := ⟨RX7, "takesWord", "(Ljava/lang/String;)Z"⟩

def RX8 : String := "RaftForest$World"

def TX8 : u_T := fun k => match k with
  | 0 => ("RaftForest$World", "river", "LRaftForest$River;", true)
  | 1 => ("RaftForest$World", "state", "LRaftForest$State;", true)
  | 2 => ("RaftForest$World", "books", "LRaftForest$Books;", true)
  | 3 => ("RaftForest$World", "tally", "[I", true)
  | 4 => ("RaftForest$World", "rules", "[LRaftForest$Rule;", true)
  | 5 => ("RaftForest$World", "words", "[J", true)
  | 6 => ("RaftForest$World", "ranks", "[I", true)
  | 7 => ("RaftForest$World", "sums", "[J", true)
  | _ => ("RaftForest$World", "takenToday", "I", false)

def tyX8 : Nat → FieldType := fun k => match k with
  | 0 => .object "RaftForest$River"
  | 1 => .object "RaftForest$State"
  | 2 => .object "RaftForest$Books"
  | 3 => .array .int
  | 4 => .array (.object "RaftForest$Rule")
  | 5 => .array .long
  | 6 => .array .int
  | 7 => .array .long
  | _ => .int

abbrev wsX80 : List Cond := u_ws RX8 TX8 9

theorem nmX8 : ∀ a, a < 9 → ∀ b, b < 9 → a ≠ b → (TX8 a).2.1 ≠ (TX8 b).2.1 := by decide +kernel

theorem tyX8_ok : ∀ k, k < 9 → parseFieldDescriptor (TX8 k).2.2.1 = some (tyX8 k) := by decide +kernel

abbrev cX8_init : ByteArray := prog_10_method_1_code

def yX8_init : MethodName := ⟨RX8, "<init>", "(LRaftForest$River;[LRaftForest$Rule;)V"⟩

abbrev cX8_begin : ByteArray := prog_10_method_2_code

def yX8_begin : MethodName := ⟨RX8, "begin", "(LRaftForest$World;)V"⟩

abbrev cX8_bendOf : ByteArray := prog_10_method_3_code

def yX8_bendOf : MethodName := ⟨RX8, "bendOf", "(I)I"⟩

abbrev cX8_logsAt : ByteArray := prog_10_method_4_code

def yX8_logsAt : MethodName := ⟨RX8, "logsAt", "(I)I"⟩

abbrev cX8_roomAt : ByteArray := prog_10_method_5_code

def yX8_roomAt : MethodName := ⟨RX8, "roomAt", "(I)I"⟩

abbrev cX8_reaches : ByteArray := prog_10_method_6_code

def yX8_reaches : MethodName := ⟨RX8, "reaches", "(II)Z"⟩

abbrev cX8_villagesAt : ByteArray := prog_10_method_7_code

def yX8_villagesAt : MethodName := ⟨RX8, "villagesAt", "(I)I"⟩

abbrev cX8_daysKept : ByteArray := prog_10_method_8_code

def yX8_daysKept : MethodName := ⟨RX8, "daysKept", "()I"⟩

abbrev cX8_placeAgo : ByteArray := prog_10_method_9_code

def yX8_placeAgo : MethodName := ⟨RX8, "placeAgo", "(II)I"⟩

abbrev cX8_villagesSeen : ByteArray := prog_10_method_10_code

def yX8_villagesSeen : MethodName := ⟨RX8, "villagesSeen", "(III)I"⟩

abbrev cX8_ownerOf : ByteArray := prog_10_method_11_code

def yX8_ownerOf : MethodName := ⟨RX8, "ownerOf", "(I)I"⟩

abbrev cX8_notchesOf : ByteArray := prog_10_method_12_code

def yX8_notchesOf : MethodName := ⟨RX8, "notchesOf", "(II)I"⟩

abbrev cX8_logsOf : ByteArray := prog_10_method_13_code

def yX8_logsOf : MethodName := ⟨RX8, "logsOf", "(I)I"⟩

abbrev cX8_priceOf : ByteArray := prog_10_method_14_code

def yX8_priceOf : MethodName := ⟨RX8, "priceOf", "(I)I"⟩

abbrev cX8_priceOfSet : ByteArray := prog_10_method_15_code

def yX8_priceOfSet : MethodName := ⟨RX8, "priceOfSet", "(I)I"⟩

abbrev cX8_ownersBetween : ByteArray := prog_10_method_16_code

def yX8_ownersBetween : MethodName := ⟨RX8, "ownersBetween", "(II)I"⟩

abbrev cX8_tearing : ByteArray := prog_10_method_17_code

def yX8_tearing : MethodName := ⟨RX8, "tearing", "(I)I"⟩

abbrev cX8_keeping : ByteArray := prog_10_method_18_code

def yX8_keeping : MethodName := ⟨RX8, "keeping", "(I)I"⟩

abbrev cX8_asks : ByteArray := prog_10_method_19_code

def yX8_asks : MethodName := ⟨RX8, "asks", "(IIII)Z"⟩

abbrev cX8_roomFor : ByteArray := prog_10_method_20_code

def yX8_roomFor : MethodName := ⟨RX8, "roomFor", "(III)I"⟩

abbrev cX8_tellWords : ByteArray := prog_10_method_21_code

def yX8_tellWords : MethodName := ⟨RX8, "tellWords", "(IIII)V"⟩

abbrev cX8_passDay : ByteArray := prog_10_method_22_code

def yX8_passDay : MethodName := ⟨RX8, "passDay", "()V"⟩

abbrev cX8_passLog : ByteArray := prog_10_method_23_code

def yX8_passLog : MethodName := ⟨RX8, "passLog", "(I)V"⟩

abbrev cX8_jam : ByteArray := prog_10_method_24_code

def yX8_jam : MethodName := ⟨RX8, "jam", "(I)V"⟩

abbrev cX8_sell : ByteArray := prog_10_method_25_code

def yX8_sell : MethodName := ⟨RX8, "sell", "(I)V"⟩

abbrev cX8_passVillage : ByteArray := prog_10_method_26_code

def yX8_passVillage : MethodName := ⟨RX8, "passVillage", "(II)V"⟩

abbrev cX8_take : ByteArray := prog_10_method_27_code

def yX8_take : MethodName := ⟨RX8, "take", "(II)V"⟩

abbrev cX8_rise : ByteArray := prog_10_method_28_code

def yX8_rise : MethodName := ⟨RX8, "rise", "(I)V"⟩

abbrev cX8_goesAhead : ByteArray := prog_10_method_29_code

def yX8_goesAhead : MethodName := ⟨RX8, "goesAhead", "(II)Z"⟩

def RX9 : String := "RaftForest"

def TX9 : u_T := fun k => match k with
  | 0 => ("RaftForest", "tape", "LRaftForest$Tape;", true)
  | 1 => ("RaftForest", "riverReader", "LRaftForest$RiverReader;", true)
  | 2 => ("RaftForest", "ruleReader", "LRaftForest$RuleReader;", true)
  | 3 => ("RaftForest", "rules", "[LRaftForest$Rule;", true)
  | 4 => ("RaftForest", "ruleCount", "I", false)
  | 5 => ("RaftForest", "now", "LRaftForest$World;", true)
  | 6 => ("RaftForest", "trial", "LRaftForest$World;", true)
  | 7 => ("RaftForest", "images", "[LRaftForest$Image;", true)
  | 8 => ("RaftForest", "row", "[I", true)
  | 9 => ("RaftForest", "rowPlaces", "[I", true)
  | 10 => ("RaftForest", "bestRow", "[I", true)
  | _ => ("RaftForest", "groups", "[I", true)

def tyX9 : Nat → FieldType := fun k => match k with
  | 0 => .object "RaftForest$Tape"
  | 1 => .object "RaftForest$RiverReader"
  | 2 => .object "RaftForest$RuleReader"
  | 3 => .array (.object "RaftForest$Rule")
  | 4 => .int
  | 5 => .object "RaftForest$World"
  | 6 => .object "RaftForest$World"
  | 7 => .array (.object "RaftForest$Image")
  | 8 => .array .int
  | 9 => .array .int
  | 10 => .array .int
  | _ => .array .int

abbrev wsX90 : List Cond := u_ws RX9 TX9 12

theorem nmX9 : ∀ a, a < 12 → ∀ b, b < 12 → a ≠ b → (TX9 a).2.1 ≠ (TX9 b).2.1 := by decide +kernel

theorem tyX9_ok : ∀ k, k < 12 → parseFieldDescriptor (TX9 k).2.2.1 = some (tyX9 k) := by decide +kernel

abbrev cX9_init : ByteArray := prog_1_method_1_code

def yX9_init : MethodName := ⟨RX9, "<init>", "()V"⟩

abbrev cX9_feed : ByteArray := prog_1_method_2_code

def yX9_feed : MethodName := ⟨RX9, "feed", "(IIIII)I"⟩

abbrev cX9_end : ByteArray := prog_1_method_3_code

def yX9_end : MethodName := ⟨RX9, "end", "(I)I"⟩

abbrev cX9_river : ByteArray := prog_1_method_4_code

def yX9_river : MethodName := ⟨RX9, "river", "()I"⟩

abbrev cX9_rule : ByteArray := prog_1_method_5_code

def yX9_rule : MethodName := ⟨RX9, "rule", "()I"⟩

abbrev cX9_force : ByteArray := prog_1_method_6_code

def yX9_force : MethodName := ⟨RX9, "force", "(I)I"⟩

abbrev cX9_bind : ByteArray := prog_1_method_7_code

def yX9_bind : MethodName := ⟨RX9, "bind", "(II)I"⟩

abbrev cX9_law : ByteArray := prog_1_method_8_code

def yX9_law : MethodName := ⟨RX9, "law", "(II)I"⟩

abbrev cX9_bend : ByteArray := prog_1_method_9_code

def yX9_bend : MethodName := ⟨RX9, "bend", "(II)I"⟩

abbrev cX9_village : ByteArray := prog_1_method_10_code

def yX9_village : MethodName := ⟨RX9, "village", "(II)I"⟩

abbrev cX9_log : ByteArray := prog_1_method_11_code

def yX9_log : MethodName := ⟨RX9, "log", "(II)I"⟩

abbrev cX9_notch : ByteArray := prog_1_method_12_code

def yX9_notch : MethodName := ⟨RX9, "notch", "(II)I"⟩

abbrev cX9_cut : ByteArray := prog_1_method_13_code

def yX9_cut : MethodName := ⟨RX9, "cut", "(II)I"⟩

abbrev cX9_cutOver : ByteArray := prog_1_method_14_code

def yX9_cutOver : MethodName := ⟨RX9, "cutOver", "(III)I"⟩

abbrev cX9_undo : ByteArray := prog_1_method_15_code

def yX9_undo : MethodName := ⟨RX9, "undo", "()I"⟩

abbrev cX9_launch : ByteArray := prog_1_method_16_code

def yX9_launch : MethodName := ⟨RX9, "launch", "(I)I"⟩

abbrev cX9_land : ByteArray := prog_1_method_17_code

def yX9_land : MethodName := ⟨RX9, "land", "(II)Z"⟩

abbrev cX9_burn : ByteArray := prog_1_method_18_code

def yX9_burn : MethodName := ⟨RX9, "burn", "(I)I"⟩

abbrev cX9_saw : ByteArray := prog_1_method_19_code

def yX9_saw : MethodName := ⟨RX9, "saw", "(II)I"⟩

abbrev cX9_ahead : ByteArray := prog_1_method_20_code

def yX9_ahead : MethodName := ⟨RX9, "ahead", "(II)I"⟩

abbrev cX9_dam : ByteArray := prog_1_method_21_code

def yX9_dam : MethodName := ⟨RX9, "dam", "(I)I"⟩

abbrev cX9_appeal : ByteArray := prog_1_method_22_code

def yX9_appeal : MethodName := ⟨RX9, "appeal", "(I)I"⟩

abbrev cX9_votes : ByteArray := prog_1_method_23_code

def yX9_votes : MethodName := ⟨RX9, "votes", "(II)I"⟩

abbrev cX9_flood : ByteArray := prog_1_method_24_code

def yX9_flood : MethodName := ⟨RX9, "flood", "(I)I"⟩

abbrev cX9_elected : ByteArray := prog_1_method_25_code

def yX9_elected : MethodName := ⟨RX9, "elected", "(I)I"⟩

abbrev cX9_wedding : ByteArray := prog_1_method_26_code

def yX9_wedding : MethodName := ⟨RX9, "wedding", "(I)I"⟩

abbrev cX9_winter : ByteArray := prog_1_method_27_code

def yX9_winter : MethodName := ⟨RX9, "winter", "(I)I"⟩

abbrev cX9_days : ByteArray := prog_1_method_28_code

def yX9_days : MethodName := ⟨RX9, "days", "(I)I"⟩

abbrev cX9_floats : ByteArray := prog_1_method_29_code

def yX9_floats : MethodName := ⟨RX9, "floats", "(II)I"⟩

abbrev cX9_letAhead : ByteArray := prog_1_method_30_code

def yX9_letAhead : MethodName := ⟨RX9, "letAhead", "(II)I"⟩

abbrev cX9_takeRow : ByteArray := prog_1_method_31_code

def yX9_takeRow : MethodName := ⟨RX9, "takeRow", "()I"⟩

abbrev cX9_nextRow : ByteArray := prog_1_method_32_code

def yX9_nextRow : MethodName := ⟨RX9, "nextRow", "([II)Z"⟩

abbrev cX9_swap : ByteArray := prog_1_method_33_code

def yX9_swap : MethodName := ⟨RX9, "swap", "([III)V"⟩

abbrev cX9_kin : ByteArray := prog_1_method_34_code

def yX9_kin : MethodName := ⟨RX9, "kin", "(II)I"⟩

abbrev cX9_kinOf : ByteArray := prog_1_method_35_code

def yX9_kinOf : MethodName := ⟨RX9, "kinOf", "(I)I"⟩

abbrev cX9_was : ByteArray := prog_1_method_36_code

def yX9_was : MethodName := ⟨RX9, "was", "(II)I"⟩

abbrev cX9_wereAt : ByteArray := prog_1_method_37_code

def yX9_wereAt : MethodName := ⟨RX9, "wereAt", "(III)I"⟩

abbrev cX9_likely : ByteArray := prog_1_method_38_code

def yX9_likely : MethodName := ⟨RX9, "likely", "(IIIII)I"⟩

abbrev cX9_commonDivisor : ByteArray := prog_1_method_39_code

def yX9_commonDivisor : MethodName := ⟨RX9, "commonDivisor", "(II)I"⟩

abbrev cX9_areKept : ByteArray := prog_1_method_40_code

def yX9_areKept : MethodName := ⟨RX9, "areKept", "(III)Z"⟩

abbrev cX9_sight : ByteArray := prog_1_method_41_code

def yX9_sight : MethodName := ⟨RX9, "sight", "(III)I"⟩

abbrev cX9_parted : ByteArray := prog_1_method_42_code

def yX9_parted : MethodName := ⟨RX9, "parted", "(III)I"⟩

abbrev cX9_owes : ByteArray := prog_1_method_43_code

def yX9_owes : MethodName := ⟨RX9, "owes", "(II)I"⟩

abbrev cX9_payments : ByteArray := prog_1_method_44_code

def yX9_payments : MethodName := ⟨RX9, "payments", "()I"⟩

abbrev cX9_repaid : ByteArray := prog_1_method_45_code

def yX9_repaid : MethodName := ⟨RX9, "repaid", "(III)I"⟩

abbrev cX9_seed : ByteArray := prog_1_method_46_code

def yX9_seed : MethodName := ⟨RX9, "seed", "(I)I"⟩

abbrev cX9_drawn : ByteArray := prog_1_method_47_code

def yX9_drawn : MethodName := ⟨RX9, "drawn", "(IIII)I"⟩

abbrev cX9_nextDrawn : ByteArray := prog_1_method_48_code

def yX9_nextDrawn : MethodName := ⟨RX9, "nextDrawn", "(I)I"⟩

abbrev cX9_count : ByteArray := prog_1_method_49_code

def yX9_count : MethodName := ⟨RX9, "count", "(I)I"⟩

abbrev cX9_countKept : ByteArray := prog_1_method_50_code

def yX9_countKept : MethodName := ⟨RX9, "countKept", "(I)I"⟩

abbrev cX9_image : ByteArray := prog_1_method_51_code

def yX9_image : MethodName := ⟨RX9, "image", "(I)I"⟩

abbrev cX9_back : ByteArray := prog_1_method_52_code

def yX9_back : MethodName := ⟨RX9, "back", "(I)I"⟩

abbrev cX9_hasRiver : ByteArray := prog_1_method_53_code

def yX9_hasRiver : MethodName := ⟨RX9, "hasRiver", "()Z"⟩

abbrev cX9_isBend : ByteArray := prog_1_method_54_code

def yX9_isBend : MethodName := ⟨RX9, "isBend", "(I)Z"⟩

abbrev cX9_isVillage : ByteArray := prog_1_method_55_code

def yX9_isVillage : MethodName := ⟨RX9, "isVillage", "(I)Z"⟩

abbrev cX9_isLog : ByteArray := prog_1_method_56_code

def yX9_isLog : MethodName := ⟨RX9, "isLog", "(I)Z"⟩

abbrev cX9_isRule : ByteArray := prog_1_method_57_code

def yX9_isRule : MethodName := ⟨RX9, "isRule", "(I)Z"⟩

abbrev cX9_isRuleOrNone : ByteArray := prog_1_method_58_code

def yX9_isRuleOrNone : MethodName := ⟨RX9, "isRuleOrNone", "(I)Z"⟩

abbrev cX9_copyRow : ByteArray := prog_1_method_59_code

def yX9_copyRow : MethodName := ⟨RX9, "copyRow", "([I[I)V"⟩

def RX10 : String := "RaftForestModel"

def TX10 : u_T := fun k => match k with
  | 0 => ("RaftForestModel", "thrown", "I", false)
  | 1 => ("RaftForestModel", "scalar", "[I", true)
  | 2 => ("RaftForestModel", "width", "[I", true)
  | 3 => ("RaftForestModel", "dams", "[I", true)
  | 4 => ("RaftForestModel", "price", "[I", true)
  | 5 => ("RaftForestModel", "villageBend", "[I", true)
  | 6 => ("RaftForestModel", "villageRule", "[I", true)
  | 7 => ("RaftForestModel", "villageCoins", "[I", true)
  | 8 => ("RaftForestModel", "owed", "[I", true)
  | 9 => ("RaftForestModel", "wood", "[I", true)
  | 10 => ("RaftForestModel", "length", "[I", true)
  | 11 => ("RaftForestModel", "logRings", "[I", true)
  | 12 => ("RaftForestModel", "place", "[I", true)
  | 13 => ("RaftForestModel", "notches", "[I", true)
  | 14 => ("RaftForestModel", "jams", "[I", true)
  | 15 => ("RaftForestModel", "onEnd", "[I", true)
  | 16 => ("RaftForestModel", "weddings", "[I", true)
  | 17 => ("RaftForestModel", "order", "[I", true)
  | 18 => ("RaftForestModel", "notch", "[I", true)
  | 19 => ("RaftForestModel", "beams", "[I", true)
  | 20 => ("RaftForestModel", "sightLog", "[I", true)
  | 21 => ("RaftForestModel", "sightPlace", "[I", true)
  | 22 => ("RaftForestModel", "sightWhose", "[I", true)
  | 23 => ("RaftForestModel", "sightDay", "[I", true)
  | 24 => ("RaftForestModel", "cutLog", "[I", true)
  | 25 => ("RaftForestModel", "cutPlace", "[I", true)
  | 26 => ("RaftForestModel", "cutBy", "[I", true)
  | 27 => ("RaftForestModel", "cutWas", "[I", true)
  | 28 => ("RaftForestModel", "past", "[I", true)
  | 29 => ("RaftForestModel", "newScalar", "[I", true)
  | 30 => ("RaftForestModel", "newWidth", "[I", true)
  | 31 => ("RaftForestModel", "newPrice", "[I", true)
  | 32 => ("RaftForestModel", "newBend", "[I", true)
  | 33 => ("RaftForestModel", "newWood", "[I", true)
  | 34 => ("RaftForestModel", "newLength", "[I", true)
  | 35 => ("RaftForestModel", "newRings", "[I", true)
  | 36 => ("RaftForestModel", "newFelled", "[I", true)
  | 37 => ("RaftForestModel", "taped", "I", false)
  | 38 => ("RaftForestModel", "p", "I", false)
  | 39 => ("RaftForestModel", "fault", "I", false)
  | 40 => ("RaftForestModel", "slot", "I", false)
  | 41 => ("RaftForestModel", "rules", "I", false)
  | 42 => ("RaftForestModel", "entries", "I", false)
  | 43 => ("RaftForestModel", "deep", "I", false)
  | 44 => ("RaftForestModel", "counted", "I", false)
  | 45 => ("RaftForestModel", "opened", "I", false)
  | 46 => ("RaftForestModel", "words", "I", false)
  | 47 => ("RaftForestModel", "isTollTold", "Z", false)
  | 48 => ("RaftForestModel", "tape", "[B", true)
  | 49 => ("RaftForestModel", "sort", "[I", true)
  | 50 => ("RaftForestModel", "number", "[I", true)
  | 51 => ("RaftForestModel", "clauses", "[I", true)
  | 52 => ("RaftForestModel", "actOf", "[I", true)
  | 53 => ("RaftForestModel", "sumAt", "[I", true)
  | 54 => ("RaftForestModel", "testAt", "[I", true)
  | 55 => ("RaftForestModel", "endAt", "[I", true)
  | 56 => ("RaftForestModel", "open", "[I", true)
  | 57 => ("RaftForestModel", "asked", "[J", true)
  | 58 => ("RaftForestModel", "stack", "[J", true)
  | 59 => ("RaftForestModel", "group", "[I", true)
  | 60 => ("RaftForestModel", "rank", "[J", true)
  | 61 => ("RaftForestModel", "jammed", "I", false)
  | 62 => ("RaftForestModel", "sold", "I", false)
  | 63 => ("RaftForestModel", "soldCoins", "I", false)
  | 64 => ("RaftForestModel", "taken", "I", false)
  | 65 => ("RaftForestModel", "added", "I", false)
  | 66 => ("RaftForestModel", "faded", "I", false)
  | 67 => ("RaftForestModel", "takenSet", "I", false)
  | 68 => ("RaftForestModel", "past0", "[I", true)
  | 69 => ("RaftForestModel", "floating", "[I", true)
  | 70 => ("RaftForestModel", "spot", "[I", true)
  | 71 => ("RaftForestModel", "rowNow", "[I", true)
  | 72 => ("RaftForestModel", "bestRow", "[I", true)
  | 73 => ("RaftForestModel", "floatingMany", "I", false)
  | 74 => ("RaftForestModel", "fewestJams", "I", false)
  | 75 => ("RaftForestModel", "groupsOf", "[I", true)
  | 76 => ("RaftForestModel", "images", "[I", true)
  | 77 => ("RaftForestModel", "isMade", "[Z", true)
  | 78 => ("RaftForestModel", "imageAt", "I", false)
  | _ => ("RaftForestModel", "goesBack", "Z", false)

def tyX10 : Nat → FieldType := fun k => match k with
  | 0 => .int
  | 1 => .array .int
  | 2 => .array .int
  | 3 => .array .int
  | 4 => .array .int
  | 5 => .array .int
  | 6 => .array .int
  | 7 => .array .int
  | 8 => .array .int
  | 9 => .array .int
  | 10 => .array .int
  | 11 => .array .int
  | 12 => .array .int
  | 13 => .array .int
  | 14 => .array .int
  | 15 => .array .int
  | 16 => .array .int
  | 17 => .array .int
  | 18 => .array .int
  | 19 => .array .int
  | 20 => .array .int
  | 21 => .array .int
  | 22 => .array .int
  | 23 => .array .int
  | 24 => .array .int
  | 25 => .array .int
  | 26 => .array .int
  | 27 => .array .int
  | 28 => .array .int
  | 29 => .array .int
  | 30 => .array .int
  | 31 => .array .int
  | 32 => .array .int
  | 33 => .array .int
  | 34 => .array .int
  | 35 => .array .int
  | 36 => .array .int
  | 37 => .int
  | 38 => .int
  | 39 => .int
  | 40 => .int
  | 41 => .int
  | 42 => .int
  | 43 => .int
  | 44 => .int
  | 45 => .int
  | 46 => .int
  | 47 => .boolean
  | 48 => .array .byte
  | 49 => .array .int
  | 50 => .array .int
  | 51 => .array .int
  | 52 => .array .int
  | 53 => .array .int
  | 54 => .array .int
  | 55 => .array .int
  | 56 => .array .int
  | 57 => .array .long
  | 58 => .array .long
  | 59 => .array .int
  | 60 => .array .long
  | 61 => .int
  | 62 => .int
  | 63 => .int
  | 64 => .int
  | 65 => .int
  | 66 => .int
  | 67 => .int
  | 68 => .array .int
  | 69 => .array .int
  | 70 => .array .int
  | 71 => .array .int
  | 72 => .array .int
  | 73 => .int
  | 74 => .int
  | 75 => .array .int
  | 76 => .array .int
  | 77 => .array .boolean
  | 78 => .int
  | _ => .boolean

abbrev wsX100 : List Cond := u_ws RX10 TX10 80

theorem nmX10 : ∀ a, a < 80 → ∀ b, b < 80 → a ≠ b → (TX10 a).2.1 ≠ (TX10 b).2.1 := by decide +kernel

theorem tyX10_ok : ∀ k, k < 80 → parseFieldDescriptor (TX10 k).2.2.1 = some (tyX10 k) := by decide +kernel

abbrev cX10_init : ByteArray := prog_12_method_1_code

def yX10_init : MethodName := ⟨RX10, "<init>", "()V"⟩

abbrev cX10_in : ByteArray := prog_12_method_3_code

def yX10_in : MethodName := ⟨RX10, "in", "(JJJ)Z"⟩

abbrev cX10_bits : ByteArray := prog_12_method_4_code

def yX10_bits : MethodName := ⟨RX10, "bits", "(I)I"⟩

abbrev cX10_divisor : ByteArray := prog_12_method_5_code

def yX10_divisor : MethodName := ⟨RX10, "divisor", "(II)I"⟩

abbrev cX10_isRiver : ByteArray := prog_12_method_6_code

def yX10_isRiver : MethodName := ⟨RX10, "isRiver", "()Z"⟩

abbrev cX10_isBend : ByteArray := prog_12_method_7_code

def yX10_isBend : MethodName := ⟨RX10, "isBend", "(I)Z"⟩

abbrev cX10_isVillage : ByteArray := prog_12_method_8_code

def yX10_isVillage : MethodName := ⟨RX10, "isVillage", "(I)Z"⟩

abbrev cX10_isLog : ByteArray := prog_12_method_9_code

def yX10_isLog : MethodName := ⟨RX10, "isLog", "(I)Z"⟩

abbrev cX10_isInWater : ByteArray := prog_12_method_10_code

def yX10_isInWater : MethodName := ⟨RX10, "isInWater", "(I)Z"⟩

abbrev cX10_isAshore : ByteArray := prog_12_method_11_code

def yX10_isAshore : MethodName := ⟨RX10, "isAshore", "(I)Z"⟩

abbrev cX10_isThere : ByteArray := prog_12_method_12_code

def yX10_isThere : MethodName := ⟨RX10, "isThere", "(I)Z"⟩

abbrev cX10_logsAt : ByteArray := prog_12_method_13_code

def yX10_logsAt : MethodName := ⟨RX10, "logsAt", "(I)I"⟩

abbrev cX10_bendOf : ByteArray := prog_12_method_14_code

def yX10_bendOf : MethodName := ⟨RX10, "bendOf", "(I)I"⟩

abbrev cX10_roomAt : ByteArray := prog_12_method_15_code

def yX10_roomAt : MethodName := ⟨RX10, "roomAt", "(I)I"⟩

abbrev cX10_priceOf : ByteArray := prog_12_method_16_code

def yX10_priceOf : MethodName := ⟨RX10, "priceOf", "(I)I"⟩

abbrev cX10_firstOf : ByteArray := prog_12_method_17_code

def yX10_firstOf : MethodName := ⟨RX10, "firstOf", "(I)I"⟩

abbrev cX10_lastOf : ByteArray := prog_12_method_18_code

def yX10_lastOf : MethodName := ⟨RX10, "lastOf", "(I)I"⟩

abbrev cX10_notchesOf : ByteArray := prog_12_method_19_code

def yX10_notchesOf : MethodName := ⟨RX10, "notchesOf", "(II)I"⟩

abbrev cX10_feed : ByteArray := prog_12_method_20_code

def yX10_feed : MethodName := ⟨RX10, "feed", "(IIIII)I"⟩

abbrev cX10_put : ByteArray := prog_12_method_21_code

def yX10_put : MethodName := ⟨RX10, "put", "(I)V"⟩

abbrev cX10_end : ByteArray := prog_12_method_22_code

def yX10_end : MethodName := ⟨RX10, "end", "(I)I"⟩

abbrev cX10_wordOf : ByteArray := prog_12_method_23_code

def yX10_wordOf : MethodName := ⟨RX10, "wordOf", "(I)Ljava/lang/String;"⟩

abbrev cX10_fails : ByteArray := prog_12_method_24_code

def yX10_fails : MethodName := ⟨RX10, "fails", "(II)V"⟩

abbrev cX10_sign : ByteArray := prog_12_method_25_code

def yX10_sign : MethodName := ⟨RX10, "sign", "()I"⟩

abbrev cX10_blanks : ByteArray := prog_12_method_26_code

def yX10_blanks : MethodName := ⟨RX10, "blanks", "()V"⟩

abbrev cX10_isDigit : ByteArray := prog_12_method_27_code

def yX10_isDigit : MethodName := ⟨RX10, "isDigit", "()Z"⟩

abbrev cX10_stood : ByteArray := prog_12_method_28_code

def yX10_stood : MethodName := ⟨RX10, "stood", "(Ljava/lang/String;)Z"⟩

abbrev cX10_takes : ByteArray := prog_12_method_29_code

def yX10_takes : MethodName := ⟨RX10, "takes", "(Ljava/lang/String;)Z"⟩

abbrev cX10_entry : ByteArray := prog_12_method_30_code

def yX10_entry : MethodName := ⟨RX10, "entry", "(II)V"⟩

abbrev cX10_isCounted : ByteArray := prog_12_method_31_code

def yX10_isCounted : MethodName := ⟨RX10, "isCounted", "(I)V"⟩

abbrev cX10_digits : ByteArray := prog_12_method_32_code

def yX10_digits : MethodName := ⟨RX10, "digits", "(I)I"⟩

abbrev cX10_value : ByteArray := prog_12_method_33_code

def yX10_value : MethodName := ⟨RX10, "value", "()V"⟩

abbrev cX10_term : ByteArray := prog_12_method_34_code

def yX10_term : MethodName := ⟨RX10, "term", "()V"⟩

abbrev cX10_sum : ByteArray := prog_12_method_35_code

def yX10_sum : MethodName := ⟨RX10, "sum", "()V"⟩

abbrev cX10_compared : ByteArray := prog_12_method_36_code

def yX10_compared : MethodName := ⟨RX10, "compared", "()V"⟩

abbrev cX10_top : ByteArray := prog_12_method_37_code

def yX10_top : MethodName := ⟨RX10, "top", "()I"⟩

abbrev cX10_opens : ByteArray := prog_12_method_38_code

def yX10_opens : MethodName := ⟨RX10, "opens", "(I)V"⟩

abbrev cX10_answers : ByteArray := prog_12_method_39_code

def yX10_answers : MethodName := ⟨RX10, "answers", "(I)V"⟩

abbrev cX10_fact : ByteArray := prog_12_method_40_code

def yX10_fact : MethodName := ⟨RX10, "fact", "()Z"⟩

abbrev cX10_test : ByteArray := prog_12_method_41_code

def yX10_test : MethodName := ⟨RX10, "test", "()V"⟩

abbrev cX10_amount : ByteArray := prog_12_method_42_code

def yX10_amount : MethodName := ⟨RX10, "amount", "(II)I"⟩

abbrev cX10_riverWord : ByteArray := prog_12_method_43_code

def yX10_riverWord : MethodName := ⟨RX10, "riverWord", "(I)Ljava/lang/String;"⟩

abbrev cX10_readsLog : ByteArray := prog_12_method_44_code

def yX10_readsLog : MethodName := ⟨RX10, "readsLog", "()V"⟩

abbrev cX10_riverPart : ByteArray := prog_12_method_45_code

def yX10_riverPart : MethodName := ⟨RX10, "riverPart", "(I)V"⟩

abbrev cX10_isFull : ByteArray := prog_12_method_46_code

def yX10_isFull : MethodName := ⟨RX10, "isFull", "(II)Z"⟩

abbrev cX10_riverClause : ByteArray := prog_12_method_47_code

def yX10_riverClause : MethodName := ⟨RX10, "riverClause", "(I)V"⟩

abbrev cX10_lay : ByteArray := prog_12_method_48_code

def yX10_lay : MethodName := ⟨RX10, "lay", "([I[I)V"⟩

abbrev cX10_goesOn : ByteArray := prog_12_method_49_code

def yX10_goesOn : MethodName := ⟨RX10, "goesOn", "()Z"⟩

abbrev cX10_starts : ByteArray := prog_12_method_50_code

def yX10_starts : MethodName := ⟨RX10, "starts", "()V"⟩

abbrev cX10_begins : ByteArray := prog_12_method_51_code

def yX10_begins : MethodName := ⟨RX10, "begins", "()V"⟩

abbrev cX10_river : ByteArray := prog_12_method_52_code

def yX10_river : MethodName := ⟨RX10, "river", "()I"⟩

abbrev cX10_actWord : ByteArray := prog_12_method_53_code

def yX10_actWord : MethodName := ⟨RX10, "actWord", "(I)Ljava/lang/String;"⟩

abbrev cX10_ruleClause : ByteArray := prog_12_method_54_code

def yX10_ruleClause : MethodName := ⟨RX10, "ruleClause", "(I)V"⟩

abbrev cX10_rule : ByteArray := prog_12_method_55_code

def yX10_rule : MethodName := ⟨RX10, "rule", "()I"⟩

abbrev cX10_isRuleOrNone : ByteArray := prog_12_method_56_code

def yX10_isRuleOrNone : MethodName := ⟨RX10, "isRuleOrNone", "(I)Z"⟩

abbrev cX10_force : ByteArray := prog_12_method_57_code

def yX10_force : MethodName := ⟨RX10, "force", "(I)I"⟩

abbrev cX10_bind : ByteArray := prog_12_method_58_code

def yX10_bind : MethodName := ⟨RX10, "bind", "(II)I"⟩

abbrev cX10_law : ByteArray := prog_12_method_59_code

def yX10_law : MethodName := ⟨RX10, "law", "(II)I"⟩

abbrev cX10_orNine : ByteArray := prog_12_method_60_code

def yX10_orNine : MethodName := ⟨RX10, "orNine", "(I)I"⟩

abbrev cX10_asks : ByteArray := prog_12_method_61_code

def yX10_asks : MethodName := ⟨RX10, "asks", "(IIII)V"⟩

abbrev cX10_holds : ByteArray := prog_12_method_62_code

def yX10_holds : MethodName := ⟨RX10, "holds", "(II)Z"⟩

abbrev cX10_firstClause : ByteArray := prog_12_method_63_code

def yX10_firstClause : MethodName := ⟨RX10, "firstClause", "(II)I"⟩

abbrev cX10_truth : ByteArray := prog_12_method_64_code

def yX10_truth : MethodName := ⟨RX10, "truth", "(Z)J"⟩

abbrev cX10_both : ByteArray := prog_12_method_65_code

def yX10_both : MethodName := ⟨RX10, "both", "(IJJ)J"⟩

abbrev cX10_answer : ByteArray := prog_12_method_66_code

def yX10_answer : MethodName := ⟨RX10, "answer", "(III)J"⟩

abbrev cX10_byMost : ByteArray := prog_12_method_67_code

def yX10_byMost : MethodName := ⟨RX10, "byMost", "(I)I"⟩

abbrev cX10_byRule : ByteArray := prog_12_method_68_code

def yX10_byRule : MethodName := ⟨RX10, "byRule", "(I)I"⟩

abbrev cX10_ownerOf : ByteArray := prog_12_method_69_code

def yX10_ownerOf : MethodName := ⟨RX10, "ownerOf", "(I)I"⟩

abbrev cX10_saysOf : ByteArray := prog_12_method_70_code

def yX10_saysOf : MethodName := ⟨RX10, "saysOf", "(IIIII)Z"⟩

abbrev cX10_roomAhead : ByteArray := prog_12_method_71_code

def yX10_roomAhead : MethodName := ⟨RX10, "roomAhead", "(I)I"⟩

abbrev cX10_bend : ByteArray := prog_12_method_72_code

def yX10_bend : MethodName := ⟨RX10, "bend", "(II)I"⟩

abbrev cX10_ownedBy : ByteArray := prog_12_method_73_code

def yX10_ownedBy : MethodName := ⟨RX10, "ownedBy", "(I)I"⟩

abbrev cX10_netOf : ByteArray := prog_12_method_74_code

def yX10_netOf : MethodName := ⟨RX10, "netOf", "(I)I"⟩

abbrev cX10_village : ByteArray := prog_12_method_75_code

def yX10_village : MethodName := ⟨RX10, "village", "(II)I"⟩

abbrev cX10_placeInOrder : ByteArray := prog_12_method_76_code

def yX10_placeInOrder : MethodName := ⟨RX10, "placeInOrder", "(I)I"⟩

abbrev cX10_log : ByteArray := prog_12_method_77_code

def yX10_log : MethodName := ⟨RX10, "log", "(II)I"⟩

abbrev cX10_notch : ByteArray := prog_12_method_78_code

def yX10_notch : MethodName := ⟨RX10, "notch", "(II)I"⟩

abbrev cX10_mayCut : ByteArray := prog_12_method_79_code

def yX10_mayCut : MethodName := ⟨RX10, "mayCut", "(II)Z"⟩

abbrev cX10_keepsCut : ByteArray := prog_12_method_80_code

def yX10_keepsCut : MethodName := ⟨RX10, "keepsCut", "(IIII)V"⟩

abbrev cX10_cut : ByteArray := prog_12_method_81_code

def yX10_cut : MethodName := ⟨RX10, "cut", "(II)I"⟩

abbrev cX10_cutOver : ByteArray := prog_12_method_82_code

def yX10_cutOver : MethodName := ⟨RX10, "cutOver", "(III)I"⟩

abbrev cX10_undo : ByteArray := prog_12_method_83_code

def yX10_undo : MethodName := ⟨RX10, "undo", "()I"⟩

abbrev cX10_launch : ByteArray := prog_12_method_84_code

def yX10_launch : MethodName := ⟨RX10, "launch", "(I)I"⟩

abbrev cX10_land : ByteArray := prog_12_method_85_code

def yX10_land : MethodName := ⟨RX10, "land", "(II)Z"⟩

abbrev cX10_owes1 : ByteArray := prog_12_method_86_code

def yX10_owes1 : MethodName := ⟨RX10, "owes1", "(III)V"⟩

abbrev cX10_burn : ByteArray := prog_12_method_87_code

def yX10_burn : MethodName := ⟨RX10, "burn", "(I)I"⟩

abbrev cX10_saw : ByteArray := prog_12_method_88_code

def yX10_saw : MethodName := ⟨RX10, "saw", "(II)I"⟩

abbrev cX10_ahead : ByteArray := prog_12_method_89_code

def yX10_ahead : MethodName := ⟨RX10, "ahead", "(II)I"⟩

abbrev cX10_dam : ByteArray := prog_12_method_90_code

def yX10_dam : MethodName := ⟨RX10, "dam", "(I)I"⟩

abbrev cX10_votesOf : ByteArray := prog_12_method_91_code

def yX10_votesOf : MethodName := ⟨RX10, "votesOf", "(IZ)I"⟩

abbrev cX10_votes : ByteArray := prog_12_method_92_code

def yX10_votes : MethodName := ⟨RX10, "votes", "(II)I"⟩

abbrev cX10_appeal : ByteArray := prog_12_method_93_code

def yX10_appeal : MethodName := ⟨RX10, "appeal", "(I)I"⟩

abbrev cX10_elects : ByteArray := prog_12_method_94_code

def yX10_elects : MethodName := ⟨RX10, "elects", "()V"⟩

abbrev cX10_floods : ByteArray := prog_12_method_95_code

def yX10_floods : MethodName := ⟨RX10, "floods", "(I)V"⟩

abbrev cX10_flood : ByteArray := prog_12_method_96_code

def yX10_flood : MethodName := ⟨RX10, "flood", "(I)I"⟩

abbrev cX10_elected : ByteArray := prog_12_method_97_code

def yX10_elected : MethodName := ⟨RX10, "elected", "(I)I"⟩

abbrev cX10_wedding : ByteArray := prog_12_method_98_code

def yX10_wedding : MethodName := ⟨RX10, "wedding", "(I)I"⟩

abbrev cX10_winter : ByteArray := prog_12_method_99_code

def yX10_winter : MethodName := ⟨RX10, "winter", "(I)I"⟩

abbrev cX10_forgetsCounts : ByteArray := prog_12_method_100_code

def yX10_forgetsCounts : MethodName := ⟨RX10, "forgetsCounts", "()V"⟩

abbrev cX10_jams1 : ByteArray := prog_12_method_101_code

def yX10_jams1 : MethodName := ⟨RX10, "jams1", "(I)V"⟩

abbrev cX10_sells : ByteArray := prog_12_method_102_code

def yX10_sells : MethodName := ⟨RX10, "sells", "(I)V"⟩

abbrev cX10_ownerAtMouth : ByteArray := prog_12_method_103_code

def yX10_ownerAtMouth : MethodName := ⟨RX10, "ownerAtMouth", "(I)I"⟩

abbrev cX10_floats1 : ByteArray := prog_12_method_104_code

def yX10_floats1 : MethodName := ⟨RX10, "floats1", "(I)V"⟩

abbrev cX10_goesAll : ByteArray := prog_12_method_105_code

def yX10_goesAll : MethodName := ⟨RX10, "goesAll", "()V"⟩

abbrev cX10_takes1 : ByteArray := prog_12_method_106_code

def yX10_takes1 : MethodName := ⟨RX10, "takes1", "(II)V"⟩

abbrev cX10_worksVillage : ByteArray := prog_12_method_107_code

def yX10_worksVillage : MethodName := ⟨RX10, "worksVillage", "(I)V"⟩

abbrev cX10_keepsPlaces : ByteArray := prog_12_method_108_code

def yX10_keepsPlaces : MethodName := ⟨RX10, "keepsPlaces", "()V"⟩

abbrev cX10_day : ByteArray := prog_12_method_109_code

def yX10_day : MethodName := ⟨RX10, "day", "()V"⟩

abbrev cX10_days : ByteArray := prog_12_method_110_code

def yX10_days : MethodName := ⟨RX10, "days", "(I)I"⟩

abbrev cX10_counted1 : ByteArray := prog_12_method_111_code

def yX10_counted1 : MethodName := ⟨RX10, "counted1", "(I)I"⟩

abbrev cX10_wouldBe : ByteArray := prog_12_method_112_code

def yX10_wouldBe : MethodName := ⟨RX10, "wouldBe", "(I)V"⟩

abbrev cX10_floats : ByteArray := prog_12_method_113_code

def yX10_floats : MethodName := ⟨RX10, "floats", "(II)I"⟩

abbrev cX10_fillsFloating : ByteArray := prog_12_method_114_code

def yX10_fillsFloating : MethodName := ⟨RX10, "fillsFloating", "()V"⟩

abbrev cX10_laysRow : ByteArray := prog_12_method_115_code

def yX10_laysRow : MethodName := ⟨RX10, "laysRow", "(I)Z"⟩

abbrev cX10_findsAhead : ByteArray := prog_12_method_116_code

def yX10_findsAhead : MethodName := ⟨RX10, "findsAhead", "(I)V"⟩

abbrev cX10_letAhead : ByteArray := prog_12_method_117_code

def yX10_letAhead : MethodName := ⟨RX10, "letAhead", "(II)I"⟩

abbrev cX10_stepOfKin : ByteArray := prog_12_method_118_code

def yX10_stepOfKin : MethodName := ⟨RX10, "stepOfKin", "(I)I"⟩

abbrev cX10_kin : ByteArray := prog_12_method_119_code

def yX10_kin : MethodName := ⟨RX10, "kin", "(II)I"⟩

abbrev cX10_kinOf : ByteArray := prog_12_method_120_code

def yX10_kinOf : MethodName := ⟨RX10, "kinOf", "(I)I"⟩

abbrev cX10_was : ByteArray := prog_12_method_121_code

def yX10_was : MethodName := ⟨RX10, "was", "(II)I"⟩

abbrev cX10_atAgo : ByteArray := prog_12_method_122_code

def yX10_atAgo : MethodName := ⟨RX10, "atAgo", "(II)I"⟩

abbrev cX10_wereAtIn : ByteArray := prog_12_method_123_code

def yX10_wereAtIn : MethodName := ⟨RX10, "wereAtIn", "(III)I"⟩

abbrev cX10_wereAt : ByteArray := prog_12_method_124_code

def yX10_wereAt : MethodName := ⟨RX10, "wereAt", "(III)I"⟩

abbrev cX10_likely : ByteArray := prog_12_method_125_code

def yX10_likely : MethodName := ⟨RX10, "likely", "(IIIII)I"⟩

abbrev cX10_sight : ByteArray := prog_12_method_126_code

def yX10_sight : MethodName := ⟨RX10, "sight", "(III)I"⟩

abbrev cX10_whoCould : ByteArray := prog_12_method_127_code

def yX10_whoCould : MethodName := ⟨RX10, "whoCould", "(III)I"⟩

abbrev cX10_parted : ByteArray := prog_12_method_128_code

def yX10_parted : MethodName := ⟨RX10, "parted", "(III)I"⟩

abbrev cX10_owes : ByteArray := prog_12_method_129_code

def yX10_owes : MethodName := ⟨RX10, "owes", "(II)I"⟩

abbrev cX10_payments : ByteArray := prog_12_method_130_code

def yX10_payments : MethodName := ⟨RX10, "payments", "()I"⟩

abbrev cX10_repaid : ByteArray := prog_12_method_131_code

def yX10_repaid : MethodName := ⟨RX10, "repaid", "(III)I"⟩

abbrev cX10_seed : ByteArray := prog_12_method_132_code

def yX10_seed : MethodName := ⟨RX10, "seed", "(I)I"⟩

abbrev cX10_draws : ByteArray := prog_12_method_133_code

def yX10_draws : MethodName := ⟨RX10, "draws", "(I)I"⟩

abbrev cX10_drawn : ByteArray := prog_12_method_134_code

def yX10_drawn : MethodName := ⟨RX10, "drawn", "(IIII)I"⟩

abbrev cX10_countOf : ByteArray := prog_12_method_135_code

def yX10_countOf : MethodName := ⟨RX10, "countOf", "(II)I"⟩

abbrev cX10_count : ByteArray := prog_12_method_136_code

def yX10_count : MethodName := ⟨RX10, "count", "(I)I"⟩

abbrev cX10_carry : ByteArray := prog_12_method_137_code

def yX10_carry : MethodName := ⟨RX10, "carry", "([I)V"⟩

abbrev cX10_carriesAll : ByteArray := prog_12_method_138_code

def yX10_carriesAll : MethodName := ⟨RX10, "carriesAll", "(IZ)V"⟩

abbrev cX10_keeps : ByteArray := prog_12_method_139_code

def yX10_keeps : MethodName := ⟨RX10, "keeps", "()V"⟩

abbrev cX10_laysBack : ByteArray := prog_12_method_140_code

def yX10_laysBack : MethodName := ⟨RX10, "laysBack", "()V"⟩

abbrev cX10_image : ByteArray := prog_12_method_141_code

def yX10_image : MethodName := ⟨RX10, "image", "(I)I"⟩

abbrev cX10_back : ByteArray := prog_12_method_142_code

def yX10_back : MethodName := ⟨RX10, "back", "(I)I"⟩

def RJx145de : String := "java/io/Serializable"

def TJx145de : u_T := fun k => match k with
  | _ => ("", "", "", false)

def tyJx145de : Nat → FieldType := fun k => match k with
  | _ => .int

abbrev wsJx145de0 : List Cond := u_ws RJx145de TJx145de 0

theorem nmJx145de : ∀ a, a < 0 → ∀ b, b < 0 → a ≠ b → (TJx145de a).2.1 ≠ (TJx145de b).2.1 := by decide +kernel

theorem tyJx145de_ok : ∀ k, k < 0 → parseFieldDescriptor (TJx145de k).2.2.1 = some (tyJx145de k) := by decide +kernel

def RJx9f9b0 : String := "java/lang/CharSequence"

def TJx9f9b0 : u_T := fun k => match k with
  | _ => ("", "", "", false)

def tyJx9f9b0 : Nat → FieldType := fun k => match k with
  | _ => .int

abbrev wsJx9f9b00 : List Cond := u_ws RJx9f9b0 TJx9f9b0 0

theorem nmJx9f9b0 : ∀ a, a < 0 → ∀ b, b < 0 → a ≠ b → (TJx9f9b0 a).2.1 ≠ (TJx9f9b0 b).2.1 := by decide +kernel

theorem tyJx9f9b0_ok : ∀ k, k < 0 → parseFieldDescriptor (TJx9f9b0 k).2.2.1 = some (tyJx9f9b0 k) := by decide +kernel

def RJxb160c : String := "java/lang/Comparable"

def TJxb160c : u_T := fun k => match k with
  | _ => ("", "", "", false)

def tyJxb160c : Nat → FieldType := fun k => match k with
  | _ => .int

abbrev wsJxb160c0 : List Cond := u_ws RJxb160c TJxb160c 0

theorem nmJxb160c : ∀ a, a < 0 → ∀ b, b < 0 → a ≠ b → (TJxb160c a).2.1 ≠ (TJxb160c b).2.1 := by decide +kernel

theorem tyJxb160c_ok : ∀ k, k < 0 → parseFieldDescriptor (TJxb160c k).2.2.1 = some (tyJxb160c k) := by decide +kernel

def RJ6 : String := "java/lang/Integer"

def TJ6 : u_T := fun k => match k with
  | _ => ("", "", "", false)

def tyJ6 : Nat → FieldType := fun k => match k with
  | _ => .int

abbrev wsJ60 : List Cond := u_ws RJ6 TJ6 0

theorem nmJ6 : ∀ a, a < 0 → ∀ b, b < 0 → a ≠ b → (TJ6 a).2.1 ≠ (TJ6 b).2.1 := by decide +kernel

theorem tyJ6_ok : ∀ k, k < 0 → parseFieldDescriptor (TJ6 k).2.2.1 = some (tyJ6 k) := by decide +kernel

abbrev cJ6_bitCount_0f7a4 : ByteArray := prog_13_method_49_code

def yJ6_bitCount_0f7a4 : MethodName := ⟨RJ6, "bitCount", "(I)I"⟩

def RJ9 : String := "java/lang/Math"

def TJ9 : u_T := fun k => match k with
  | _ => ("", "", "", false)

def tyJ9 : Nat → FieldType := fun k => match k with
  | _ => .int

abbrev wsJ90 : List Cond := u_ws RJ9 TJ9 0

theorem nmJ9 : ∀ a, a < 0 → ∀ b, b < 0 → a ≠ b → (TJ9 a).2.1 ≠ (TJ9 b).2.1 := by decide +kernel

theorem tyJ9_ok : ∀ k, k < 0 → parseFieldDescriptor (TJ9 k).2.2.1 = some (tyJ9 k) := by decide +kernel

abbrev cJ9_floorMod_7cf53 : ByteArray := prog_14_method_50_code

def yJ9_floorMod_7cf53 : MethodName := ⟨RJ9, "floorMod", "(II)I"⟩

abbrev cJ9_max_7cf53 : ByteArray := prog_14_method_65_code

def yJ9_max_7cf53 : MethodName := ⟨RJ9, "max", "(II)I"⟩

abbrev cJ9_min_7cf53 : ByteArray := prog_14_method_69_code

def yJ9_min_7cf53 : MethodName := ⟨RJ9, "min", "(II)I"⟩

def RJ0 : String := "java/lang/String"

def TJ0 : u_T := fun k => match k with
  | _ => ("", "", "", false)

def tyJ0 : Nat → FieldType := fun k => match k with
  | _ => .int

abbrev wsJ00 : List Cond := u_ws RJ0 TJ0 0

theorem nmJ0 : ∀ a, a < 0 → ∀ b, b < 0 → a ≠ b → (TJ0 a).2.1 ≠ (TJ0 b).2.1 := by decide +kernel

theorem tyJ0_ok : ∀ k, k < 0 → parseFieldDescriptor (TJ0 k).2.2.1 = some (tyJ0 k) := by decide +kernel

abbrev cJ0_length_8abf5 : ByteArray := prog_15_method_54_code

def yJ0_length_8abf5 : MethodName := ⟨RJ0, "length", "()I"⟩

abbrev cJ0_charAt_5068e : ByteArray := prog_15_method_56_code

def yJ0_charAt_5068e : MethodName := ⟨RJ0, "charAt", "(I)C"⟩

abbrev cJ0_coder_7d493 : ByteArray := prog_15_method_152_code

def yJ0_coder_7d493 : MethodName := ⟨RJ0, "coder", "()B"⟩

abbrev cJ0_isLatin1_aae02 : ByteArray := prog_15_method_154_code

def yJ0_isLatin1_aae02 : MethodName := ⟨RJ0, "isLatin1", "()Z"⟩

abbrev cJ0_checkIndex_df160 : ByteArray := prog_15_method_155_code

def yJ0_checkIndex_df160 : MethodName := ⟨RJ0, "checkIndex", "(II)V"⟩

def RJ1 : String := "java/lang/StringLatin1"

def TJ1 : u_T := fun k => match k with
  | _ => ("", "", "", false)

def tyJ1 : Nat → FieldType := fun k => match k with
  | _ => .int

abbrev wsJ10 : List Cond := u_ws RJ1 TJ1 0

theorem nmJ1 : ∀ a, a < 0 → ∀ b, b < 0 → a ≠ b → (TJ1 a).2.1 ≠ (TJ1 b).2.1 := by decide +kernel

theorem tyJ1_ok : ∀ k, k < 0 → parseFieldDescriptor (TJ1 k).2.2.1 = some (tyJ1 k) := by decide +kernel

abbrev cJ1_charAt_3b067 : ByteArray := prog_16_method_2_code

def yJ1_charAt_3b067 : MethodName := ⟨RJ1, "charAt", "([BI)C"⟩

def RJ2 : String := "java/lang/StringUTF16"

def TJ2 : u_T := fun k => match k with
  | _ => ("", "", "", false)

def tyJ2 : Nat → FieldType := fun k => match k with
  | _ => .int

abbrev wsJ20 : List Cond := u_ws RJ2 TJ2 0

theorem nmJ2 : ∀ a, a < 0 → ∀ b, b < 0 → a ≠ b → (TJ2 a).2.1 ≠ (TJ2 b).2.1 := by decide +kernel

theorem tyJ2_ok : ∀ k, k < 0 → parseFieldDescriptor (TJ2 k).2.2.1 = some (tyJ2 k) := by decide +kernel

abbrev cJ2_getChar_3b067 : ByteArray := prog_17_method_5_code

def yJ2_getChar_3b067 : MethodName := ⟨RJ2, "getChar", "([BI)C"⟩

abbrev cJ2_length_9d52b : ByteArray := prog_17_method_6_code

def yJ2_length_9d52b : MethodName := ⟨RJ2, "length", "([B)I"⟩

abbrev cJ2_charAt_3b067 : ByteArray := prog_17_method_83_code

def yJ2_charAt_3b067 : MethodName := ⟨RJ2, "charAt", "([BI)C"⟩

abbrev cJ2_checkIndex_2214a : ByteArray := prog_17_method_91_code

def yJ2_checkIndex_2214a : MethodName := ⟨RJ2, "checkIndex", "(I[B)V"⟩

def RJ10 : String := "java/lang/System"

def TJ10 : u_T := fun k => match k with
  | _ => ("", "", "", false)

def tyJ10 : Nat → FieldType := fun k => match k with
  | _ => .int

abbrev wsJ100 : List Cond := u_ws RJ10 TJ10 0

theorem nmJ10 : ∀ a, a < 0 → ∀ b, b < 0 → a ≠ b → (TJ10 a).2.1 ≠ (TJ10 b).2.1 := by decide +kernel

theorem tyJ10_ok : ∀ k, k < 0 → parseFieldDescriptor (TJ10 k).2.2.1 = some (tyJ10 k) := by decide +kernel

def RJxfd54e : String := "java/lang/constant/Constable"

def TJxfd54e : u_T := fun k => match k with
  | _ => ("", "", "", false)

def tyJxfd54e : Nat → FieldType := fun k => match k with
  | _ => .int

abbrev wsJxfd54e0 : List Cond := u_ws RJxfd54e TJxfd54e 0

theorem nmJxfd54e : ∀ a, a < 0 → ∀ b, b < 0 → a ≠ b → (TJxfd54e a).2.1 ≠ (TJxfd54e b).2.1 := by decide +kernel

theorem tyJxfd54e_ok : ∀ k, k < 0 → parseFieldDescriptor (TJxfd54e k).2.2.1 = some (tyJxfd54e k) := by decide +kernel

def RJx3cf43 : String := "java/lang/constant/ConstantDesc"

def TJx3cf43 : u_T := fun k => match k with
  | _ => ("", "", "", false)

def tyJx3cf43 : Nat → FieldType := fun k => match k with
  | _ => .int

abbrev wsJx3cf430 : List Cond := u_ws RJx3cf43 TJx3cf43 0

theorem nmJx3cf43 : ∀ a, a < 0 → ∀ b, b < 0 → a ≠ b → (TJx3cf43 a).2.1 ≠ (TJx3cf43 b).2.1 := by decide +kernel

theorem tyJx3cf43_ok : ∀ k, k < 0 → parseFieldDescriptor (TJx3cf43 k).2.2.1 = some (tyJx3cf43 k) := by decide +kernel

def RJ7 : String := "java/util/Arrays"

def TJ7 : u_T := fun k => match k with
  | _ => ("", "", "", false)

def tyJ7 : Nat → FieldType := fun k => match k with
  | _ => .int

abbrev wsJ70 : List Cond := u_ws RJ7 TJ7 0

theorem nmJ7 : ∀ a, a < 0 → ∀ b, b < 0 → a ≠ b → (TJ7 a).2.1 ≠ (TJ7 b).2.1 := by decide +kernel

theorem tyJ7_ok : ∀ k, k < 0 → parseFieldDescriptor (TJ7 k).2.2.1 = some (tyJ7 k) := by decide +kernel

abbrev cJ7_fill_53178 : ByteArray := prog_19_method_103_code

def yJ7_fill_53178 : MethodName := ⟨RJ7, "fill", "([II)V"⟩

def RJ3 : String := "jdk/internal/util/Preconditions"

def TJ3 : u_T := fun k => match k with
  | _ => ("", "", "", false)

def tyJ3 : Nat → FieldType := fun k => match k with
  | _ => .int

abbrev wsJ30 : List Cond := u_ws RJ3 TJ3 0

theorem nmJ3 : ∀ a, a < 0 → ∀ b, b < 0 → a ≠ b → (TJ3 a).2.1 ≠ (TJ3 b).2.1 := by decide +kernel

theorem tyJ3_ok : ∀ k, k < 0 → parseFieldDescriptor (TJ3 k).2.2.1 = some (tyJ3 k) := by decide +kernel

abbrev cJ3_checkIndex_8e157 : ByteArray := prog_20_method_11_code

def yJ3_checkIndex_8e157 : MethodName := ⟨RJ3, "checkIndex", "(IILjava/util/function/BiFunction;)I"⟩

def RL : String := "RaftForestLaw"

abbrev cL_law : ByteArray := code

def yL_law : MethodName := ⟨RL, "law", "([I)Z"⟩

abbrev vwCl : List vw_C := [(RX0, TX0, 17), (RX1, TX1, 4), (RX2, TX2, 12), (RX3, TX3, 3), (RX4, TX4, 6), (RX5, TX5, 2), (RX6, TX6, 15), (RX7, TX7, 6), (RX8, TX8, 9), (RX9, TX9, 12), (RX10, TX10, 80)]

