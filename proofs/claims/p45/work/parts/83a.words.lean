theorem wd_4 : (Cond.initialized RX2 : Cond) ∈ wsB := wt1 (List.mem_of_getElem? (i := 4) rfl) rfl
theorem wd_10 : (Cond.initialized RX1 : Cond) ∈ wsB := wt1 (List.mem_of_getElem? (i := 10) rfl) rfl
theorem wd_359 : (Cond.fieldLink RX1 34 "RaftForest$World" "river" "LRaftForest$River;" : Cond) ∈ wsB := wt2 (List.mem_of_getElem? (i := 119) rfl) rfl
theorem wd_361 : (Cond.fieldLink RX1 41 "RaftForest$World" "state" "LRaftForest$State;" : Cond) ∈ wsB := wt2 (List.mem_of_getElem? (i := 121) rfl) rfl
theorem wd_364 : (Cond.fieldLink RX1 45 "RaftForest$World" "books" "LRaftForest$Books;" : Cond) ∈ wsB := wt2 (List.mem_of_getElem? (i := 124) rfl) rfl
theorem wd_405 : (Cond.fieldLink RX1 30 "RaftForest$Image" "made" "Z" : Cond) ∈ wsB := wt2 (List.mem_of_getElem? (i := 165) rfl) rfl
theorem wd_406 : (Cond.fieldLink RX9 424 "RaftForest$Image" "made" "Z" : Cond) ∈ wsB := wt2 (List.mem_of_getElem? (i := 166) rfl) rfl
theorem wd_407 : (Cond.fieldLink RX1 10 "RaftForest$Image" "river" "LRaftForest$River;" : Cond) ∈ wsB := wt2 (List.mem_of_getElem? (i := 167) rfl) rfl
theorem wd_408 : (Cond.fieldLink RX1 19 "RaftForest$Image" "state" "LRaftForest$State;" : Cond) ∈ wsB := wt2 (List.mem_of_getElem? (i := 168) rfl) rfl
theorem wd_409 : (Cond.fieldLink RX1 26 "RaftForest$Image" "books" "LRaftForest$Books;" : Cond) ∈ wsB := wt2 (List.mem_of_getElem? (i := 169) rfl) rfl
theorem wd_426 : (Cond.fieldLink RX9 60 "RaftForest" "images" "[LRaftForest$Image;" : Cond) ∈ wsB := wt2 (List.mem_of_getElem? (i := 186) rfl) rfl
theorem wd_570 : (Cond.instanceMethod yX2_copy : Cond) ∈ wsB := wt3 (List.mem_of_getElem? (i := 90) rfl) rfl
theorem wd_571 : (Cond.selects RX2 yX2_copy yX2_copy : Cond) ∈ wsB := wt3 (List.mem_of_getElem? (i := 91) rfl) rfl
theorem wd_572 : (Cond.code yX2_copy cX2_copy 2 none : Cond) ∈ wsB := wt3 (List.mem_of_getElem? (i := 92) rfl) rfl
theorem wd_1111 : (Cond.methodLink RX9 421 yX1_take : Cond) ∈ wsB := wt5 (List.mem_of_getElem? (i := 151) rfl) rfl
theorem wd_1112 : (Cond.instanceMethod yX1_take : Cond) ∈ wsB := wt5 (List.mem_of_getElem? (i := 152) rfl) rfl
theorem wd_1113 : (Cond.selects RX1 yX1_take yX1_take : Cond) ∈ wsB := wt5 (List.mem_of_getElem? (i := 153) rfl) rfl
theorem wd_1114 : (Cond.code yX1_take cX1_take 2 none : Cond) ∈ wsB := wt5 (List.mem_of_getElem? (i := 154) rfl) rfl
theorem wd_1115 : (Cond.methodLink RX1 37 yX2_copy : Cond) ∈ wsB := wt5 (List.mem_of_getElem? (i := 155) rfl) rfl
theorem wd_1116 : (Cond.methodLink RX1 42 yX6_copy : Cond) ∈ wsB := wt5 (List.mem_of_getElem? (i := 156) rfl) rfl
theorem wd_1117 : (Cond.methodLink RX1 46 yX0_copy : Cond) ∈ wsB := wt5 (List.mem_of_getElem? (i := 157) rfl) rfl
theorem wd_1118 : (Cond.instanceMethod yX0_copy : Cond) ∈ wsB := wt5 (List.mem_of_getElem? (i := 158) rfl) rfl
theorem wd_1119 : (Cond.selects RX0 yX0_copy yX0_copy : Cond) ∈ wsB := wt5 (List.mem_of_getElem? (i := 159) rfl) rfl
theorem wd_1120 : (Cond.code yX0_copy cX0_copy 2 none : Cond) ∈ wsB := wt5 (List.mem_of_getElem? (i := 160) rfl) rfl
theorem wd_1126 : (Cond.methodLink RX9 428 yX1_give : Cond) ∈ wsB := wt5 (List.mem_of_getElem? (i := 166) rfl) rfl
theorem wd_1127 : (Cond.instanceMethod yX1_give : Cond) ∈ wsB := wt5 (List.mem_of_getElem? (i := 167) rfl) rfl
theorem wd_1128 : (Cond.selects RX1 yX1_give yX1_give : Cond) ∈ wsB := wt5 (List.mem_of_getElem? (i := 168) rfl) rfl
theorem wd_1129 : (Cond.code yX1_give cX1_give 2 none : Cond) ∈ wsB := wt5 (List.mem_of_getElem? (i := 169) rfl) rfl
theorem plX1_30 : FP RX1 30 1 0 .boolean := ⟨RX1, TX1, 4, rfl, inlX1, by decide, wd_405, rfl, by decide +kernel, tyX1, tyX1_ok, nmX1⟩
theorem glX1_10 : FL RX1 10 1 1 := ⟨RX1, TX1, 4, rfl, inlX1, by decide, wd_407⟩
theorem glX1_34 : FL RX1 34 8 0 := ⟨RX8, TX8, 9, rfl, inlX8, by decide, wd_359⟩
theorem mlX1_37 : LV RX1 37 yX2_copy cX2_copy 2 none 1 := ⟨wd_1115, wd_570, wd_571, wd_4, wd_572, ⟨by decide, by decide, by decide +kernel⟩⟩
theorem glX1_19 : FL RX1 19 1 2 := ⟨RX1, TX1, 4, rfl, inlX1, by decide, wd_408⟩
theorem glX1_41 : FL RX1 41 8 1 := ⟨RX8, TX8, 9, rfl, inlX8, by decide, wd_361⟩
theorem mlX1_42 : LV RX1 42 yX6_copy cX6_copy 2 none 1 := ⟨wd_1116, wd_915, wd_916, wd_8, wd_917, ⟨by decide, by decide, by decide +kernel⟩⟩
theorem glX1_26 : FL RX1 26 1 3 := ⟨RX1, TX1, 4, rfl, inlX1, by decide, wd_409⟩
theorem glX1_45 : FL RX1 45 8 2 := ⟨RX8, TX8, 9, rfl, inlX8, by decide, wd_364⟩
theorem mlX1_46 : LV RX1 46 yX0_copy cX0_copy 2 none 1 := ⟨wd_1117, wd_1118, wd_1119, wd_9, wd_1120, ⟨by decide, by decide, by decide +kernel⟩⟩
theorem glX9_60 : FL RX9 60 9 7 := ⟨RX9, TX9, 12, rfl, inlX9, by decide, wd_426⟩
theorem mlX9_421 : LV RX9 421 yX1_take cX1_take 2 none 1 := ⟨wd_1111, wd_1112, wd_1113, wd_10, wd_1114, ⟨by decide, by decide, by decide +kernel⟩⟩
theorem glX9_424 : FL RX9 424 1 0 := ⟨RX1, TX1, 4, rfl, inlX1, by decide, wd_406⟩
theorem mlX9_428 : LV RX9 428 yX1_give cX1_give 2 none 1 := ⟨wd_1126, wd_1127, wd_1128, wd_10, wd_1129, ⟨by decide, by decide, by decide +kernel⟩⟩
theorem iX1_2 {b : Nat} (h : isX1 b) : isX6 (b + 9) := by rcases h with rfl | rfl | rfl | rfl <;> decide
theorem iX1_3 {b : Nat} (h : isX1 b) : isX0 (b + 19) := by rcases h with rfl | rfl | rfl | rfl <;> decide
theorem sX1_0 {b : Nat} (h : isX1 b) : SI b 1 0 0 1 := by rcases h with rfl | rfl | rfl | rfl <;> exact ⟨by decide, rfl, rfl, by decide, rfl, rfl, rfl⟩
theorem sX1_1 {b : Nat} (h : isX1 b) : SF b 1 1 (b + 1) := by rcases h with rfl | rfl | rfl | rfl <;> exact ⟨by decide, rfl, rfl, by decide, rfl, rfl⟩
theorem obX2 {b : Nat} (h : isX2 b) : OB b RX2 := by rcases h with rfl | rfl | rfl | rfl | rfl | rfl <;> exact ⟨by decide, rfl, _, _, rfl⟩
theorem sX1_2 {b : Nat} (h : isX1 b) : SF b 1 2 (b + 9) := by rcases h with rfl | rfl | rfl | rfl <;> exact ⟨by decide, rfl, rfl, by decide, rfl, rfl⟩
theorem sX1_3 {b : Nat} (h : isX1 b) : SF b 1 3 (b + 19) := by rcases h with rfl | rfl | rfl | rfl <;> exact ⟨by decide, rfl, rfl, by decide, rfl, rfl⟩
theorem sX9_7 {b : Nat} (h : isX9 b) : SF b 9 7 (2) := by rcases h with rfl <;> exact ⟨by decide, rfl, rfl, by decide, rfl, rfl⟩
theorem aX9_7 {b : Nat} (h : isX9 b) : AK (2) 4 4 := by rcases h with rfl <;> exact ⟨by decide, rfl, rfl⟩
theorem obX1 {b : Nat} (h : isX1 b) : OB b RX1 := by rcases h with rfl | rfl | rfl | rfl <;> exact ⟨by decide, rfl, _, _, rfl⟩
def dtX1_take : List (Nat × Instr × Nat) := [(0, .aload_n 0, 1), (1, .iconst 1, 1), (2, .putfield 30, 3), (5, .aload_n 0, 1), (6, .getfield 10, 3), (9, .aload_n 1, 1), (10, .getfield 34, 3), (13, .invokevirtual 37, 3), (16, .aload_n 0, 1), (17, .getfield 19, 3), (20, .aload_n 1, 1), (21, .getfield 41, 3), (24, .invokevirtual 42, 3), (27, .aload_n 0, 1), (28, .getfield 26, 3), (31, .aload_n 1, 1), (32, .getfield 45, 3), (35, .invokevirtual 46, 3), (38, .return_, 1)]
set_option maxRecDepth 100000 in
theorem tX1_take : ∀ q ∈ dtX1_take, decode cX1_take q.1 = .ok (q.2.1, q.2.2) := by decide +kernel
def dtX1_give : List (Nat × Instr × Nat) := [(0, .aload_n 1, 1), (1, .getfield 34, 3), (4, .aload_n 0, 1), (5, .getfield 10, 3), (8, .invokevirtual 37, 3), (11, .aload_n 1, 1), (12, .getfield 41, 3), (15, .aload_n 0, 1), (16, .getfield 19, 3), (19, .invokevirtual 42, 3), (22, .aload_n 1, 1), (23, .getfield 45, 3), (26, .aload_n 0, 1), (27, .getfield 26, 3), (30, .invokevirtual 46, 3), (33, .return_, 1)]
set_option maxRecDepth 100000 in
theorem tX1_give : ∀ q ∈ dtX1_give, decode cX1_give q.1 = .ok (q.2.1, q.2.2) := by decide +kernel
def dtX9_image : List (Nat × Instr × Nat) := [(0, .iload_n 1, 1), (1, .ifCond .lt 8, 3), (4, .iload_n 1, 1), (5, .iconst 4, 1), (6, .if_icmp .lt 5, 3), (9, .iconst (-1), 1), (10, .ireturn, 1), (11, .aload_n 0, 1), (12, .getfield 60, 3), (15, .iload_n 1, 1), (16, .aaload, 1), (17, .aload_n 0, 1), (18, .getfield 47, 3), (21, .invokevirtual 421, 3), (24, .aload_n 0, 1), (25, .getfield 47, 3), (28, .getfield 100, 3), (31, .getfield 297, 3), (34, .ireturn, 1)]
set_option maxRecDepth 100000 in
theorem tX9_image : ∀ q ∈ dtX9_image, decode cX9_image q.1 = .ok (q.2.1, q.2.2) := by decide +kernel
def dtX9_back : List (Nat × Instr × Nat) := [(0, .iload_n 1, 1), (1, .ifCond .lt 20, 3), (4, .iload_n 1, 1), (5, .iconst 4, 1), (6, .if_icmp .ge 15, 3), (9, .aload_n 0, 1), (10, .getfield 60, 3), (13, .iload_n 1, 1), (14, .aaload, 1), (15, .getfield 424, 3), (18, .ifCond .ne 5, 3), (21, .iconst (-1), 1), (22, .ireturn, 1), (23, .aload_n 0, 1), (24, .getfield 60, 3), (27, .iload_n 1, 1), (28, .aaload, 1), (29, .aload_n 0, 1), (30, .getfield 47, 3), (33, .invokevirtual 428, 3), (36, .aload_n 0, 1), (37, .getfield 47, 3), (40, .getfield 100, 3), (43, .getfield 297, 3), (46, .ireturn, 1)]
set_option maxRecDepth 100000 in
theorem tX9_back : ∀ q ∈ dtX9_back, decode cX9_back q.1 = .ok (q.2.1, q.2.2) := by decide +kernel
