theorem wd_1164 : (Cond.fieldLink RX10 94 "RaftForestModel" "newScalar" "[I" : Cond) ∈ wsB := wt5 (List.mem_of_getElem? (i := 204) rfl) rfl
theorem wd_1165 : (Cond.fieldLink RX10 97 "RaftForestModel" "newWidth" "[I" : Cond) ∈ wsB := wt5 (List.mem_of_getElem? (i := 205) rfl) rfl
theorem wd_1166 : (Cond.fieldLink RX10 100 "RaftForestModel" "newPrice" "[I" : Cond) ∈ wsB := wt5 (List.mem_of_getElem? (i := 206) rfl) rfl
theorem wd_1167 : (Cond.fieldLink RX10 103 "RaftForestModel" "newBend" "[I" : Cond) ∈ wsB := wt5 (List.mem_of_getElem? (i := 207) rfl) rfl
theorem wd_1168 : (Cond.fieldLink RX10 106 "RaftForestModel" "newWood" "[I" : Cond) ∈ wsB := wt5 (List.mem_of_getElem? (i := 208) rfl) rfl
theorem wd_1169 : (Cond.fieldLink RX10 109 "RaftForestModel" "newLength" "[I" : Cond) ∈ wsB := wt5 (List.mem_of_getElem? (i := 209) rfl) rfl
theorem wd_1170 : (Cond.fieldLink RX10 112 "RaftForestModel" "newRings" "[I" : Cond) ∈ wsB := wt5 (List.mem_of_getElem? (i := 210) rfl) rfl
theorem wd_1171 : (Cond.fieldLink RX10 115 "RaftForestModel" "newFelled" "[I" : Cond) ∈ wsB := wt5 (List.mem_of_getElem? (i := 211) rfl) rfl
theorem wd_1182 : (Cond.fieldLink RX10 354 "RaftForestModel" "isTollTold" "Z" : Cond) ∈ wsB := wt5 (List.mem_of_getElem? (i := 222) rfl) rfl
theorem wd_1436 : (Cond.methodLink RX10 347 yX10_amount : Cond) ∈ wsB := wt6 (List.mem_of_getElem? (i := 236) rfl) rfl
theorem wd_1438 : (Cond.instanceMethod yX10_amount : Cond) ∈ wsB := wt6 (List.mem_of_getElem? (i := 238) rfl) rfl
theorem wd_1439 : (Cond.code yX10_amount cX10_amount 5 (some .int) : Cond) ∈ wsB := wt6 (List.mem_of_getElem? (i := 239) rfl) rfl
theorem wd_1454 : (Cond.methodLink RX10 351 yX10_readsLog : Cond) ∈ wsB := wt7 (List.mem_of_getElem? (i := 14) rfl) rfl
theorem wd_1456 : (Cond.instanceMethod yX10_readsLog : Cond) ∈ wsB := wt7 (List.mem_of_getElem? (i := 16) rfl) rfl
theorem wd_1457 : (Cond.code yX10_readsLog cX10_readsLog 2 none : Cond) ∈ wsB := wt7 (List.mem_of_getElem? (i := 17) rfl) rfl
def Lwp_37 : List (Nat × Cond) := [(37, Cond.selects RX10 yX10_amount yX10_amount), (40, Cond.selects RX10 yX10_readsLog yX10_readsLog)]
set_option maxRecDepth 100000 in
theorem Lwp_37_ok : ∀ q ∈ Lwp_37, (k2_sels lw_privs)[q.1]? = some q.2 ∧ goodWord q.2 = true := by decide +kernel
theorem wp_37 : (Cond.selects RX10 yX10_amount yX10_amount : Cond) ∈ wsB := wpq Lwp_37_ok 0 rfl
theorem wp_40 : (Cond.selects RX10 yX10_readsLog yX10_readsLog : Cond) ∈ wsB := wpq Lwp_37_ok 1 rfl
theorem glX10_94 : FL RX10 94 10 29 := ⟨RX10, TX10, 80, rfl, inlX10, by decide, wd_1164⟩
theorem glX10_106 : FL RX10 106 10 33 := ⟨RX10, TX10, 80, rfl, inlX10, by decide, wd_1168⟩
theorem mlX10_347 : LV RX10 347 yX10_amount cX10_amount 5 (some .int) 2 := ⟨wd_1436, wd_1438, wp_37, wd_11, wd_1439, ⟨by decide, by decide, by decide +kernel⟩⟩
theorem glX10_109 : FL RX10 109 10 34 := ⟨RX10, TX10, 80, rfl, inlX10, by decide, wd_1169⟩
theorem glX10_112 : FL RX10 112 10 35 := ⟨RX10, TX10, 80, rfl, inlX10, by decide, wd_1170⟩
theorem glX10_115 : FL RX10 115 10 36 := ⟨RX10, TX10, 80, rfl, inlX10, by decide, wd_1171⟩
theorem glX10_103 : FL RX10 103 10 32 := ⟨RX10, TX10, 80, rfl, inlX10, by decide, wd_1167⟩
theorem glX10_97 : FL RX10 97 10 30 := ⟨RX10, TX10, 80, rfl, inlX10, by decide, wd_1165⟩
theorem glX10_100 : FL RX10 100 10 31 := ⟨RX10, TX10, 80, rfl, inlX10, by decide, wd_1166⟩
theorem mlX10_351 : LV RX10 351 yX10_readsLog cX10_readsLog 2 none 0 := ⟨wd_1454, wd_1456, wp_40, wd_11, wd_1457, ⟨by decide, by decide, by decide +kernel⟩⟩
theorem plX10_354 : FP RX10 354 10 47 .boolean := ⟨RX10, TX10, 80, rfl, inlX10, by decide, wd_1182, rfl, by decide +kernel, tyX10, tyX10_ok, nmX10⟩
theorem glX10_354 : FL RX10 354 10 47 := ⟨RX10, TX10, 80, rfl, inlX10, by decide, wd_1182⟩
theorem sX10_29 {b : Nat} (h : isX10 b) : SF b 10 29 (b + 29) := by rcases h with rfl <;> exact ⟨by decide, rfl, rfl, by decide, rfl, rfl⟩
theorem aX10_29 {b : Nat} (h : isX10 b) : AK (b + 29) 0 5 := by rcases h with rfl <;> exact ⟨by decide, rfl, rfl⟩
theorem sX10_33 {b : Nat} (h : isX10 b) : SF b 10 33 (b + 33) := by rcases h with rfl <;> exact ⟨by decide, rfl, rfl, by decide, rfl, rfl⟩
theorem aX10_33 {b : Nat} (h : isX10 b) : AI (b + 33) 12 (-2147483648) 2147483647 := by rcases h with rfl <;> exact ⟨by decide, rfl, rfl, fun _ => ⟨rfl, rfl⟩⟩
theorem sX10_34 {b : Nat} (h : isX10 b) : SF b 10 34 (b + 34) := by rcases h with rfl <;> exact ⟨by decide, rfl, rfl, by decide, rfl, rfl⟩
theorem aX10_34 {b : Nat} (h : isX10 b) : AI (b + 34) 12 (-2147483648) 2147483647 := by rcases h with rfl <;> exact ⟨by decide, rfl, rfl, fun _ => ⟨rfl, rfl⟩⟩
theorem sX10_35 {b : Nat} (h : isX10 b) : SF b 10 35 (b + 35) := by rcases h with rfl <;> exact ⟨by decide, rfl, rfl, by decide, rfl, rfl⟩
theorem aX10_35 {b : Nat} (h : isX10 b) : AI (b + 35) 12 (-2147483648) 2147483647 := by rcases h with rfl <;> exact ⟨by decide, rfl, rfl, fun _ => ⟨rfl, rfl⟩⟩
theorem sX10_36 {b : Nat} (h : isX10 b) : SF b 10 36 (b + 36) := by rcases h with rfl <;> exact ⟨by decide, rfl, rfl, by decide, rfl, rfl⟩
theorem aX10_36 {b : Nat} (h : isX10 b) : AI (b + 36) 12 (-2147483648) 2147483647 := by rcases h with rfl <;> exact ⟨by decide, rfl, rfl, fun _ => ⟨rfl, rfl⟩⟩
theorem sX10_32 {b : Nat} (h : isX10 b) : SF b 10 32 (b + 32) := by rcases h with rfl <;> exact ⟨by decide, rfl, rfl, by decide, rfl, rfl⟩
theorem aX10_32 {b : Nat} (h : isX10 b) : AI (b + 32) 6 (-2147483648) 2147483647 := by rcases h with rfl <;> exact ⟨by decide, rfl, rfl, fun _ => ⟨rfl, rfl⟩⟩
theorem sX10_30 {b : Nat} (h : isX10 b) : SF b 10 30 (b + 30) := by rcases h with rfl <;> exact ⟨by decide, rfl, rfl, by decide, rfl, rfl⟩
theorem aX10_30 {b : Nat} (h : isX10 b) : AI (b + 30) 9 (-2147483648) 2147483647 := by rcases h with rfl <;> exact ⟨by decide, rfl, rfl, fun _ => ⟨rfl, rfl⟩⟩
theorem sX10_31 {b : Nat} (h : isX10 b) : SF b 10 31 (b + 31) := by rcases h with rfl <;> exact ⟨by decide, rfl, rfl, by decide, rfl, rfl⟩
theorem aX10_31 {b : Nat} (h : isX10 b) : AI (b + 31) 4 (-2147483648) 2147483647 := by rcases h with rfl <;> exact ⟨by decide, rfl, rfl, fun _ => ⟨rfl, rfl⟩⟩
theorem sX10_47 {b : Nat} (h : isX10 b) : SI b 10 47 0 1 := by rcases h with rfl <;> exact ⟨by decide, rfl, rfl, by decide, rfl, rfl, rfl⟩
def dtX10_riverWord : List (Nat × Instr × Nat) := [(0, .iload_n 0, 1), (1, .tableswitch 52 0 4 #[35, 39, 42, 46, 49], 35), (36, .ldc_w 342, 3), (39, .areturn, 1), (40, .ldc 231, 2), (42, .areturn, 1), (43, .ldc_w 344, 3), (46, .areturn, 1), (47, .ldc 225, 2), (49, .areturn, 1), (50, .ldc 223, 2), (52, .areturn, 1), (53, .ldc_w 345, 3), (56, .areturn, 1)]
set_option maxRecDepth 100000 in
theorem tX10_riverWord : ∀ q ∈ dtX10_riverWord, decode cX10_riverWord q.1 = .ok (q.2.1, q.2.2) := by decide +kernel
def dtX10_amount : List (Nat × Instr × Nat) := [(0, .aload_n 0, 1), (1, .invokevirtual 268, 3), (4, .aload_n 0, 1), (5, .getfield 249, 3), (8, .istore_n 3, 1), (9, .aload_n 0, 1), (10, .getfield 246, 3), (13, .ifCond .ne 13, 3), (16, .aload_n 0, 1), (17, .ldc_w 292, 3), (20, .invokevirtual 293, 3), (23, .goto 4, 3), (26, .iconst 0, 1), (27, .istore 4, 2), (29, .aload_n 0, 1), (30, .getfield 246, 3), (33, .ifCond .ne 22, 3), (36, .iload 4, 2), (38, .i2l, 1), (39, .iload_n 1, 1), (40, .i2l, 1), (41, .iload_n 2, 1), (42, .i2l, 1), (43, .invokestatic 191, 3), (46, .ifCond .ne 9, 3), (49, .aload_n 0, 1), (50, .iconst 1, 1), (51, .iload_n 3, 1), (52, .invokevirtual 284, 3), (55, .iload 4, 2), (57, .ireturn, 1)]
set_option maxRecDepth 100000 in
theorem tX10_amount : ∀ q ∈ dtX10_amount, decode cX10_amount q.1 = .ok (q.2.1, q.2.2) := by decide +kernel
def dtX10_readsLog : List (Nat × Instr × Nat) := [(0, .aload_n 0, 1), (1, .getfield 94, 3), (4, .iconst 3, 1), (5, .iaload, 1), (6, .istore_n 1, 1), (7, .aload_n 0, 1), (8, .getfield 106, 3), (11, .iload_n 1, 1), (12, .aload_n 0, 1), (13, .iconst 0, 1), (14, .aload_n 0, 1), (15, .getfield 94, 3), (18, .iconst 2, 1), (19, .iaload, 1), (20, .iconst 1, 1), (21, .isub, 1), (22, .invokevirtual 347, 3), (25, .iastore, 1), (26, .aload_n 0, 1), (27, .getfield 109, 3), (30, .iload_n 1, 1), (31, .aload_n 0, 1), (32, .iconst 1, 1), (33, .bipush 99, 2), (35, .invokevirtual 347, 3), (38, .iastore, 1), (39, .aload_n 0, 1), (40, .getfield 112, 3), (43, .iload_n 1, 1), (44, .aload_n 0, 1), (45, .iconst 1, 1), (46, .bipush 99, 2), (48, .invokevirtual 347, 3), (51, .iastore, 1), (52, .aload_n 0, 1), (53, .getfield 115, 3), (56, .iload_n 1, 1), (57, .aload_n 0, 1), (58, .iconst 0, 1), (59, .aload_n 0, 1), (60, .getfield 94, 3), (63, .iconst 1, 1), (64, .iaload, 1), (65, .iconst 1, 1), (66, .isub, 1), (67, .invokevirtual 347, 3), (70, .iastore, 1), (71, .aload_n 0, 1), (72, .getfield 94, 3), (75, .iconst 3, 1), (76, .dup2, 1), (77, .iaload, 1), (78, .iconst 1, 1), (79, .iadd, 1), (80, .iastore, 1), (81, .return_, 1)]
set_option maxRecDepth 100000 in
theorem tX10_readsLog : ∀ q ∈ dtX10_readsLog, decode cX10_readsLog q.1 = .ok (q.2.1, q.2.2) := by decide +kernel
def dtX10_riverPart : List (Nat × Instr × Nat) := [(0, .iload_n 1, 1), (1, .tableswitch 165 0 4 #[35, 51, 88, 127, 158], 35), (36, .aload_n 0, 1), (37, .getfield 94, 3), (40, .iconst 0, 1), (41, .aload_n 0, 1), (42, .iconst 2, 1), (43, .bipush 9, 2), (45, .invokevirtual 347, 3), (48, .iastore, 1), (49, .goto 135, 3), (52, .aload_n 0, 1), (53, .getfield 103, 3), (56, .aload_n 0, 1), (57, .getfield 94, 3), (60, .iconst 1, 1), (61, .iaload, 1), (62, .aload_n 0, 1), (63, .iconst 0, 1), (64, .aload_n 0, 1), (65, .getfield 94, 3), (68, .iconst 0, 1), (69, .iaload, 1), (70, .iconst 1, 1), (71, .isub, 1), (72, .invokevirtual 347, 3), (75, .iastore, 1), (76, .aload_n 0, 1), (77, .getfield 94, 3), (80, .iconst 1, 1), (81, .dup2, 1), (82, .iaload, 1), (83, .iconst 1, 1), (84, .iadd, 1), (85, .iastore, 1), (86, .goto 98, 3), (89, .aload_n 0, 1), (90, .iconst 0, 1), (91, .aload_n 0, 1), (92, .getfield 94, 3), (95, .iconst 0, 1), (96, .iaload, 1), (97, .iconst 1, 1), (98, .isub, 1), (99, .invokevirtual 347, 3), (102, .istore_n 2, 1), (103, .aload_n 0, 1), (104, .iconst 1, 1), (105, .bipush 9, 2), (107, .invokevirtual 347, 3), (110, .istore_n 3, 1), (111, .aload_n 0, 1), (112, .getfield 246, 3), (115, .ifCond .ne 69, 3), (118, .aload_n 0, 1), (119, .getfield 97, 3), (122, .iload_n 2, 1), (123, .iload_n 3, 1), (124, .iastore, 1), (125, .goto 59, 3), (128, .aload_n 0, 1), (129, .getfield 100, 3), (132, .aload_n 0, 1), (133, .getfield 94, 3), (136, .iconst 2, 1), (137, .iaload, 1), (138, .aload_n 0, 1), (139, .iconst 1, 1), (140, .bipush 99, 2), (142, .invokevirtual 347, 3), (145, .iastore, 1), (146, .aload_n 0, 1), (147, .getfield 94, 3), (150, .iconst 2, 1), (151, .dup2, 1), (152, .iaload, 1), (153, .iconst 1, 1), (154, .iadd, 1), (155, .iastore, 1), (156, .goto 28, 3), (159, .aload_n 0, 1), (160, .invokevirtual 351, 3), (163, .goto 21, 3), (166, .aload_n 0, 1), (167, .getfield 94, 3), (170, .iconst 4, 1), (171, .aload_n 0, 1), (172, .iconst 0, 1), (173, .bipush 9, 2), (175, .invokevirtual 347, 3), (178, .iastore, 1), (179, .aload_n 0, 1), (180, .iconst 1, 1), (181, .putfield 354, 3), (184, .return_, 1)]
set_option maxRecDepth 100000 in
theorem tX10_riverPart : ∀ q ∈ dtX10_riverPart, decode cX10_riverPart q.1 = .ok (q.2.1, q.2.2) := by decide +kernel
def dtX10_isFull : List (Nat × Instr × Nat) := [(0, .iload_n 2, 1), (1, .bipush 40, 2), (3, .if_icmp .eq 24, 3), (6, .iload_n 1, 1), (7, .ifCond .ne 7, 3), (10, .iconst 1, 1), (11, .goto 4, 3), (14, .iconst 0, 1), (15, .iload_n 2, 1), (16, .ifCond .ne 7, 3), (19, .iconst 1, 1), (20, .goto 4, 3), (23, .iconst 0, 1), (24, .if_icmp .eq 5, 3), (27, .iconst 1, 1), (28, .ireturn, 1), (29, .iload_n 1, 1), (30, .tableswitch 89 1 5 #[34, 89, 51, 67, 84], 34), (64, .aload_n 0, 1), (65, .getfield 94, 3), (68, .iconst 1, 1), (69, .iaload, 1), (70, .bipush 6, 2), (72, .if_icmp .ne 7, 3), (75, .iconst 1, 1), (76, .goto 4, 3), (79, .iconst 0, 1), (80, .ireturn, 1), (81, .aload_n 0, 1), (82, .getfield 94, 3), (85, .iconst 2, 1), (86, .iaload, 1), (87, .iconst 4, 1), (88, .if_icmp .ne 7, 3), (91, .iconst 1, 1), (92, .goto 4, 3), (95, .iconst 0, 1), (96, .ireturn, 1), (97, .aload_n 0, 1), (98, .getfield 94, 3), (101, .iconst 3, 1), (102, .iaload, 1), (103, .bipush 12, 2), (105, .if_icmp .ne 7, 3), (108, .iconst 1, 1), (109, .goto 4, 3), (112, .iconst 0, 1), (113, .ireturn, 1), (114, .aload_n 0, 1), (115, .getfield 354, 3), (118, .ireturn, 1), (119, .iconst 0, 1), (120, .ireturn, 1)]
set_option maxRecDepth 100000 in
theorem tX10_isFull : ∀ q ∈ dtX10_isFull, decode cX10_isFull q.1 = .ok (q.2.1, q.2.2) := by decide +kernel
