theorem wd_5 : (Cond.initialized RX5 : Cond) ∈ wsB := wt1 (List.mem_of_getElem? (i := 5) rfl) rfl
theorem wd_40 : (Cond.fieldLink RX5 67 "RaftForest$Tape" "first" "I" : Cond) ∈ wsB := wt1 (List.mem_of_getElem? (i := 40) rfl) rfl
theorem wd_158 : (Cond.fieldLink RX5 9 "RaftForest$RuleReader" "tape" "LRaftForest$Tape;" : Cond) ∈ wsB := wt1 (List.mem_of_getElem? (i := 158) rfl) rfl
theorem wd_159 : (Cond.fieldLink RX5 20 "RaftForest$RuleReader" "items" "I" : Cond) ∈ wsB := wt1 (List.mem_of_getElem? (i := 159) rfl) rfl
theorem wd_545 : (Cond.instanceMethod yX7_fails : Cond) ∈ wsB := wt3 (List.mem_of_getElem? (i := 65) rfl) rfl
theorem wd_546 : (Cond.selects RX7 yX7_fails yX7_fails : Cond) ∈ wsB := wt3 (List.mem_of_getElem? (i := 66) rfl) rfl
theorem wd_547 : (Cond.code yX7_fails cX7_fails 2 (some .boolean) : Cond) ∈ wsB := wt3 (List.mem_of_getElem? (i := 67) rfl) rfl
theorem wd_562 : (Cond.instanceMethod yX7_isNumber : Cond) ∈ wsB := wt3 (List.mem_of_getElem? (i := 82) rfl) rfl
theorem wd_563 : (Cond.selects RX7 yX7_isNumber yX7_isNumber : Cond) ∈ wsB := wt3 (List.mem_of_getElem? (i := 83) rfl) rfl
theorem wd_564 : (Cond.code yX7_isNumber cX7_isNumber 1 (some .boolean) : Cond) ∈ wsB := wt3 (List.mem_of_getElem? (i := 84) rfl) rfl
theorem wd_566 : (Cond.instanceMethod yX7_number : Cond) ∈ wsB := wt3 (List.mem_of_getElem? (i := 86) rfl) rfl
theorem wd_567 : (Cond.selects RX7 yX7_number yX7_number : Cond) ∈ wsB := wt3 (List.mem_of_getElem? (i := 87) rfl) rfl
theorem wd_568 : (Cond.code yX7_number cX7_number 3 (some .int) : Cond) ∈ wsB := wt3 (List.mem_of_getElem? (i := 88) rfl) rfl
theorem wd_613 : (Cond.methodLink RX5 31 yX7_wordIn : Cond) ∈ wsB := wt3 (List.mem_of_getElem? (i := 133) rfl) rfl
theorem wd_614 : (Cond.methodLink RX5 35 yX7_fails : Cond) ∈ wsB := wt3 (List.mem_of_getElem? (i := 134) rfl) rfl
theorem wd_615 : (Cond.methodLink RX5 39 yX7_pass : Cond) ∈ wsB := wt3 (List.mem_of_getElem? (i := 135) rfl) rfl
theorem wd_628 : (Cond.methodLink RX5 87 yX5_readsValue : Cond) ∈ wsB := wt3 (List.mem_of_getElem? (i := 148) rfl) rfl
theorem wd_630 : (Cond.instanceMethod yX5_readsValue : Cond) ∈ wsB := wt3 (List.mem_of_getElem? (i := 150) rfl) rfl
theorem wd_631 : (Cond.code yX5_readsValue cX5_readsValue 4 (some .boolean) : Cond) ∈ wsB := wt3 (List.mem_of_getElem? (i := 151) rfl) rfl
theorem wd_632 : (Cond.methodLink RX5 90 yX7_isNumber : Cond) ∈ wsB := wt3 (List.mem_of_getElem? (i := 152) rfl) rfl
theorem wd_633 : (Cond.methodLink RX5 93 yX7_number : Cond) ∈ wsB := wt3 (List.mem_of_getElem? (i := 153) rfl) rfl
theorem wd_635 : (Cond.methodLink RX5 60 yX4_write : Cond) ∈ wsB := wt3 (List.mem_of_getElem? (i := 155) rfl) rfl
theorem wd_655 : (Cond.methodLink RX5 83 yX7_isLong : Cond) ∈ wsB := wt3 (List.mem_of_getElem? (i := 175) rfl) rfl
theorem wd_656 : (Cond.instanceMethod yX7_isLong : Cond) ∈ wsB := wt3 (List.mem_of_getElem? (i := 176) rfl) rfl
theorem wd_657 : (Cond.selects RX7 yX7_isLong yX7_isLong : Cond) ∈ wsB := wt3 (List.mem_of_getElem? (i := 177) rfl) rfl
theorem wd_658 : (Cond.code yX7_isLong cX7_isLong 1 (some .boolean) : Cond) ∈ wsB := wt3 (List.mem_of_getElem? (i := 178) rfl) rfl
def Lwp_4 : List (Nat × Cond) := [(4, Cond.selects RX5 yX5_readsValue yX5_readsValue)]
set_option maxRecDepth 100000 in
theorem Lwp_4_ok : ∀ q ∈ Lwp_4, (k2_sels lw_privs)[q.1]? = some q.2 ∧ goodWord q.2 = true := by decide +kernel
theorem wp_4 : (Cond.selects RX5 yX5_readsValue yX5_readsValue : Cond) ∈ wsB := wpq Lwp_4_ok 0 rfl
theorem glX5_9 : FL RX5 9 5 0 := ⟨RX5, TX5, 2, rfl, inlX5, by decide, wd_158⟩
theorem glX5_67 : FL RX5 67 7 4 := ⟨RX7, TX7, 6, rfl, inlX7, by decide, wd_40⟩
theorem mlX5_35 : LV RX5 35 yX7_fails cX7_fails 2 (some .boolean) 1 := ⟨wd_614, wd_545, wd_546, wd_2, wd_547, ⟨by decide, by decide, by decide +kernel⟩⟩
theorem glX5_20 : FL RX5 20 5 1 := ⟨RX5, TX5, 2, rfl, inlX5, by decide, wd_159⟩
theorem plX5_20 : FP RX5 20 5 1 .int := ⟨RX5, TX5, 2, rfl, inlX5, by decide, wd_159, rfl, by decide +kernel, tyX5, tyX5_ok, nmX5⟩
theorem mlX5_39 : LV RX5 39 yX7_pass cX7_pass 4 none 0 := ⟨wd_615, wd_488, wd_489, wd_2, wd_490, ⟨by decide, by decide, by decide +kernel⟩⟩
theorem mlX5_83 : LV RX5 83 yX7_isLong cX7_isLong 1 (some .boolean) 0 := ⟨wd_655, wd_656, wd_657, wd_2, wd_658, ⟨by decide, by decide, by decide +kernel⟩⟩
theorem mlX5_90 : LV RX5 90 yX7_isNumber cX7_isNumber 1 (some .boolean) 0 := ⟨wd_632, wd_562, wd_563, wd_2, wd_564, ⟨by decide, by decide, by decide +kernel⟩⟩
theorem mlX5_31 : LV RX5 31 yX7_wordIn cX7_wordIn 6 (some .int) 1 := ⟨wd_613, wd_493, wd_494, wd_2, wd_495, ⟨by decide, by decide, by decide +kernel⟩⟩
theorem mlX5_60 : LV RX5 60 yX4_write cX4_write 2 none 1 := ⟨wd_635, wd_621, wd_622, wd_6, wd_623, ⟨by decide, by decide, by decide +kernel⟩⟩
theorem mlX5_93 : LV RX5 93 yX7_number cX7_number 3 (some .int) 0 := ⟨wd_633, wd_566, wd_567, wd_2, wd_568, ⟨by decide, by decide, by decide +kernel⟩⟩
theorem mlX5_87 : LV RX5 87 yX5_readsValue cX5_readsValue 4 (some .boolean) 1 := ⟨wd_628, wd_630, wp_4, wd_5, wd_631, ⟨by decide, by decide, by decide +kernel⟩⟩
theorem sX5_0 {b : Nat} (h : isX5 b) : SF b 5 0 (7) := by rcases h with rfl <;> exact ⟨by decide, rfl, rfl, by decide, rfl, rfl⟩
theorem sX5_1 {b : Nat} (h : isX5 b) : SI b 5 1 0 60 := by rcases h with rfl <;> exact ⟨by decide, rfl, rfl, by decide, rfl, rfl, rfl⟩
theorem obX5 {b : Nat} (h : isX5 b) : OB b RX5 := by rcases h with rfl <;> exact ⟨by decide, rfl, _, _, rfl⟩
def dtX7_fails : List (Nat × Instr × Nat) := [(0, .aload_n 0, 1), (1, .iconst 1, 1), (2, .bipush 8, 2), (4, .aload_n 0, 1), (5, .getfield 28, 3), (8, .imul, 1), (9, .iadd, 1), (10, .iload_n 1, 1), (11, .iadd, 1), (12, .putfield 19, 3), (15, .iconst 0, 1), (16, .ireturn, 1)]
set_option maxRecDepth 100000 in
theorem tX7_fails : ∀ q ∈ dtX7_fails, decode cX7_fails q.1 = .ok (q.2.1, q.2.2) := by decide +kernel
def dtX5_readSign : List (Nat × Instr × Nat) := [(0, .iconst (-1), 1), (1, .istore_n 1, 1), (2, .aload_n 0, 1), (3, .getfield 9, 3), (6, .getfield 67, 3), (9, .bipush 60, 2), (11, .if_icmp .ne 24, 3), (14, .aload_n 0, 1), (15, .getfield 9, 3), (18, .invokevirtual 83, 3), (21, .ifCond .eq 8, 3), (24, .bipush 22, 2), (26, .goto 5, 3), (29, .bipush 21, 2), (31, .istore_n 1, 1), (32, .goto 51, 3), (35, .aload_n 0, 1), (36, .getfield 9, 3), (39, .getfield 67, 3), (42, .bipush 62, 2), (44, .if_icmp .ne 24, 3), (47, .aload_n 0, 1), (48, .getfield 9, 3), (51, .invokevirtual 83, 3), (54, .ifCond .eq 8, 3), (57, .bipush 24, 2), (59, .goto 5, 3), (62, .bipush 25, 2), (64, .istore_n 1, 1), (65, .goto 18, 3), (68, .aload_n 0, 1), (69, .getfield 9, 3), (72, .getfield 67, 3), (75, .bipush 61, 2), (77, .if_icmp .ne 6, 3), (80, .bipush 23, 2), (82, .istore_n 1, 1), (83, .iload_n 1, 1), (84, .iconst (-1), 1), (85, .if_icmp .eq 12, 3), (88, .aload_n 0, 1), (89, .getfield 20, 3), (92, .bipush 60, 2), (94, .if_icmp .lt 23, 3), (97, .aload_n 0, 1), (98, .getfield 9, 3), (101, .iload_n 1, 1), (102, .iconst (-1), 1), (103, .if_icmp .ne 7, 3), (106, .iconst 0, 1), (107, .goto 4, 3), (110, .iconst 3, 1), (111, .invokevirtual 35, 3), (114, .pop, 1), (115, .iconst (-1), 1), (116, .ireturn, 1), (117, .aload_n 0, 1), (118, .dup, 1), (119, .getfield 20, 3), (122, .iconst 1, 1), (123, .iadd, 1), (124, .putfield 20, 3), (127, .aload_n 0, 1), (128, .getfield 9, 3), (131, .invokevirtual 39, 3), (134, .iload_n 1, 1), (135, .ireturn, 1)]
set_option maxRecDepth 100000 in
theorem tX5_readSign : ∀ q ∈ dtX5_readSign, decode cX5_readSign q.1 = .ok (q.2.1, q.2.2) := by decide +kernel
def dtX5_readsValue : List (Nat × Instr × Nat) := [(0, .aload_n 0, 1), (1, .getfield 9, 3), (4, .invokevirtual 90, 3), (7, .ifCond .eq 32, 3), (10, .aload_n 0, 1), (11, .getfield 9, 3), (14, .invokevirtual 93, 3), (17, .istore_n 3, 1), (18, .iload_n 3, 1), (19, .iconst (-1), 1), (20, .if_icmp .ne 12, 3), (23, .aload_n 0, 1), (24, .getfield 9, 3), (27, .iconst 1, 1), (28, .invokevirtual 35, 3), (31, .ireturn, 1), (32, .iconst (-1), 1), (33, .iload_n 3, 1), (34, .isub, 1), (35, .istore_n 2, 1), (36, .goto 27, 3), (39, .aload_n 0, 1), (40, .getfield 9, 3), (43, .ldc 96, 2), (45, .invokevirtual 31, 3), (48, .istore_n 2, 1), (49, .iload_n 2, 1), (50, .iconst (-1), 1), (51, .if_icmp .ne 12, 3), (54, .aload_n 0, 1), (55, .getfield 9, 3), (58, .iconst 0, 1), (59, .invokevirtual 35, 3), (62, .ireturn, 1), (63, .aload_n 0, 1), (64, .getfield 20, 3), (67, .bipush 60, 2), (69, .if_icmp .lt 12, 3), (72, .aload_n 0, 1), (73, .getfield 9, 3), (76, .iconst 3, 1), (77, .invokevirtual 35, 3), (80, .ireturn, 1), (81, .aload_n 0, 1), (82, .dup, 1), (83, .getfield 20, 3), (86, .iconst 1, 1), (87, .iadd, 1), (88, .putfield 20, 3), (91, .aload_n 0, 1), (92, .getfield 9, 3), (95, .invokevirtual 39, 3), (98, .aload_n 1, 1), (99, .iload_n 2, 1), (100, .invokevirtual 60, 3), (103, .iconst 1, 1), (104, .ireturn, 1)]
set_option maxRecDepth 100000 in
theorem tX5_readsValue : ∀ q ∈ dtX5_readsValue, decode cX5_readsValue q.1 = .ok (q.2.1, q.2.2) := by decide +kernel
def dtX5_readsSum : List (Nat × Instr × Nat) := [(0, .iconst (-1), 1), (1, .istore_n 2, 1), (2, .iconst (-1), 1), (3, .istore_n 3, 1), (4, .iconst 0, 1), (5, .istore 4, 2), (7, .iload 4, 2), (9, .bipush 61, 2), (11, .if_icmp .ge 147, 3), (14, .aload_n 0, 1), (15, .aload_n 1, 1), (16, .invokevirtual 87, 3), (19, .ifCond .ne 5, 3), (22, .iconst 0, 1), (23, .ireturn, 1), (24, .iload_n 2, 1), (25, .iconst (-1), 1), (26, .if_icmp .eq 8, 3), (29, .aload_n 1, 1), (30, .iload_n 2, 1), (31, .invokevirtual 60, 3), (34, .aload_n 0, 1), (35, .getfield 9, 3), (38, .getfield 67, 3), (41, .bipush 42, 2), (43, .if_icmp .ne 8, 3), (46, .bipush 18, 2), (48, .goto 38, 3), (51, .aload_n 0, 1), (52, .getfield 9, 3), (55, .getfield 67, 3), (58, .bipush 47, 2), (60, .if_icmp .ne 8, 3), (63, .bipush 19, 2), (65, .goto 21, 3), (68, .aload_n 0, 1), (69, .getfield 9, 3), (72, .getfield 67, 3), (75, .bipush 37, 2), (77, .if_icmp .ne 8, 3), (80, .bipush 20, 2), (82, .goto 4, 3), (85, .iconst (-1), 1), (86, .istore_n 2, 1), (87, .iload_n 2, 1), (88, .iconst (-1), 1), (89, .if_icmp .ne 56, 3), (92, .iload_n 3, 1), (93, .iconst (-1), 1), (94, .if_icmp .eq 8, 3), (97, .aload_n 1, 1), (98, .iload_n 3, 1), (99, .invokevirtual 60, 3), (102, .aload_n 0, 1), (103, .getfield 9, 3), (106, .getfield 67, 3), (109, .bipush 43, 2), (111, .if_icmp .ne 8, 3), (114, .bipush 16, 2), (116, .goto 21, 3), (119, .aload_n 0, 1), (120, .getfield 9, 3), (123, .getfield 67, 3), (126, .bipush 45, 2), (128, .if_icmp .ne 8, 3), (131, .bipush 17, 2), (133, .goto 4, 3), (136, .iconst (-1), 1), (137, .istore_n 3, 1), (138, .iload_n 3, 1), (139, .iconst (-1), 1), (140, .if_icmp .ne 5, 3), (143, .iconst 1, 1), (144, .ireturn, 1), (145, .aload_n 0, 1), (146, .getfield 9, 3), (149, .invokevirtual 39, 3), (152, .iinc 4 1, 3), (155, .goto (-148), 3), (158, .aload_n 0, 1), (159, .getfield 9, 3), (162, .iconst 0, 1), (163, .invokevirtual 35, 3), (166, .ireturn, 1)]
set_option maxRecDepth 100000 in
theorem tX5_readsSum : ∀ q ∈ dtX5_readsSum, decode cX5_readsSum q.1 = .ok (q.2.1, q.2.2) := by decide +kernel
