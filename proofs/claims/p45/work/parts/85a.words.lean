theorem wd_39 : (Cond.fieldLink RX3 54 "RaftForest$Tape" "first" "I" : Cond) ∈ wsB := wt1 (List.mem_of_getElem? (i := 39) rfl) rfl
theorem wd_142 : (Cond.fieldLink RX9 93 "RaftForest$RiverReader" "told" "LRaftForest$River;" : Cond) ∈ wsB := wt1 (List.mem_of_getElem? (i := 142) rfl) rfl
theorem wd_420 : (Cond.fieldLink RX9 21 "RaftForest" "riverReader" "LRaftForest$RiverReader;" : Cond) ∈ wsB := wt2 (List.mem_of_getElem? (i := 180) rfl) rfl
theorem wd_472 : (Cond.methodLink RX9 86 yX3_reads : Cond) ∈ wsB := wt2 (List.mem_of_getElem? (i := 232) rfl) rfl
theorem wd_473 : (Cond.instanceMethod yX3_reads : Cond) ∈ wsB := wt2 (List.mem_of_getElem? (i := 233) rfl) rfl
theorem wd_474 : (Cond.selects RX3 yX3_reads yX3_reads : Cond) ∈ wsB := wt2 (List.mem_of_getElem? (i := 234) rfl) rfl
theorem wd_475 : (Cond.code yX3_reads cX3_reads 3 (some .boolean) : Cond) ∈ wsB := wt2 (List.mem_of_getElem? (i := 235) rfl) rfl
theorem wd_476 : (Cond.methodLink RX3 22 yX2_clear : Cond) ∈ wsB := wt2 (List.mem_of_getElem? (i := 236) rfl) rfl
theorem wd_477 : (Cond.instanceMethod yX2_clear : Cond) ∈ wsB := wt2 (List.mem_of_getElem? (i := 237) rfl) rfl
theorem wd_478 : (Cond.selects RX2 yX2_clear yX2_clear : Cond) ∈ wsB := wt2 (List.mem_of_getElem? (i := 238) rfl) rfl
theorem wd_479 : (Cond.code yX2_clear cX2_clear 1 none : Cond) ∈ wsB := wt2 (List.mem_of_getElem? (i := 239) rfl) rfl
theorem wd_483 : (Cond.methodLink RX3 29 yX7_rewind : Cond) ∈ wsB := wt3 (List.mem_of_getElem? (i := 3) rfl) rfl
theorem wd_492 : (Cond.methodLink RX3 36 yX7_wordIn : Cond) ∈ wsB := wt3 (List.mem_of_getElem? (i := 12) rfl) rfl
theorem wd_548 : (Cond.methodLink RX3 44 yX3_isTooMany : Cond) ∈ wsB := wt3 (List.mem_of_getElem? (i := 68) rfl) rfl
theorem wd_550 : (Cond.instanceMethod yX3_isTooMany : Cond) ∈ wsB := wt3 (List.mem_of_getElem? (i := 70) rfl) rfl
theorem wd_551 : (Cond.code yX3_isTooMany cX3_isTooMany 3 (some .boolean) : Cond) ∈ wsB := wt3 (List.mem_of_getElem? (i := 71) rfl) rfl
theorem wd_553 : (Cond.methodLink RX3 51 yX3_readsClause : Cond) ∈ wsB := wt3 (List.mem_of_getElem? (i := 73) rfl) rfl
theorem wd_555 : (Cond.instanceMethod yX3_readsClause : Cond) ∈ wsB := wt3 (List.mem_of_getElem? (i := 75) rfl) rfl
theorem wd_556 : (Cond.code yX3_readsClause cX3_readsClause 4 (some .boolean) : Cond) ∈ wsB := wt3 (List.mem_of_getElem? (i := 76) rfl) rfl
theorem wd_569 : (Cond.methodLink RX9 96 yX2_copy : Cond) ∈ wsB := wt3 (List.mem_of_getElem? (i := 89) rfl) rfl
theorem wd_582 : (Cond.methodLink RX9 104 yX6_start : Cond) ∈ wsB := wt3 (List.mem_of_getElem? (i := 102) rfl) rfl
theorem wd_583 : (Cond.instanceMethod yX6_start : Cond) ∈ wsB := wt3 (List.mem_of_getElem? (i := 103) rfl) rfl
theorem wd_584 : (Cond.selects RX6 yX6_start yX6_start : Cond) ∈ wsB := wt3 (List.mem_of_getElem? (i := 104) rfl) rfl
theorem wd_585 : (Cond.code yX6_start cX6_start 3 none : Cond) ∈ wsB := wt3 (List.mem_of_getElem? (i := 105) rfl) rfl
theorem wd_593 : (Cond.methodLink RX9 113 yX0_start : Cond) ∈ wsB := wt3 (List.mem_of_getElem? (i := 113) rfl) rfl
theorem wd_594 : (Cond.instanceMethod yX0_start : Cond) ∈ wsB := wt3 (List.mem_of_getElem? (i := 114) rfl) rfl
theorem wd_595 : (Cond.selects RX0 yX0_start yX0_start : Cond) ∈ wsB := wt3 (List.mem_of_getElem? (i := 115) rfl) rfl
theorem wd_596 : (Cond.code yX0_start cX0_start 1 none : Cond) ∈ wsB := wt3 (List.mem_of_getElem? (i := 116) rfl) rfl
def Lwp_0 : List (Nat × Cond) := [(0, Cond.selects RX3 yX3_isTooMany yX3_isTooMany), (1, Cond.selects RX3 yX3_readsClause yX3_readsClause)]
set_option maxRecDepth 100000 in
theorem Lwp_0_ok : ∀ q ∈ Lwp_0, (k2_sels lw_privs)[q.1]? = some q.2 ∧ goodWord q.2 = true := by decide +kernel
theorem wp_0 : (Cond.selects RX3 yX3_isTooMany yX3_isTooMany : Cond) ∈ wsB := wpq Lwp_0_ok 0 rfl
theorem wp_1 : (Cond.selects RX3 yX3_readsClause yX3_readsClause : Cond) ∈ wsB := wpq Lwp_0_ok 1 rfl
theorem mlX3_22 : LV RX3 22 yX2_clear cX2_clear 1 none 0 := ⟨wd_476, wd_477, wd_478, wd_4, wd_479, ⟨by decide, by decide, by decide +kernel⟩⟩
theorem mlX3_29 : LV RX3 29 yX7_rewind cX7_rewind 1 none 0 := ⟨wd_483, wd_484, wd_485, wd_2, wd_486, ⟨by decide, by decide, by decide +kernel⟩⟩
theorem mlX3_36 : LV RX3 36 yX7_wordIn cX7_wordIn 6 (some .int) 1 := ⟨wd_492, wd_493, wd_494, wd_2, wd_495, ⟨by decide, by decide, by decide +kernel⟩⟩
theorem mlX3_44 : LV RX3 44 yX3_isTooMany cX3_isTooMany 3 (some .boolean) 2 := ⟨wd_548, wd_550, wp_0, wd_3, wd_551, ⟨by decide, by decide, by decide +kernel⟩⟩
theorem mlX3_51 : LV RX3 51 yX3_readsClause cX3_readsClause 4 (some .boolean) 1 := ⟨wd_553, wd_555, wp_1, wd_3, wd_556, ⟨by decide, by decide, by decide +kernel⟩⟩
theorem glX3_54 : FL RX3 54 7 4 := ⟨RX7, TX7, 6, rfl, inlX7, by decide, wd_39⟩
theorem glX9_21 : FL RX9 21 9 1 := ⟨RX9, TX9, 12, rfl, inlX9, by decide, wd_420⟩
theorem mlX9_86 : LV RX9 86 yX3_reads cX3_reads 3 (some .boolean) 0 := ⟨wd_472, wd_473, wd_474, wd_3, wd_475, ⟨by decide, by decide, by decide +kernel⟩⟩
theorem glX9_93 : FL RX9 93 3 0 := ⟨RX3, TX3, 3, rfl, inlX3, by decide, wd_142⟩
theorem mlX9_96 : LV RX9 96 yX2_copy cX2_copy 2 none 1 := ⟨wd_569, wd_570, wd_571, wd_4, wd_572, ⟨by decide, by decide, by decide +kernel⟩⟩
theorem mlX9_104 : LV RX9 104 yX6_start cX6_start 3 none 1 := ⟨wd_582, wd_583, wd_584, wd_8, wd_585, ⟨by decide, by decide, by decide +kernel⟩⟩
theorem mlX9_113 : LV RX9 113 yX0_start cX0_start 1 none 0 := ⟨wd_593, wd_594, wd_595, wd_9, wd_596, ⟨by decide, by decide, by decide +kernel⟩⟩
theorem sX9_1 {b : Nat} (h : isX9 b) : SF b 9 1 (9) := by rcases h with rfl <;> exact ⟨by decide, rfl, rfl, by decide, rfl, rfl⟩
def dtX3_reads : List (Nat × Instr × Nat) := [(0, .aload_n 0, 1), (1, .getfield 12, 3), (4, .invokevirtual 22, 3), (7, .aload_n 0, 1), (8, .iconst 0, 1), (9, .putfield 25, 3), (12, .aload_n 0, 1), (13, .getfield 18, 3), (16, .invokevirtual 29, 3), (19, .iconst 0, 1), (20, .istore_n 1, 1), (21, .iload_n 1, 1), (22, .bipush 40, 2), (24, .if_icmp .gt 115, 3), (27, .aload_n 0, 1), (28, .getfield 18, 3), (31, .ldc 34, 2), (33, .invokevirtual 36, 3), (36, .istore_n 2, 1), (37, .iload_n 2, 1), (38, .iconst (-1), 1), (39, .if_icmp .ne 12, 3), (42, .aload_n 0, 1), (43, .getfield 18, 3), (46, .iconst 0, 1), (47, .invokevirtual 40, 3), (50, .ireturn, 1), (51, .iload_n 1, 1), (52, .bipush 40, 2), (54, .if_icmp .eq 12, 3), (57, .aload_n 0, 1), (58, .iload_n 2, 1), (59, .iload_n 1, 1), (60, .invokevirtual 44, 3), (63, .ifCond .eq 12, 3), (66, .aload_n 0, 1), (67, .getfield 18, 3), (70, .iconst 4, 1), (71, .invokevirtual 40, 3), (74, .ireturn, 1), (75, .aload_n 0, 1), (76, .getfield 18, 3), (79, .invokevirtual 48, 3), (82, .aload_n 0, 1), (83, .iload_n 2, 1), (84, .invokevirtual 51, 3), (87, .ifCond .ne 5, 3), (90, .iconst 0, 1), (91, .ireturn, 1), (92, .aload_n 0, 1), (93, .getfield 18, 3), (96, .getfield 54, 3), (99, .iconst (-1), 1), (100, .if_icmp .ne 5, 3), (103, .iconst 1, 1), (104, .ireturn, 1), (105, .aload_n 0, 1), (106, .getfield 18, 3), (109, .getfield 54, 3), (112, .bipush 59, 2), (114, .if_icmp .eq 12, 3), (117, .aload_n 0, 1), (118, .getfield 18, 3), (121, .iconst 0, 1), (122, .invokevirtual 40, 3), (125, .ireturn, 1), (126, .aload_n 0, 1), (127, .getfield 18, 3), (130, .invokevirtual 48, 3), (133, .iinc 1 1, 3), (136, .goto (-115), 3), (139, .iconst 0, 1), (140, .ireturn, 1)]
set_option maxRecDepth 100000 in
theorem tX3_reads : ∀ q ∈ dtX3_reads, decode cX3_reads q.1 = .ok (q.2.1, q.2.2) := by decide +kernel
def dtX9_river : List (Nat × Instr × Nat) := [(0, .aload_n 0, 1), (1, .getfield 21, 3), (4, .invokevirtual 86, 3), (7, .istore_n 1, 1), (8, .aload_n 0, 1), (9, .getfield 10, 3), (12, .iconst 0, 1), (13, .putfield 78, 3), (16, .iload_n 1, 1), (17, .ifCond .ne 14, 3), (20, .bipush (-2), 2), (22, .aload_n 0, 1), (23, .getfield 10, 3), (26, .getfield 90, 3), (29, .isub, 1), (30, .ireturn, 1), (31, .aload_n 0, 1), (32, .getfield 47, 3), (35, .getfield 51, 3), (38, .aload_n 0, 1), (39, .getfield 21, 3), (42, .getfield 93, 3), (45, .invokevirtual 96, 3), (48, .aload_n 0, 1), (49, .getfield 47, 3), (52, .getfield 100, 3), (55, .aload_n 0, 1), (56, .getfield 47, 3), (59, .getfield 51, 3), (62, .invokevirtual 104, 3), (65, .aload_n 0, 1), (66, .getfield 47, 3), (69, .getfield 109, 3), (72, .invokevirtual 113, 3), (75, .aload_n 0, 1), (76, .getfield 47, 3), (79, .getfield 51, 3), (82, .getfield 117, 3), (85, .ireturn, 1)]
set_option maxRecDepth 100000 in
theorem tX9_river : ∀ q ∈ dtX9_river, decode cX9_river q.1 = .ok (q.2.1, q.2.2) := by decide +kernel
