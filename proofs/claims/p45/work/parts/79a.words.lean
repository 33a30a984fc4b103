theorem wd_1393 : (Cond.methodLink RX10 372 yX10_starts : Cond) ∈ wsB := wt6 (List.mem_of_getElem? (i := 193) rfl) rfl
theorem wd_1395 : (Cond.instanceMethod yX10_starts : Cond) ∈ wsB := wt6 (List.mem_of_getElem? (i := 195) rfl) rfl
theorem wd_1396 : (Cond.code yX10_starts cX10_starts 1 none : Cond) ∈ wsB := wt6 (List.mem_of_getElem? (i := 196) rfl) rfl
theorem wd_1458 : (Cond.methodLink RX10 378 yX10_goesOn : Cond) ∈ wsB := wt7 (List.mem_of_getElem? (i := 18) rfl) rfl
theorem wd_1460 : (Cond.instanceMethod yX10_goesOn : Cond) ∈ wsB := wt7 (List.mem_of_getElem? (i := 20) rfl) rfl
theorem wd_1461 : (Cond.code yX10_goesOn cX10_goesOn 2 (some .boolean) : Cond) ∈ wsB := wt7 (List.mem_of_getElem? (i := 21) rfl) rfl
theorem wd_1473 : (Cond.methodLink RX10 408 yX10_ruleClause : Cond) ∈ wsB := wt7 (List.mem_of_getElem? (i := 33) rfl) rfl
theorem wd_1475 : (Cond.instanceMethod yX10_ruleClause : Cond) ∈ wsB := wt7 (List.mem_of_getElem? (i := 35) rfl) rfl
theorem wd_1476 : (Cond.code yX10_ruleClause cX10_ruleClause 5 none : Cond) ∈ wsB := wt7 (List.mem_of_getElem? (i := 36) rfl) rfl
def Lwp_29 : List (Nat × Cond) := [(29, Cond.selects RX10 yX10_starts yX10_starts), (41, Cond.selects RX10 yX10_goesOn yX10_goesOn), (43, Cond.selects RX10 yX10_ruleClause yX10_ruleClause)]
set_option maxRecDepth 100000 in
theorem Lwp_29_ok : ∀ q ∈ Lwp_29, (k2_sels lw_privs)[q.1]? = some q.2 ∧ goodWord q.2 = true := by decide +kernel
theorem wp_29 : (Cond.selects RX10 yX10_starts yX10_starts : Cond) ∈ wsB := wpq Lwp_29_ok 0 rfl
theorem wp_41 : (Cond.selects RX10 yX10_goesOn yX10_goesOn : Cond) ∈ wsB := wpq Lwp_29_ok 1 rfl
theorem wp_43 : (Cond.selects RX10 yX10_ruleClause yX10_ruleClause : Cond) ∈ wsB := wpq Lwp_29_ok 2 rfl
theorem plX10_275 : FP RX10 275 10 40 .int := ⟨RX10, TX10, 80, rfl, inlX10, by decide, wd_1175, rfl, by decide +kernel, tyX10, tyX10_ok, nmX10⟩
theorem mlX10_372 : LV RX10 372 yX10_starts cX10_starts 1 none 0 := ⟨wd_1393, wd_1395, wp_29, wd_11, wd_1396, ⟨by decide, by decide, by decide +kernel⟩⟩
theorem mlX10_408 : LV RX10 408 yX10_ruleClause cX10_ruleClause 5 none 1 := ⟨wd_1473, wd_1475, wp_43, wd_11, wd_1476, ⟨by decide, by decide, by decide +kernel⟩⟩
theorem mlX10_378 : LV RX10 378 yX10_goesOn cX10_goesOn 2 (some .boolean) 0 := ⟨wd_1458, wd_1460, wp_41, wd_11, wd_1461, ⟨by decide, by decide, by decide +kernel⟩⟩
theorem plX10_216 : FP RX10 216 10 37 .int := ⟨RX10, TX10, 80, rfl, inlX10, by decide, wd_1172, rfl, by decide +kernel, tyX10, tyX10_ok, nmX10⟩
theorem plX10_405 : FP RX10 405 10 41 .int := ⟨RX10, TX10, 80, rfl, inlX10, by decide, wd_1176, rfl, by decide +kernel, tyX10, tyX10_ok, nmX10⟩
def dtX10_rule : List (Nat × Instr × Nat) := [(0, .aload_n 0, 1), (1, .getfield 405, 3), (4, .bipush 6, 2), (6, .if_icmp .ne 5, 3), (9, .iconst (-1), 1), (10, .ireturn, 1), (11, .aload_n 0, 1), (12, .aload_n 0, 1), (13, .getfield 405, 3), (16, .putfield 275, 3), (19, .aload_n 0, 1), (20, .invokevirtual 372, 3), (23, .iconst 0, 1), (24, .istore_n 1, 1), (25, .iconst 1, 1), (26, .istore_n 2, 1), (27, .iload_n 2, 1), (28, .ifCond .eq 19, 3), (31, .aload_n 0, 1), (32, .iload_n 1, 1), (33, .invokevirtual 408, 3), (36, .iinc 1 1, 3), (39, .aload_n 0, 1), (40, .invokevirtual 378, 3), (43, .istore_n 2, 1), (44, .goto (-17), 3), (47, .aload_n 0, 1), (48, .iconst 0, 1), (49, .putfield 216, 3), (52, .aload_n 0, 1), (53, .getfield 132, 3), (56, .aload_n 0, 1), (57, .getfield 275, 3), (60, .iload_n 1, 1), (61, .iastore, 1), (62, .aload_n 0, 1), (63, .dup, 1), (64, .getfield 405, 3), (67, .aload_n 0, 1), (68, .getfield 246, 3), (71, .ifCond .ne 7, 3), (74, .iconst 1, 1), (75, .goto 4, 3), (78, .iconst 0, 1), (79, .iadd, 1), (80, .putfield 405, 3), (83, .aload_n 0, 1), (84, .getfield 246, 3), (87, .ifCond .le 13, 3), (90, .bipush (-2), 2), (92, .aload_n 0, 1), (93, .getfield 246, 3), (96, .isub, 1), (97, .goto 9, 3), (100, .aload_n 0, 1), (101, .getfield 405, 3), (104, .iconst 1, 1), (105, .isub, 1), (106, .ireturn, 1)]
set_option maxRecDepth 100000 in
theorem tX10_rule : ∀ q ∈ dtX10_rule, decode cX10_rule q.1 = .ok (q.2.1, q.2.2) := by decide +kernel
