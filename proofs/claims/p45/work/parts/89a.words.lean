theorem wd_1397 : (Cond.methodLink RX10 375 yX10_riverClause : Cond) ∈ wsB := wt6 (List.mem_of_getElem? (i := 197) rfl) rfl
theorem wd_1399 : (Cond.instanceMethod yX10_riverClause : Cond) ∈ wsB := wt6 (List.mem_of_getElem? (i := 199) rfl) rfl
theorem wd_1400 : (Cond.code yX10_riverClause cX10_riverClause 4 none : Cond) ∈ wsB := wt6 (List.mem_of_getElem? (i := 200) rfl) rfl
theorem wd_1462 : (Cond.methodLink RX10 381 yX10_begins : Cond) ∈ wsB := wt7 (List.mem_of_getElem? (i := 22) rfl) rfl
theorem wd_1464 : (Cond.instanceMethod yX10_begins : Cond) ∈ wsB := wt7 (List.mem_of_getElem? (i := 24) rfl) rfl
theorem wd_1465 : (Cond.code yX10_begins cX10_begins 2 none : Cond) ∈ wsB := wt7 (List.mem_of_getElem? (i := 25) rfl) rfl
def Lwp_30 : List (Nat × Cond) := [(30, Cond.selects RX10 yX10_riverClause yX10_riverClause), (42, Cond.selects RX10 yX10_begins yX10_begins)]
set_option maxRecDepth 100000 in
theorem Lwp_30_ok : ∀ q ∈ Lwp_30, (k2_sels lw_privs)[q.1]? = some q.2 ∧ goodWord q.2 = true := by decide +kernel
theorem wp_30 : (Cond.selects RX10 yX10_riverClause yX10_riverClause : Cond) ∈ wsB := wpq Lwp_30_ok 0 rfl
theorem wp_42 : (Cond.selects RX10 yX10_begins yX10_begins : Cond) ∈ wsB := wpq Lwp_30_ok 1 rfl
theorem mlX10_375 : LV RX10 375 yX10_riverClause cX10_riverClause 4 none 1 := ⟨wd_1397, wd_1399, wp_30, wd_11, wd_1400, ⟨by decide, by decide, by decide +kernel⟩⟩
theorem mlX10_381 : LV RX10 381 yX10_begins cX10_begins 2 none 0 := ⟨wd_1462, wd_1464, wp_42, wd_11, wd_1465, ⟨by decide, by decide, by decide +kernel⟩⟩
def dtX10_river : List (Nat × Instr × Nat) := [(0, .aload_n 0, 1), (1, .invokevirtual 372, 3), (4, .aload_n 0, 1), (5, .iconst 0, 1), (6, .putfield 354, 3), (9, .iconst 0, 1), (10, .istore_n 1, 1), (11, .iload_n 1, 1), (12, .iconst 5, 1), (13, .if_icmp .ge 16, 3), (16, .aload_n 0, 1), (17, .getfield 94, 3), (20, .iload_n 1, 1), (21, .iconst 0, 1), (22, .iastore, 1), (23, .iinc 1 1, 3), (26, .goto (-15), 3), (29, .iconst 0, 1), (30, .istore_n 1, 1), (31, .iload_n 1, 1), (32, .bipush 9, 2), (34, .if_icmp .ge 17, 3), (37, .aload_n 0, 1), (38, .getfield 97, 3), (41, .iload_n 1, 1), (42, .bipush 9, 2), (44, .iastore, 1), (45, .iinc 1 1, 3), (48, .goto (-17), 3), (51, .iconst 0, 1), (52, .istore_n 1, 1), (53, .iconst 1, 1), (54, .istore_n 2, 1), (55, .iload_n 2, 1), (56, .ifCond .eq 19, 3), (59, .aload_n 0, 1), (60, .iload_n 1, 1), (61, .invokevirtual 375, 3), (64, .iinc 1 1, 3), (67, .aload_n 0, 1), (68, .invokevirtual 378, 3), (71, .istore_n 2, 1), (72, .goto (-17), 3), (75, .aload_n 0, 1), (76, .iconst 0, 1), (77, .putfield 216, 3), (80, .aload_n 0, 1), (81, .getfield 246, 3), (84, .ifCond .le 11, 3), (87, .bipush (-2), 2), (89, .aload_n 0, 1), (90, .getfield 246, 3), (93, .isub, 1), (94, .ireturn, 1), (95, .aload_n 0, 1), (96, .invokevirtual 381, 3), (99, .aload_n 0, 1), (100, .getfield 9, 3), (103, .iconst 3, 1), (104, .iaload, 1), (105, .ireturn, 1)]
set_option maxRecDepth 100000 in
theorem tX10_river : ∀ q ∈ dtX10_river, decode cX10_river q.1 = .ok (q.2.1, q.2.2) := by decide +kernel
