theorem wd_1493 : (Cond.methodLink RX10 306 yX10_value : Cond) ∈ wsB := wt7 (List.mem_of_getElem? (i := 53) rfl) rfl
theorem wd_1495 : (Cond.instanceMethod yX10_value : Cond) ∈ wsB := wt7 (List.mem_of_getElem? (i := 55) rfl) rfl
theorem wd_1496 : (Cond.code yX10_value cX10_value 3 none : Cond) ∈ wsB := wt7 (List.mem_of_getElem? (i := 56) rfl) rfl
def Lwp_46 : List (Nat × Cond) := [(46, Cond.selects RX10 yX10_value yX10_value)]
set_option maxRecDepth 100000 in
theorem Lwp_46_ok : ∀ q ∈ Lwp_46, (k2_sels lw_privs)[q.1]? = some q.2 ∧ goodWord q.2 = true := by decide +kernel
theorem wp_46 : (Cond.selects RX10 yX10_value yX10_value : Cond) ∈ wsB := wpq Lwp_46_ok 0 rfl
theorem mlX10_306 : LV RX10 306 yX10_value cX10_value 3 none 0 := ⟨wd_1493, wd_1495, wp_46, wd_11, wd_1496, ⟨by decide, by decide, by decide +kernel⟩⟩
def dtX10_term : List (Nat × Instr × Nat) := [(0, .aload_n 0, 1), (1, .invokevirtual 306, 3), (4, .aload_n 0, 1), (5, .invokevirtual 268, 3), (8, .aload_n 0, 1), (9, .getfield 246, 3), (12, .ifCond .ne 88, 3), (15, .aload_n 0, 1), (16, .invokevirtual 252, 3), (19, .bipush 42, 2), (21, .if_icmp .eq 21, 3), (24, .aload_n 0, 1), (25, .invokevirtual 252, 3), (28, .bipush 47, 2), (30, .if_icmp .eq 12, 3), (33, .aload_n 0, 1), (34, .invokevirtual 252, 3), (37, .bipush 37, 2), (39, .if_icmp .ne 61, 3), (42, .aload_n 0, 1), (43, .invokevirtual 252, 3), (46, .bipush 42, 2), (48, .if_icmp .ne 8, 3), (51, .bipush 13, 2), (53, .goto 19, 3), (56, .aload_n 0, 1), (57, .invokevirtual 252, 3), (60, .bipush 47, 2), (62, .if_icmp .ne 8, 3), (65, .bipush 14, 2), (67, .goto 5, 3), (70, .bipush 15, 2), (72, .istore_n 1, 1), (73, .aload_n 0, 1), (74, .dup, 1), (75, .getfield 249, 3), (78, .iconst 1, 1), (79, .iadd, 1), (80, .putfield 249, 3), (83, .aload_n 0, 1), (84, .invokevirtual 306, 3), (87, .aload_n 0, 1), (88, .iload_n 1, 1), (89, .iconst 0, 1), (90, .invokevirtual 299, 3), (93, .aload_n 0, 1), (94, .invokevirtual 268, 3), (97, .goto (-89), 3), (100, .return_, 1)]
set_option maxRecDepth 100000 in
theorem tX10_term : ∀ q ∈ dtX10_term, decode cX10_term q.1 = .ok (q.2.1, q.2.2) := by decide +kernel
