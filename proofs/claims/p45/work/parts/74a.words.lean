theorem wd_1489 : (Cond.methodLink RX10 309 yX10_term : Cond) ∈ wsB := wt7 (List.mem_of_getElem? (i := 49) rfl) rfl
theorem wd_1491 : (Cond.instanceMethod yX10_term : Cond) ∈ wsB := wt7 (List.mem_of_getElem? (i := 51) rfl) rfl
theorem wd_1492 : (Cond.code yX10_term cX10_term 2 none : Cond) ∈ wsB := wt7 (List.mem_of_getElem? (i := 52) rfl) rfl
def Lwp_45 : List (Nat × Cond) := [(45, Cond.selects RX10 yX10_term yX10_term)]
set_option maxRecDepth 100000 in
theorem Lwp_45_ok : ∀ q ∈ Lwp_45, (k2_sels lw_privs)[q.1]? = some q.2 ∧ goodWord q.2 = true := by decide +kernel
theorem wp_45 : (Cond.selects RX10 yX10_term yX10_term : Cond) ∈ wsB := wpq Lwp_45_ok 0 rfl
theorem mlX10_309 : LV RX10 309 yX10_term cX10_term 2 none 0 := ⟨wd_1489, wd_1491, wp_45, wd_11, wd_1492, ⟨by decide, by decide, by decide +kernel⟩⟩
def dtX10_sum : List (Nat × Instr × Nat) := [(0, .aload_n 0, 1), (1, .invokevirtual 309, 3), (4, .aload_n 0, 1), (5, .getfield 246, 3), (8, .ifCond .ne 59, 3), (11, .aload_n 0, 1), (12, .invokevirtual 252, 3), (15, .bipush 43, 2), (17, .if_icmp .eq 12, 3), (20, .aload_n 0, 1), (21, .invokevirtual 252, 3), (24, .bipush 45, 2), (26, .if_icmp .ne 41, 3), (29, .aload_n 0, 1), (30, .invokevirtual 252, 3), (33, .bipush 43, 2), (35, .if_icmp .ne 7, 3), (38, .iconst 2, 1), (39, .goto 4, 3), (42, .iconst 3, 1), (43, .istore_n 1, 1), (44, .aload_n 0, 1), (45, .dup, 1), (46, .getfield 249, 3), (49, .iconst 1, 1), (50, .iadd, 1), (51, .putfield 249, 3), (54, .aload_n 0, 1), (55, .invokevirtual 309, 3), (58, .aload_n 0, 1), (59, .iload_n 1, 1), (60, .iconst 0, 1), (61, .invokevirtual 299, 3), (64, .goto (-60), 3), (67, .return_, 1)]
set_option maxRecDepth 100000 in
theorem tX10_sum : ∀ q ∈ dtX10_sum, decode cX10_sum q.1 = .ok (q.2.1, q.2.2) := by decide +kernel
