theorem wd_1178 : (Cond.fieldLink RX10 318 "RaftForestModel" "deep" "I" : Cond) ∈ wsB := wt5 (List.mem_of_getElem? (i := 218) rfl) rfl
theorem wd_1532 : (Cond.methodLink RX10 326 yX10_opens : Cond) ∈ wsB := wt7 (List.mem_of_getElem? (i := 92) rfl) rfl
theorem wd_1534 : (Cond.instanceMethod yX10_opens : Cond) ∈ wsB := wt7 (List.mem_of_getElem? (i := 94) rfl) rfl
theorem wd_1535 : (Cond.code yX10_opens cX10_opens 2 none : Cond) ∈ wsB := wt7 (List.mem_of_getElem? (i := 95) rfl) rfl
theorem wd_1536 : (Cond.methodLink RX10 329 yX10_compared : Cond) ∈ wsB := wt7 (List.mem_of_getElem? (i := 96) rfl) rfl
theorem wd_1538 : (Cond.instanceMethod yX10_compared : Cond) ∈ wsB := wt7 (List.mem_of_getElem? (i := 98) rfl) rfl
theorem wd_1539 : (Cond.code yX10_compared cX10_compared 3 none : Cond) ∈ wsB := wt7 (List.mem_of_getElem? (i := 99) rfl) rfl
theorem wd_1544 : (Cond.methodLink RX10 321 yX10_top : Cond) ∈ wsB := wt7 (List.mem_of_getElem? (i := 104) rfl) rfl
theorem wd_1546 : (Cond.instanceMethod yX10_top : Cond) ∈ wsB := wt7 (List.mem_of_getElem? (i := 106) rfl) rfl
theorem wd_1547 : (Cond.code yX10_top cX10_top 1 (some .int) : Cond) ∈ wsB := wt7 (List.mem_of_getElem? (i := 107) rfl) rfl
def Lwp_52 : List (Nat × Cond) := [(52, Cond.selects RX10 yX10_opens yX10_opens), (53, Cond.selects RX10 yX10_compared yX10_compared), (55, Cond.selects RX10 yX10_top yX10_top)]
set_option maxRecDepth 100000 in
theorem Lwp_52_ok : ∀ q ∈ Lwp_52, (k2_sels lw_privs)[q.1]? = some q.2 ∧ goodWord q.2 = true := by decide +kernel
theorem wp_52 : (Cond.selects RX10 yX10_opens yX10_opens : Cond) ∈ wsB := wpq Lwp_52_ok 0 rfl
theorem wp_53 : (Cond.selects RX10 yX10_compared yX10_compared : Cond) ∈ wsB := wpq Lwp_52_ok 1 rfl
theorem wp_55 : (Cond.selects RX10 yX10_top yX10_top : Cond) ∈ wsB := wpq Lwp_52_ok 2 rfl
theorem glX10_318 : FL RX10 318 10 43 := ⟨RX10, TX10, 80, rfl, inlX10, by decide, wd_1178⟩
theorem plX10_318 : FP RX10 318 10 43 .int := ⟨RX10, TX10, 80, rfl, inlX10, by decide, wd_1178, rfl, by decide +kernel, tyX10, tyX10_ok, nmX10⟩
theorem plX10_315 : FP RX10 315 10 45 .int := ⟨RX10, TX10, 80, rfl, inlX10, by decide, wd_1180, rfl, by decide +kernel, tyX10, tyX10_ok, nmX10⟩
theorem mlX10_321 : LV RX10 321 yX10_top cX10_top 1 (some .int) 0 := ⟨wd_1544, wd_1546, wp_55, wd_11, wd_1547, ⟨by decide, by decide, by decide +kernel⟩⟩
theorem mlX10_329 : LV RX10 329 yX10_compared cX10_compared 3 none 0 := ⟨wd_1536, wd_1538, wp_53, wd_11, wd_1539, ⟨by decide, by decide, by decide +kernel⟩⟩
theorem mlX10_326 : LV RX10 326 yX10_opens cX10_opens 2 none 1 := ⟨wd_1532, wd_1534, wp_52, wd_11, wd_1535, ⟨by decide, by decide, by decide +kernel⟩⟩
theorem sX10_43 {b : Nat} (h : isX10 b) : SI b 10 43 (-2147483648) 2147483647 := by rcases h with rfl <;> exact ⟨by decide, rfl, rfl, by decide, rfl, rfl, rfl⟩
def dtX10_opens : List (Nat × Instr × Nat) := [(0, .iload_n 1, 1), (1, .bipush 9, 2), (3, .if_icmp .eq 9, 3), (6, .iload_n 1, 1), (7, .bipush 12, 2), (9, .if_icmp .ne 31, 3), (12, .aload_n 0, 1), (13, .getfield 318, 3), (16, .bipush 10, 2), (18, .if_icmp .ne 12, 3), (21, .aload_n 0, 1), (22, .iconst 2, 1), (23, .aload_n 0, 1), (24, .getfield 249, 3), (27, .invokevirtual 284, 3), (30, .aload_n 0, 1), (31, .dup, 1), (32, .getfield 318, 3), (35, .iconst 1, 1), (36, .iadd, 1), (37, .putfield 318, 3), (40, .aload_n 0, 1), (41, .getfield 147, 3), (44, .aload_n 0, 1), (45, .getfield 315, 3), (48, .iload_n 1, 1), (49, .iastore, 1), (50, .aload_n 0, 1), (51, .dup, 1), (52, .getfield 315, 3), (55, .iconst 1, 1), (56, .iadd, 1), (57, .putfield 315, 3), (60, .return_, 1)]
set_option maxRecDepth 100000 in
theorem tX10_opens : ∀ q ∈ dtX10_opens, decode cX10_opens q.1 = .ok (q.2.1, q.2.2) := by decide +kernel
def dtX10_answers : List (Nat × Instr × Nat) := [(0, .aload_n 0, 1), (1, .invokevirtual 321, 3), (4, .iload_n 1, 1), (5, .if_icmp .ne 49, 3), (8, .aload_n 0, 1), (9, .getfield 246, 3), (12, .ifCond .ne 42, 3), (15, .aload_n 0, 1), (16, .iload_n 1, 1), (17, .iconst 0, 1), (18, .invokevirtual 299, 3), (21, .aload_n 0, 1), (22, .dup, 1), (23, .getfield 315, 3), (26, .iconst 1, 1), (27, .isub, 1), (28, .putfield 315, 3), (31, .aload_n 0, 1), (32, .dup, 1), (33, .getfield 318, 3), (36, .iload_n 1, 1), (37, .bipush 9, 2), (39, .if_icmp .ne 7, 3), (42, .iconst 1, 1), (43, .goto 4, 3), (46, .iconst 0, 1), (47, .isub, 1), (48, .putfield 318, 3), (51, .goto (-51), 3), (54, .return_, 1)]
set_option maxRecDepth 100000 in
theorem tX10_answers : ∀ q ∈ dtX10_answers, decode cX10_answers q.1 = .ok (q.2.1, q.2.2) := by decide +kernel
def dtX10_fact : List (Nat × Instr × Nat) := [(0, .aload_n 0, 1), (1, .invokevirtual 268, 3), (4, .aload_n 0, 1), (5, .ldc_w 324, 3), (8, .invokevirtual 271, 3), (11, .ifCond .eq 21, 3), (14, .aload_n 0, 1), (15, .bipush 9, 2), (17, .invokevirtual 326, 3), (20, .aload_n 0, 1), (21, .dup, 1), (22, .getfield 249, 3), (25, .iconst 3, 1), (26, .iadd, 1), (27, .putfield 249, 3), (30, .iconst 0, 1), (31, .ireturn, 1), (32, .aload_n 0, 1), (33, .invokevirtual 252, 3), (36, .bipush 91, 2), (38, .if_icmp .ne 21, 3), (41, .aload_n 0, 1), (42, .bipush 12, 2), (44, .invokevirtual 326, 3), (47, .aload_n 0, 1), (48, .dup, 1), (49, .getfield 249, 3), (52, .iconst 1, 1), (53, .iadd, 1), (54, .putfield 249, 3), (57, .iconst 0, 1), (58, .ireturn, 1), (59, .aload_n 0, 1), (60, .invokevirtual 329, 3), (63, .iconst 1, 1), (64, .ireturn, 1)]
set_option maxRecDepth 100000 in
theorem tX10_fact : ∀ q ∈ dtX10_fact, decode cX10_fact q.1 = .ok (q.2.1, q.2.2) := by decide +kernel
