theorem wd_460 : (Cond.methodLink RX9 82 yX7_append : Cond) ∈ wsB := wt2 (List.mem_of_getElem? (i := 220) rfl) rfl
theorem wd_461 : (Cond.instanceMethod yX7_append : Cond) ∈ wsB := wt2 (List.mem_of_getElem? (i := 221) rfl) rfl
theorem wd_462 : (Cond.selects RX7 yX7_append yX7_append : Cond) ∈ wsB := wt2 (List.mem_of_getElem? (i := 222) rfl) rfl
theorem wd_463 : (Cond.code yX7_append cX7_append 3 none : Cond) ∈ wsB := wt2 (List.mem_of_getElem? (i := 223) rfl) rfl
theorem wd_1381 : (Cond.methodLink RX10 219 yX10_put : Cond) ∈ wsB := wt6 (List.mem_of_getElem? (i := 181) rfl) rfl
theorem wd_1383 : (Cond.instanceMethod yX10_put : Cond) ∈ wsB := wt6 (List.mem_of_getElem? (i := 183) rfl) rfl
theorem wd_1384 : (Cond.code yX10_put cX10_put 3 none : Cond) ∈ wsB := wt6 (List.mem_of_getElem? (i := 184) rfl) rfl
def Lwp_28 : List (Nat × Cond) := [(28, Cond.selects RX10 yX10_put yX10_put)]
set_option maxRecDepth 100000 in
theorem Lwp_28_ok : ∀ q ∈ Lwp_28, (k2_sels lw_privs)[q.1]? = some q.2 ∧ goodWord q.2 = true := by decide +kernel
theorem wp_28 : (Cond.selects RX10 yX10_put yX10_put : Cond) ∈ wsB := wpq Lwp_28_ok 0 rfl
theorem plX7_15 : FP RX7 15 7 1 .int := ⟨RX7, TX7, 6, rfl, inlX7, by decide, wd_36, rfl, by decide +kernel, tyX7, tyX7_ok, nmX7⟩
theorem mlX9_82 : LV RX9 82 yX7_append cX7_append 3 none 1 := ⟨wd_460, wd_461, wd_462, wd_2, wd_463, ⟨by decide, by decide, by decide +kernel⟩⟩
theorem mlX10_219 : LV RX10 219 yX10_put cX10_put 3 none 1 := ⟨wd_1381, wd_1383, wp_28, wd_11, wd_1384, ⟨by decide, by decide, by decide +kernel⟩⟩
def dtX7_append : List (Nat × Instr × Nat) := [(0, .bipush 24, 2), (2, .istore_n 2, 1), (3, .iload_n 2, 1), (4, .ifCond .lt 45, 3), (7, .aload_n 0, 1), (8, .getfield 15, 3), (11, .sipush 400, 3), (14, .if_icmp .ge 35, 3), (17, .aload_n 0, 1), (18, .getfield 9, 3), (21, .aload_n 0, 1), (22, .getfield 15, 3), (25, .iload_n 1, 1), (26, .iload_n 2, 1), (27, .iushr, 1), (28, .sipush 255, 3), (31, .iand, 1), (32, .iastore, 1), (33, .aload_n 0, 1), (34, .dup, 1), (35, .getfield 15, 3), (38, .iconst 1, 1), (39, .iadd, 1), (40, .putfield 15, 3), (43, .iinc 2 (-8), 3), (46, .goto (-43), 3), (49, .return_, 1)]
set_option maxRecDepth 100000 in
theorem tX7_append : ∀ q ∈ dtX7_append, decode cX7_append q.1 = .ok (q.2.1, q.2.2) := by decide +kernel
def dtX9_feed : List (Nat × Instr × Nat) := [(0, .aload_n 0, 1), (1, .getfield 10, 3), (4, .getfield 78, 3), (7, .bipush 20, 2), (9, .iadd, 1), (10, .sipush 400, 3), (13, .if_icmp .le 5, 3), (16, .iconst (-1), 1), (17, .ireturn, 1), (18, .aload_n 0, 1), (19, .getfield 10, 3), (22, .iload_n 1, 1), (23, .invokevirtual 82, 3), (26, .aload_n 0, 1), (27, .getfield 10, 3), (30, .iload_n 2, 1), (31, .invokevirtual 82, 3), (34, .aload_n 0, 1), (35, .getfield 10, 3), (38, .iload_n 3, 1), (39, .invokevirtual 82, 3), (42, .aload_n 0, 1), (43, .getfield 10, 3), (46, .iload 4, 2), (48, .invokevirtual 82, 3), (51, .aload_n 0, 1), (52, .getfield 10, 3), (55, .iload 5, 2), (57, .invokevirtual 82, 3), (60, .aload_n 0, 1), (61, .getfield 10, 3), (64, .getfield 78, 3), (67, .ireturn, 1)]
set_option maxRecDepth 100000 in
theorem tX9_feed : ∀ q ∈ dtX9_feed, decode cX9_feed q.1 = .ok (q.2.1, q.2.2) := by decide +kernel
def dtX9_end : List (Nat × Instr × Nat) := [(0, .iload_n 1, 1), (1, .ifCond .lt 14, 3), (4, .iload_n 1, 1), (5, .aload_n 0, 1), (6, .getfield 10, 3), (9, .getfield 78, 3), (12, .if_icmp .le 5, 3), (15, .iconst (-1), 1), (16, .ireturn, 1), (17, .aload_n 0, 1), (18, .getfield 10, 3), (21, .iload_n 1, 1), (22, .putfield 78, 3), (25, .iload_n 1, 1), (26, .ireturn, 1)]
set_option maxRecDepth 100000 in
theorem tX9_end : ∀ q ∈ dtX9_end, decode cX9_end q.1 = .ok (q.2.1, q.2.2) := by decide +kernel
def dtX10_put : List (Nat × Instr × Nat) := [(0, .bipush 24, 2), (2, .istore_n 2, 1), (3, .iload_n 2, 1), (4, .ifCond .lt 32, 3), (7, .aload_n 0, 1), (8, .getfield 122, 3), (11, .aload_n 0, 1), (12, .getfield 216, 3), (15, .iload_n 1, 1), (16, .iload_n 2, 1), (17, .ishr, 1), (18, .i2b, 1), (19, .bastore, 1), (20, .aload_n 0, 1), (21, .dup, 1), (22, .getfield 216, 3), (25, .iconst 1, 1), (26, .iadd, 1), (27, .putfield 216, 3), (30, .iinc 2 (-8), 3), (33, .goto (-30), 3), (36, .return_, 1)]
set_option maxRecDepth 100000 in
theorem tX10_put : ∀ q ∈ dtX10_put, decode cX10_put q.1 = .ok (q.2.1, q.2.2) := by decide +kernel
def dtX10_feed : List (Nat × Instr × Nat) := [(0, .aload_n 0, 1), (1, .getfield 216, 3), (4, .bipush 20, 2), (6, .iadd, 1), (7, .sipush 400, 3), (10, .if_icmp .le 5, 3), (13, .iconst (-1), 1), (14, .ireturn, 1), (15, .aload_n 0, 1), (16, .iload_n 1, 1), (17, .invokevirtual 219, 3), (20, .aload_n 0, 1), (21, .iload_n 2, 1), (22, .invokevirtual 219, 3), (25, .aload_n 0, 1), (26, .iload_n 3, 1), (27, .invokevirtual 219, 3), (30, .aload_n 0, 1), (31, .iload 4, 2), (33, .invokevirtual 219, 3), (36, .aload_n 0, 1), (37, .iload 5, 2), (39, .invokevirtual 219, 3), (42, .aload_n 0, 1), (43, .getfield 216, 3), (46, .ireturn, 1)]
set_option maxRecDepth 100000 in
theorem tX10_feed : ∀ q ∈ dtX10_feed, decode cX10_feed q.1 = .ok (q.2.1, q.2.2) := by decide +kernel
def dtX10_end : List (Nat × Instr × Nat) := [(0, .iload_n 1, 1), (1, .ifCond .lt 11, 3), (4, .iload_n 1, 1), (5, .aload_n 0, 1), (6, .getfield 216, 3), (9, .if_icmp .le 5, 3), (12, .iconst (-1), 1), (13, .ireturn, 1), (14, .aload_n 0, 1), (15, .iload_n 1, 1), (16, .putfield 216, 3), (19, .iload_n 1, 1), (20, .ireturn, 1)]
set_option maxRecDepth 100000 in
theorem tX10_end : ∀ q ∈ dtX10_end, decode cX10_end q.1 = .ok (q.2.1, q.2.2) := by decide +kernel
