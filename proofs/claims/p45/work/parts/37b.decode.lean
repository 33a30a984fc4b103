def dtX10_keeps : List (Nat × Instr × Nat) := [(0, .aload_n 0, 1), (1, .iconst 4, 1), (2, .iconst 0, 1), (3, .invokevirtual 651, 3), (6, .return_, 1)]
set_option maxRecDepth 100000 in
theorem tX10_keeps : ∀ q ∈ dtX10_keeps, decode cX10_keeps q.1 = .ok (q.2.1, q.2.2) := by decide +kernel
def dtX10_laysBack : List (Nat × Instr × Nat) := [(0, .aload_n 0, 1), (1, .iconst 4, 1), (2, .iconst 1, 1), (3, .invokevirtual 651, 3), (6, .return_, 1)]
set_option maxRecDepth 100000 in
theorem tX10_laysBack : ∀ q ∈ dtX10_laysBack, decode cX10_laysBack q.1 = .ok (q.2.1, q.2.2) := by decide +kernel
def dtX10_day : List (Nat × Instr × Nat) := [(0, .aload_n 0, 1), (1, .invokevirtual 565, 3), (4, .aload_n 0, 1), (5, .iconst 0, 1), (6, .putfield 559, 3), (9, .iconst 0, 1), (10, .istore_n 1, 1), (11, .iload_n 1, 1), (12, .aload_n 0, 1), (13, .getfield 9, 3), (16, .iconst 1, 1), (17, .iaload, 1), (18, .if_icmp .ge 14, 3), (21, .aload_n 0, 1), (22, .iload_n 1, 1), (23, .invokevirtual 568, 3), (26, .iinc 1 1, 3), (29, .goto (-18), 3), (32, .aload_n 0, 1), (33, .getfield 9, 3), (36, .bipush 7, 2), (38, .dup2, 1), (39, .iaload, 1), (40, .iconst 1, 1), (41, .iadd, 1), (42, .iastore, 1), (43, .aload_n 0, 1), (44, .invokevirtual 571, 3), (47, .return_, 1)]
set_option maxRecDepth 100000 in
theorem tX10_day : ∀ q ∈ dtX10_day, decode cX10_day q.1 = .ok (q.2.1, q.2.2) := by decide +kernel
def dtX10_wouldBe : List (Nat × Instr × Nat) := [(0, .aload_n 0, 1), (1, .invokevirtual 578, 3), (4, .iconst 0, 1), (5, .istore_n 2, 1), (6, .iload_n 2, 1), (7, .iload_n 1, 1), (8, .if_icmp .ge 13, 3), (11, .aload_n 0, 1), (12, .invokevirtual 576, 3), (15, .iinc 2 1, 3), (18, .goto (-12), 3), (21, .aload_n 0, 1), (22, .invokevirtual 520, 3), (25, .return_, 1)]
set_option maxRecDepth 100000 in
theorem tX10_wouldBe : ∀ q ∈ dtX10_wouldBe, decode cX10_wouldBe q.1 = .ok (q.2.1, q.2.2) := by decide +kernel
def dtX10_floats : List (Nat × Instr × Nat) := [(0, .aload_n 0, 1), (1, .invokevirtual 413, 3), (4, .ifCond .eq 27, 3), (7, .iload_n 1, 1), (8, .i2l, 1), (9, .lconst 0, 1), (10, .ldc2_w 574, 3), (13, .invokestatic 191, 3), (16, .ifCond .eq 15, 3), (19, .iload_n 2, 1), (20, .i2l, 1), (21, .lconst 0, 1), (22, .ldc2_w 581, 3), (25, .invokestatic 191, 3), (28, .ifCond .ne 5, 3), (31, .iconst (-1), 1), (32, .ireturn, 1), (33, .aload_n 0, 1), (34, .invokevirtual 517, 3), (37, .aload_n 0, 1), (38, .iload_n 1, 1), (39, .invokevirtual 583, 3), (42, .aload_n 0, 1), (43, .iload_n 2, 1), (44, .invokevirtual 586, 3), (47, .ireturn, 1)]
set_option maxRecDepth 100000 in
theorem tX10_floats : ∀ q ∈ dtX10_floats, decode cX10_floats q.1 = .ok (q.2.1, q.2.2) := by decide +kernel
