def dtX4_clear : List (Nat × Instr × Nat) := [(0, .aload_n 0, 1), (1, .iconst 0, 1), (2, .putfield 19, 3), (5, .aload_n 0, 1), (6, .iconst 0, 1), (7, .putfield 23, 3), (10, .aload_n 0, 1), (11, .iconst 0, 1), (12, .putfield 26, 3), (15, .return_, 1)]
set_option maxRecDepth 100000 in
theorem tX4_clear : ∀ q ∈ dtX4_clear, decode cX4_clear q.1 = .ok (q.2.1, q.2.2) := by decide +kernel
def dtX4_write : List (Nat × Instr × Nat) := [(0, .aload_n 0, 1), (1, .getfield 19, 3), (4, .sipush 400, 3), (7, .if_icmp .ge 23, 3), (10, .aload_n 0, 1), (11, .getfield 9, 3), (14, .aload_n 0, 1), (15, .getfield 19, 3), (18, .iload_n 1, 1), (19, .iastore, 1), (20, .aload_n 0, 1), (21, .dup, 1), (22, .getfield 19, 3), (25, .iconst 1, 1), (26, .iadd, 1), (27, .putfield 19, 3), (30, .iload_n 1, 1), (31, .ifCond .lt 21, 3), (34, .iload_n 1, 1), (35, .bipush 13, 2), (37, .if_icmp .ge 15, 3), (40, .aload_n 0, 1), (41, .dup, 1), (42, .getfield 26, 3), (45, .iconst 1, 1), (46, .iload_n 1, 1), (47, .ishl, 1), (48, .ior, 1), (49, .putfield 26, 3), (52, .return_, 1)]
set_option maxRecDepth 100000 in
theorem tX4_write : ∀ q ∈ dtX4_write, decode cX4_write q.1 = .ok (q.2.1, q.2.2) := by decide +kernel
def dtX4_begin : List (Nat × Instr × Nat) := [(0, .aload_n 0, 1), (1, .dup, 1), (2, .getfield 23, 3), (5, .iconst 1, 1), (6, .iload_n 1, 1), (7, .ishl, 1), (8, .ior, 1), (9, .putfield 23, 3), (12, .aload_n 0, 1), (13, .bipush 32, 2), (15, .iload_n 1, 1), (16, .iadd, 1), (17, .invokevirtual 29, 3), (20, .aload_n 0, 1), (21, .iconst 0, 1), (22, .invokevirtual 29, 3), (25, .aload_n 0, 1), (26, .getfield 19, 3), (29, .iconst 1, 1), (30, .isub, 1), (31, .ireturn, 1)]
set_option maxRecDepth 100000 in
theorem tX4_begin : ∀ q ∈ dtX4_begin, decode cX4_begin q.1 = .ok (q.2.1, q.2.2) := by decide +kernel
def dtX4_close : List (Nat × Instr × Nat) := [(0, .iload_n 1, 1), (1, .ifCond .lt 21, 3), (4, .iload_n 1, 1), (5, .aload_n 0, 1), (6, .getfield 19, 3), (9, .if_icmp .ge 13, 3), (12, .aload_n 0, 1), (13, .getfield 9, 3), (16, .iload_n 1, 1), (17, .aload_n 0, 1), (18, .getfield 19, 3), (21, .iastore, 1), (22, .return_, 1)]
set_option maxRecDepth 100000 in
theorem tX4_close : ∀ q ∈ dtX4_close, decode cX4_close q.1 = .ok (q.2.1, q.2.2) := by decide +kernel
