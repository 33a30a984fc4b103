def dtX10_takes : List (Nat × Instr × Nat) := [(0, .aload_n 0, 1), (1, .invokevirtual 268, 3), (4, .aload_n 0, 1), (5, .aload_n 1, 1), (6, .invokevirtual 271, 3), (9, .istore_n 2, 1), (10, .aload_n 0, 1), (11, .dup, 1), (12, .getfield 249, 3), (15, .iload_n 2, 1), (16, .ifCond .eq 10, 3), (19, .aload_n 1, 1), (20, .invokevirtual 260, 3), (23, .goto 4, 3), (26, .iconst 0, 1), (27, .iadd, 1), (28, .putfield 249, 3), (31, .iload_n 2, 1), (32, .ireturn, 1)]
set_option maxRecDepth 100000 in
theorem tX10_takes : ∀ q ∈ dtX10_takes, decode cX10_takes q.1 = .ok (q.2.1, q.2.2) := by decide +kernel
