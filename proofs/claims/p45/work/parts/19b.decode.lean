def dtX9_seed : List (Nat × Instr × Nat) := [(0, .iload_n 1, 1), (1, .ifCond .ge 5, 3), (4, .iconst (-1), 1), (5, .ireturn, 1), (6, .aload_n 0, 1), (7, .getfield 47, 3), (10, .getfield 109, 3), (13, .getfield 387, 3), (16, .istore_n 2, 1), (17, .aload_n 0, 1), (18, .getfield 47, 3), (21, .getfield 109, 3), (24, .iload_n 1, 1), (25, .putfield 387, 3), (28, .iload_n 2, 1), (29, .ireturn, 1)]
set_option maxRecDepth 100000 in
theorem tX9_seed : ∀ q ∈ dtX9_seed, decode cX9_seed q.1 = .ok (q.2.1, q.2.2) := by decide +kernel
