def dtX10_top : List (Nat × Instr × Nat) := [(0, .aload_n 0, 1), (1, .getfield 315, 3), (4, .ifCond .ne 7, 3), (7, .iconst (-1), 1), (8, .goto 14, 3), (11, .aload_n 0, 1), (12, .getfield 147, 3), (15, .aload_n 0, 1), (16, .getfield 315, 3), (19, .iconst 1, 1), (20, .isub, 1), (21, .iaload, 1), (22, .ireturn, 1)]
set_option maxRecDepth 100000 in
theorem tX10_top : ∀ q ∈ dtX10_top, decode cX10_top q.1 = .ok (q.2.1, q.2.2) := by decide +kernel
