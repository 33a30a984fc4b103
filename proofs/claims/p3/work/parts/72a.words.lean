theorem wd_1181 : (Cond.fieldLink RX10 118 "RaftForestModel" "words" "I" : Cond) ∈ wsB := wdT 1181 (by decide +kernel) rfl
theorem wd_1497 : (Cond.methodLink RX10 296 yX10_isCounted : Cond) ∈ wsB := wdT 1497 (by decide +kernel) rfl
theorem wd_1499 : (Cond.instanceMethod yX10_isCounted : Cond) ∈ wsB := wdT 1499 (by decide +kernel) rfl
theorem wd_1500 : (Cond.code yX10_isCounted cX10_isCounted 2 none : Cond) ∈ wsB := wdT 1500 (by decide +kernel) rfl
theorem wd_1501 : (Cond.methodLink RX10 299 yX10_entry : Cond) ∈ wsB := wdT 1501 (by decide +kernel) rfl
theorem wd_1503 : (Cond.instanceMethod yX10_entry : Cond) ∈ wsB := wdT 1503 (by decide +kernel) rfl
theorem wd_1504 : (Cond.code yX10_entry cX10_entry 3 none : Cond) ∈ wsB := wdT 1504 (by decide +kernel) rfl
theorem wd_1505 : (Cond.methodLink RX10 302 yX10_wordOf : Cond) ∈ wsB := wdT 1505 (by decide +kernel) rfl
theorem wd_1506 : (Cond.static yX10_wordOf : Cond) ∈ wsB := wdT 1506 (by decide +kernel) rfl
theorem wd_1507 : (Cond.code yX10_wordOf cX10_wordOf 1 (some (.object "java/lang/String")) : Cond) ∈ wsB := wdT 1507 (by decide +kernel) rfl
theorem wp_47 : (Cond.selects RX10 yX10_isCounted yX10_isCounted : Cond) ∈ wsB := wdP 47 (by decide +kernel) rfl
theorem wp_48 : (Cond.selects RX10 yX10_entry yX10_entry : Cond) ∈ wsB := wdP 48 (by decide +kernel) rfl
theorem glX10_281 : FL RX10 281 10 44 := ⟨RX10, TX10, 80, rfl, inlX10, by decide, wd_1179⟩
theorem glX10_118 : FL RX10 118 10 46 := ⟨RX10, TX10, 80, rfl, inlX10, by decide, wd_1181⟩
theorem mlX10_302 : LT RX10 302 yX10_wordOf cX10_wordOf 1 (some (.object "java/lang/String")) 1 := ⟨wd_1505, wd_1506, wd_11, wd_1507, ⟨by decide, by decide, by decide +kernel⟩⟩
theorem mlX10_296 : LV RX10 296 yX10_isCounted cX10_isCounted 2 none 1 := ⟨wd_1497, wd_1499, wp_47, wd_11, wd_1500, ⟨by decide, by decide, by decide +kernel⟩⟩
theorem mlX10_299 : LV RX10 299 yX10_entry cX10_entry 3 none 2 := ⟨wd_1501, wd_1503, wp_48, wd_11, wd_1504, ⟨by decide, by decide, by decide +kernel⟩⟩
theorem sX10_46 {b : Nat} (h : isX10 b) : SI b 10 46 13 13 := by rcases h with rfl <;> exact ⟨by decide, rfl, rfl, by decide, rfl, rfl, rfl⟩
def dtX10_isCounted : List (Nat × Instr × Nat) := [(0, .aload_n 0, 1), (1, .getfield 281, 3), (4, .bipush 60, 2), (6, .if_icmp .ne 9, 3), (9, .aload_n 0, 1), (10, .iconst 3, 1), (11, .iload_n 1, 1), (12, .invokevirtual 284, 3), (15, .aload_n 0, 1), (16, .dup, 1), (17, .getfield 281, 3), (20, .iconst 1, 1), (21, .iadd, 1), (22, .putfield 281, 3), (25, .return_, 1)]
set_option maxRecDepth 100000 in
theorem tX10_isCounted : ∀ q ∈ dtX10_isCounted, decode cX10_isCounted q.1 = .ok (q.2.1, q.2.2) := by decide +kernel
def dtX10_value : List (Nat × Instr × Nat) := [(0, .aload_n 0, 1), (1, .invokevirtual 268, 3), (4, .aload_n 0, 1), (5, .getfield 249, 3), (8, .istore_n 1, 1), (9, .aload_n 0, 1), (10, .invokevirtual 288, 3), (13, .ifCond .eq 23, 3), (16, .aload_n 0, 1), (17, .ldc_w 292, 3), (20, .invokevirtual 293, 3), (23, .istore_n 2, 1), (24, .aload_n 0, 1), (25, .iload_n 1, 1), (26, .invokevirtual 296, 3), (29, .aload_n 0, 1), (30, .iconst 0, 1), (31, .iload_n 2, 1), (32, .invokevirtual 299, 3), (35, .return_, 1), (36, .iconst 0, 1), (37, .istore_n 2, 1), (38, .iload_n 2, 1), (39, .aload_n 0, 1), (40, .getfield 118, 3), (43, .if_icmp .ge 20, 3), (46, .aload_n 0, 1), (47, .iload_n 2, 1), (48, .invokestatic 302, 3), (51, .invokevirtual 271, 3), (54, .ifCond .ne 9, 3), (57, .iinc 2 1, 3), (60, .goto (-22), 3), (63, .iload_n 2, 1), (64, .aload_n 0, 1), (65, .getfield 118, 3), (68, .if_icmp .ne 10, 3), (71, .aload_n 0, 1), (72, .iconst 0, 1), (73, .iload_n 1, 1), (74, .invokevirtual 284, 3), (77, .return_, 1), (78, .aload_n 0, 1), (79, .iload_n 1, 1), (80, .invokevirtual 296, 3), (83, .aload_n 0, 1), (84, .dup, 1), (85, .getfield 249, 3), (88, .iload_n 2, 1), (89, .invokestatic 302, 3), (92, .invokevirtual 260, 3), (95, .iadd, 1), (96, .putfield 249, 3), (99, .aload_n 0, 1), (100, .iconst 1, 1), (101, .iload_n 2, 1), (102, .invokevirtual 299, 3), (105, .return_, 1)]
set_option maxRecDepth 100000 in
theorem tX10_value : ∀ q ∈ dtX10_value, decode cX10_value q.1 = .ok (q.2.1, q.2.2) := by decide +kernel
