theorem wd_43 : (Cond.fieldLink RX9 90 "RaftForest$Tape" "fault" "I" : Cond) ∈ wsB := wt1 (List.mem_of_getElem? (i := 43) rfl) rfl
theorem wd_421 : (Cond.fieldLink RX9 28 "RaftForest" "ruleReader" "LRaftForest$RuleReader;" : Cond) ∈ wsB := wt2 (List.mem_of_getElem? (i := 181) rfl) rfl
theorem wd_422 : (Cond.fieldLink RX9 34 "RaftForest" "rules" "[LRaftForest$Rule;" : Cond) ∈ wsB := wt2 (List.mem_of_getElem? (i := 182) rfl) rfl
theorem wd_603 : (Cond.methodLink RX9 123 yX5_reads : Cond) ∈ wsB := wt3 (List.mem_of_getElem? (i := 123) rfl) rfl
theorem wd_604 : (Cond.instanceMethod yX5_reads : Cond) ∈ wsB := wt3 (List.mem_of_getElem? (i := 124) rfl) rfl
theorem wd_605 : (Cond.selects RX5 yX5_reads yX5_reads : Cond) ∈ wsB := wt3 (List.mem_of_getElem? (i := 125) rfl) rfl
theorem wd_606 : (Cond.code yX5_reads cX5_reads 7 (some .boolean) : Cond) ∈ wsB := wt3 (List.mem_of_getElem? (i := 126) rfl) rfl
theorem glX9_28 : FL RX9 28 9 2 := ⟨RX9, TX9, 12, rfl, inlX9, by decide, wd_421⟩
theorem glX9_34 : FL RX9 34 9 3 := ⟨RX9, TX9, 12, rfl, inlX9, by decide, wd_422⟩
theorem mlX9_123 : LV RX9 123 yX5_reads cX5_reads 7 (some .boolean) 1 := ⟨wd_603, wd_604, wd_605, wd_5, wd_606, ⟨by decide, by decide, by decide +kernel⟩⟩
theorem plX9_78 : FP RX9 78 7 1 .int := ⟨RX7, TX7, 6, rfl, inlX7, by decide, wd_35, rfl, by decide +kernel, tyX7, tyX7_ok, nmX7⟩
theorem plX9_120 : FP RX9 120 9 4 .int := ⟨RX9, TX9, 12, rfl, inlX9, by decide, wd_423, rfl, by decide +kernel, tyX9, tyX9_ok, nmX9⟩
theorem glX9_90 : FL RX9 90 7 5 := ⟨RX7, TX7, 6, rfl, inlX7, by decide, wd_43⟩
theorem sX9_2 {b : Nat} (h : isX9 b) : SF b 9 2 (18) := by rcases h with rfl <;> exact ⟨by decide, rfl, rfl, by decide, rfl, rfl⟩
theorem sX9_3 {b : Nat} (h : isX9 b) : SF b 9 3 (1) := by rcases h with rfl <;> exact ⟨by decide, rfl, rfl, by decide, rfl, rfl⟩
theorem aX9_3 {b : Nat} (h : isX9 b) : AK (1) 3 6 := by rcases h with rfl <;> exact ⟨by decide, rfl, rfl⟩
def dtX9_rule : List (Nat × Instr × Nat) := [(0, .aload_n 0, 1), (1, .getfield 120, 3), (4, .bipush 6, 2), (6, .if_icmp .lt 5, 3), (9, .iconst (-1), 1), (10, .ireturn, 1), (11, .aload_n 0, 1), (12, .getfield 28, 3), (15, .aload_n 0, 1), (16, .getfield 34, 3), (19, .aload_n 0, 1), (20, .getfield 120, 3), (23, .aaload, 1), (24, .invokevirtual 123, 3), (27, .istore_n 1, 1), (28, .aload_n 0, 1), (29, .getfield 10, 3), (32, .iconst 0, 1), (33, .putfield 78, 3), (36, .iload_n 1, 1), (37, .ifCond .ne 14, 3), (40, .bipush (-2), 2), (42, .aload_n 0, 1), (43, .getfield 10, 3), (46, .getfield 90, 3), (49, .isub, 1), (50, .ireturn, 1), (51, .aload_n 0, 1), (52, .dup, 1), (53, .getfield 120, 3), (56, .iconst 1, 1), (57, .iadd, 1), (58, .putfield 120, 3), (61, .aload_n 0, 1), (62, .getfield 120, 3), (65, .iconst 1, 1), (66, .isub, 1), (67, .ireturn, 1)]
set_option maxRecDepth 100000 in
theorem tX9_rule : ∀ q ∈ dtX9_rule, decode cX9_rule q.1 = .ok (q.2.1, q.2.2) := by decide +kernel
