theorem wd_2 : (Cond.initialized RX7 : Cond) ∈ wsB := wt1 (List.mem_of_getElem? (i := 2) rfl) rfl
theorem wd_42 : (Cond.fieldLink RX7 19 "RaftForest$Tape" "fault" "I" : Cond) ∈ wsB := wt1 (List.mem_of_getElem? (i := 42) rfl) rfl
theorem wd_487 : (Cond.methodLink RX7 25 yX7_pass : Cond) ∈ wsB := wt3 (List.mem_of_getElem? (i := 7) rfl) rfl
theorem wd_488 : (Cond.instanceMethod yX7_pass : Cond) ∈ wsB := wt3 (List.mem_of_getElem? (i := 8) rfl) rfl
theorem wd_489 : (Cond.selects RX7 yX7_pass yX7_pass : Cond) ∈ wsB := wt3 (List.mem_of_getElem? (i := 9) rfl) rfl
theorem wd_490 : (Cond.code yX7_pass cX7_pass 4 none : Cond) ∈ wsB := wt3 (List.mem_of_getElem? (i := 10) rfl) rfl
theorem wd_493 : (Cond.instanceMethod yX7_wordIn : Cond) ∈ wsB := wt3 (List.mem_of_getElem? (i := 13) rfl) rfl
theorem wd_494 : (Cond.selects RX7 yX7_wordIn yX7_wordIn : Cond) ∈ wsB := wt3 (List.mem_of_getElem? (i := 14) rfl) rfl
theorem wd_495 : (Cond.code yX7_wordIn cX7_wordIn 6 (some .int) : Cond) ∈ wsB := wt3 (List.mem_of_getElem? (i := 15) rfl) rfl
theorem wd_641 : (Cond.methodLink RX7 44 yX7_wordIn : Cond) ∈ wsB := wt3 (List.mem_of_getElem? (i := 161) rfl) rfl
theorem plX7_19 : FP RX7 19 7 5 .int := ⟨RX7, TX7, 6, rfl, inlX7, by decide, wd_42, rfl, by decide +kernel, tyX7, tyX7_ok, nmX7⟩
theorem mlX7_25 : LV RX7 25 yX7_pass cX7_pass 4 none 0 := ⟨wd_487, wd_488, wd_489, wd_2, wd_490, ⟨by decide, by decide, by decide +kernel⟩⟩
theorem mlX7_44 : LV RX7 44 yX7_wordIn cX7_wordIn 6 (some .int) 1 := ⟨wd_641, wd_493, wd_494, wd_2, wd_495, ⟨by decide, by decide, by decide +kernel⟩⟩
theorem sX7_5 {b : Nat} (h : isX7 b) : SI b 7 5 0 3205 := by rcases h with rfl <;> exact ⟨by decide, rfl, rfl, by decide, rfl, rfl, rfl⟩
theorem obX7 {b : Nat} (h : isX7 b) : OB b RX7 := by rcases h with rfl <;> exact ⟨by decide, rfl, _, _, rfl⟩
def dtX7_rewind : List (Nat × Instr × Nat) := [(0, .aload_n 0, 1), (1, .iconst 0, 1), (2, .putfield 19, 3), (5, .aload_n 0, 1), (6, .iconst 0, 1), (7, .putfield 22, 3), (10, .aload_n 0, 1), (11, .invokevirtual 25, 3), (14, .return_, 1)]
set_option maxRecDepth 100000 in
theorem tX7_rewind : ∀ q ∈ dtX7_rewind, decode cX7_rewind q.1 = .ok (q.2.1, q.2.2) := by decide +kernel
def dtX7_isNumber : List (Nat × Instr × Nat) := [(0, .aload_n 0, 1), (1, .getfield 31, 3), (4, .bipush 48, 2), (6, .if_icmp .lt 16, 3), (9, .aload_n 0, 1), (10, .getfield 31, 3), (13, .bipush 57, 2), (15, .if_icmp .gt 7, 3), (18, .iconst 1, 1), (19, .goto 4, 3), (22, .iconst 0, 1), (23, .ireturn, 1)]
set_option maxRecDepth 100000 in
theorem tX7_isNumber : ∀ q ∈ dtX7_isNumber, decode cX7_isNumber q.1 = .ok (q.2.1, q.2.2) := by decide +kernel
def dtX7_number : List (Nat × Instr × Nat) := [(0, .aload_n 0, 1), (1, .getfield 22, 3), (4, .aload_n 0, 1), (5, .getfield 28, 3), (8, .isub, 1), (9, .iconst 5, 1), (10, .if_icmp .le 5, 3), (13, .iconst (-1), 1), (14, .ireturn, 1), (15, .iconst 0, 1), (16, .istore_n 1, 1), (17, .aload_n 0, 1), (18, .getfield 28, 3), (21, .istore_n 2, 1), (22, .iload_n 2, 1), (23, .aload_n 0, 1), (24, .getfield 22, 3), (27, .if_icmp .ge 24, 3), (30, .iload_n 1, 1), (31, .bipush 10, 2), (33, .imul, 1), (34, .aload_n 0, 1), (35, .getfield 9, 3), (38, .iload_n 2, 1), (39, .iaload, 1), (40, .iadd, 1), (41, .bipush 48, 2), (43, .isub, 1), (44, .istore_n 1, 1), (45, .iinc 2 1, 3), (48, .goto (-26), 3), (51, .iload_n 1, 1), (52, .ireturn, 1)]
set_option maxRecDepth 100000 in
theorem tX7_number : ∀ q ∈ dtX7_number, decode cX7_number q.1 = .ok (q.2.1, q.2.2) := by decide +kernel
def dtX7_takesWord : List (Nat × Instr × Nat) := [(0, .aload_n 0, 1), (1, .aload_n 1, 1), (2, .invokevirtual 44, 3), (5, .ifCond .eq 5, 3), (8, .iconst 0, 1), (9, .ireturn, 1), (10, .aload_n 0, 1), (11, .invokevirtual 25, 3), (14, .iconst 1, 1), (15, .ireturn, 1)]
set_option maxRecDepth 100000 in
theorem tX7_takesWord : ∀ q ∈ dtX7_takesWord, decode cX7_takesWord q.1 = .ok (q.2.1, q.2.2) := by decide +kernel
