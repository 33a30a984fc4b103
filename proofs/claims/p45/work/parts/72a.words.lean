theorem wd_1179 : (Cond.fieldLink RX10 281 "RaftForestModel" "counted" "I" : Cond) ∈ wsB := wt5 (List.mem_of_getElem? (i := 219) rfl) rfl
theorem wd_1181 : (Cond.fieldLink RX10 118 "RaftForestModel" "words" "I" : Cond) ∈ wsB := wt5 (List.mem_of_getElem? (i := 221) rfl) rfl
theorem wd_1424 : (Cond.methodLink RX10 284 yX10_fails : Cond) ∈ wsB := wt6 (List.mem_of_getElem? (i := 224) rfl) rfl
theorem wd_1426 : (Cond.instanceMethod yX10_fails : Cond) ∈ wsB := wt6 (List.mem_of_getElem? (i := 226) rfl) rfl
theorem wd_1427 : (Cond.code yX10_fails cX10_fails 3 none : Cond) ∈ wsB := wt6 (List.mem_of_getElem? (i := 227) rfl) rfl
theorem wd_1440 : (Cond.constant RX10 292 (99999) : Cond) ∈ wsB := wt7 (List.mem_of_getElem? (i := 0) rfl) rfl
theorem wd_1441 : (Cond.methodLink RX10 293 yX10_digits : Cond) ∈ wsB := wt7 (List.mem_of_getElem? (i := 1) rfl) rfl
theorem wd_1443 : (Cond.instanceMethod yX10_digits : Cond) ∈ wsB := wt7 (List.mem_of_getElem? (i := 3) rfl) rfl
theorem wd_1444 : (Cond.code yX10_digits cX10_digits 4 (some .int) : Cond) ∈ wsB := wt7 (List.mem_of_getElem? (i := 4) rfl) rfl
theorem wd_1445 : (Cond.methodLink RX10 288 yX10_isDigit : Cond) ∈ wsB := wt7 (List.mem_of_getElem? (i := 5) rfl) rfl
theorem wd_1447 : (Cond.instanceMethod yX10_isDigit : Cond) ∈ wsB := wt7 (List.mem_of_getElem? (i := 7) rfl) rfl
theorem wd_1448 : (Cond.code yX10_isDigit cX10_isDigit 1 (some .boolean) : Cond) ∈ wsB := wt7 (List.mem_of_getElem? (i := 8) rfl) rfl
theorem wd_1497 : (Cond.methodLink RX10 296 yX10_isCounted : Cond) ∈ wsB := wt7 (List.mem_of_getElem? (i := 57) rfl) rfl
theorem wd_1499 : (Cond.instanceMethod yX10_isCounted : Cond) ∈ wsB := wt7 (List.mem_of_getElem? (i := 59) rfl) rfl
theorem wd_1500 : (Cond.code yX10_isCounted cX10_isCounted 2 none : Cond) ∈ wsB := wt7 (List.mem_of_getElem? (i := 60) rfl) rfl
theorem wd_1501 : (Cond.methodLink RX10 299 yX10_entry : Cond) ∈ wsB := wt7 (List.mem_of_getElem? (i := 61) rfl) rfl
theorem wd_1503 : (Cond.instanceMethod yX10_entry : Cond) ∈ wsB := wt7 (List.mem_of_getElem? (i := 63) rfl) rfl
theorem wd_1504 : (Cond.code yX10_entry cX10_entry 3 none : Cond) ∈ wsB := wt7 (List.mem_of_getElem? (i := 64) rfl) rfl
theorem wd_1505 : (Cond.methodLink RX10 302 yX10_wordOf : Cond) ∈ wsB := wt7 (List.mem_of_getElem? (i := 65) rfl) rfl
theorem wd_1506 : (Cond.static yX10_wordOf : Cond) ∈ wsB := wt7 (List.mem_of_getElem? (i := 66) rfl) rfl
theorem wd_1507 : (Cond.code yX10_wordOf cX10_wordOf 1 (some (.object "java/lang/String")) : Cond) ∈ wsB := wt7 (List.mem_of_getElem? (i := 67) rfl) rfl
def Lwp_34 : List (Nat × Cond) := [(34, Cond.selects RX10 yX10_fails yX10_fails), (38, Cond.selects RX10 yX10_digits yX10_digits), (39, Cond.selects RX10 yX10_isDigit yX10_isDigit), (47, Cond.selects RX10 yX10_isCounted yX10_isCounted), (48, Cond.selects RX10 yX10_entry yX10_entry)]
set_option maxRecDepth 100000 in
theorem Lwp_34_ok : ∀ q ∈ Lwp_34, (k2_sels lw_privs)[q.1]? = some q.2 ∧ goodWord q.2 = true := by decide +kernel
theorem wp_34 : (Cond.selects RX10 yX10_fails yX10_fails : Cond) ∈ wsB := wpq Lwp_34_ok 0 rfl
theorem wp_38 : (Cond.selects RX10 yX10_digits yX10_digits : Cond) ∈ wsB := wpq Lwp_34_ok 1 rfl
theorem wp_39 : (Cond.selects RX10 yX10_isDigit yX10_isDigit : Cond) ∈ wsB := wpq Lwp_34_ok 2 rfl
theorem wp_47 : (Cond.selects RX10 yX10_isCounted yX10_isCounted : Cond) ∈ wsB := wpq Lwp_34_ok 3 rfl
theorem wp_48 : (Cond.selects RX10 yX10_entry yX10_entry : Cond) ∈ wsB := wpq Lwp_34_ok 4 rfl
theorem glX10_281 : FL RX10 281 10 44 := ⟨RX10, TX10, 80, rfl, inlX10, by decide, wd_1179⟩
theorem plX10_281 : FP RX10 281 10 44 .int := ⟨RX10, TX10, 80, rfl, inlX10, by decide, wd_1179, rfl, by decide +kernel, tyX10, tyX10_ok, nmX10⟩
theorem mlX10_284 : LV RX10 284 yX10_fails cX10_fails 3 none 2 := ⟨wd_1424, wd_1426, wp_34, wd_11, wd_1427, ⟨by decide, by decide, by decide +kernel⟩⟩
theorem mlX10_288 : LV RX10 288 yX10_isDigit cX10_isDigit 1 (some .boolean) 0 := ⟨wd_1445, wd_1447, wp_39, wd_11, wd_1448, ⟨by decide, by decide, by decide +kernel⟩⟩
theorem glX10_118 : FL RX10 118 10 46 := ⟨RX10, TX10, 80, rfl, inlX10, by decide, wd_1181⟩
theorem mlX10_302 : LT RX10 302 yX10_wordOf cX10_wordOf 1 (some (.object "java/lang/String")) 1 := ⟨wd_1505, wd_1506, wd_11, wd_1507, ⟨by decide, by decide, by decide +kernel⟩⟩
theorem mlX10_296 : LV RX10 296 yX10_isCounted cX10_isCounted 2 none 1 := ⟨wd_1497, wd_1499, wp_47, wd_11, wd_1500, ⟨by decide, by decide, by decide +kernel⟩⟩
theorem mlX10_299 : LV RX10 299 yX10_entry cX10_entry 3 none 2 := ⟨wd_1501, wd_1503, wp_48, wd_11, wd_1504, ⟨by decide, by decide, by decide +kernel⟩⟩
theorem mlX10_293 : LV RX10 293 yX10_digits cX10_digits 4 (some .int) 1 := ⟨wd_1441, wd_1443, wp_38, wd_11, wd_1444, ⟨by decide, by decide, by decide +kernel⟩⟩
theorem sX10_44 {b : Nat} (h : isX10 b) : SI b 10 44 (-2147483648) 2147483647 := by rcases h with rfl <;> exact ⟨by decide, rfl, rfl, by decide, rfl, rfl, rfl⟩
theorem sX10_46 {b : Nat} (h : isX10 b) : SI b 10 46 13 13 := by rcases h with rfl <;> exact ⟨by decide, rfl, rfl, by decide, rfl, rfl, rfl⟩
def dtX10_isCounted : List (Nat × Instr × Nat) := [(0, .aload_n 0, 1), (1, .getfield 281, 3), (4, .bipush 60, 2), (6, .if_icmp .ne 9, 3), (9, .aload_n 0, 1), (10, .iconst 3, 1), (11, .iload_n 1, 1), (12, .invokevirtual 284, 3), (15, .aload_n 0, 1), (16, .dup, 1), (17, .getfield 281, 3), (20, .iconst 1, 1), (21, .iadd, 1), (22, .putfield 281, 3), (25, .return_, 1)]
set_option maxRecDepth 100000 in
theorem tX10_isCounted : ∀ q ∈ dtX10_isCounted, decode cX10_isCounted q.1 = .ok (q.2.1, q.2.2) := by decide +kernel
def dtX10_digits : List (Nat × Instr × Nat) := [(0, .aload_n 0, 1), (1, .invokevirtual 288, 3), (4, .ifCond .ne 14, 3), (7, .aload_n 0, 1), (8, .iconst 0, 1), (9, .aload_n 0, 1), (10, .getfield 249, 3), (13, .invokevirtual 284, 3), (16, .iconst 0, 1), (17, .ireturn, 1), (18, .aload_n 0, 1), (19, .getfield 249, 3), (22, .istore_n 2, 1), (23, .iconst 0, 1), (24, .istore_n 3, 1), (25, .aload_n 0, 1), (26, .invokevirtual 288, 3), (29, .ifCond .eq 43, 3), (32, .aload_n 0, 1), (33, .getfield 249, 3), (36, .iload_n 2, 1), (37, .isub, 1), (38, .iconst 5, 1), (39, .if_icmp .ge 18, 3), (42, .bipush 10, 2), (44, .iload_n 3, 1), (45, .imul, 1), (46, .aload_n 0, 1), (47, .invokevirtual 252, 3), (50, .iadd, 1), (51, .bipush 48, 2), (53, .isub, 1), (54, .goto 4, 3), (57, .iload_n 3, 1), (58, .istore_n 3, 1), (59, .aload_n 0, 1), (60, .dup, 1), (61, .getfield 249, 3), (64, .iconst 1, 1), (65, .iadd, 1), (66, .putfield 249, 3), (69, .goto (-44), 3), (72, .aload_n 0, 1), (73, .getfield 249, 3), (76, .iload_n 2, 1), (77, .isub, 1), (78, .iconst 5, 1), (79, .if_icmp .gt 8, 3), (82, .iload_n 3, 1), (83, .iload_n 1, 1), (84, .if_icmp .le 9, 3), (87, .aload_n 0, 1), (88, .iconst 1, 1), (89, .iload_n 2, 1), (90, .invokevirtual 284, 3), (93, .iload_n 3, 1), (94, .ireturn, 1)]
set_option maxRecDepth 100000 in
theorem tX10_digits : ∀ q ∈ dtX10_digits, decode cX10_digits q.1 = .ok (q.2.1, q.2.2) := by decide +kernel
def dtX10_value : List (Nat × Instr × Nat) := [(0, .aload_n 0, 1), (1, .invokevirtual 268, 3), (4, .aload_n 0, 1), (5, .getfield 249, 3), (8, .istore_n 1, 1), (9, .aload_n 0, 1), (10, .invokevirtual 288, 3), (13, .ifCond .eq 23, 3), (16, .aload_n 0, 1), (17, .ldc_w 292, 3), (20, .invokevirtual 293, 3), (23, .istore_n 2, 1), (24, .aload_n 0, 1), (25, .iload_n 1, 1), (26, .invokevirtual 296, 3), (29, .aload_n 0, 1), (30, .iconst 0, 1), (31, .iload_n 2, 1), (32, .invokevirtual 299, 3), (35, .return_, 1), (36, .iconst 0, 1), (37, .istore_n 2, 1), (38, .iload_n 2, 1), (39, .aload_n 0, 1), (40, .getfield 118, 3), (43, .if_icmp .ge 20, 3), (46, .aload_n 0, 1), (47, .iload_n 2, 1), (48, .invokestatic 302, 3), (51, .invokevirtual 271, 3), (54, .ifCond .ne 9, 3), (57, .iinc 2 1, 3), (60, .goto (-22), 3), (63, .iload_n 2, 1), (64, .aload_n 0, 1), (65, .getfield 118, 3), (68, .if_icmp .ne 10, 3), (71, .aload_n 0, 1), (72, .iconst 0, 1), (73, .iload_n 1, 1), (74, .invokevirtual 284, 3), (77, .return_, 1), (78, .aload_n 0, 1), (79, .iload_n 1, 1), (80, .invokevirtual 296, 3), (83, .aload_n 0, 1), (84, .dup, 1), (85, .getfield 249, 3), (88, .iload_n 2, 1), (89, .invokestatic 302, 3), (92, .invokevirtual 260, 3), (95, .iadd, 1), (96, .putfield 249, 3), (99, .aload_n 0, 1), (100, .iconst 1, 1), (101, .iload_n 2, 1), (102, .invokevirtual 299, 3), (105, .return_, 1)]
set_option maxRecDepth 100000 in
theorem tX10_value : ∀ q ∈ dtX10_value, decode cX10_value q.1 = .ok (q.2.1, q.2.2) := by decide +kernel
