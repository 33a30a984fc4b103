theorem wd_1173 : (Cond.fieldLink RX10 249 "RaftForestModel" "p" "I" : Cond) ∈ wsB := wt5 (List.mem_of_getElem? (i := 213) rfl) rfl
theorem wd_1183 : (Cond.fieldLink RX10 122 "RaftForestModel" "tape" "[B" : Cond) ∈ wsB := wt5 (List.mem_of_getElem? (i := 223) rfl) rfl
theorem wd_1401 : (Cond.methodLink RX10 268 yX10_blanks : Cond) ∈ wsB := wt6 (List.mem_of_getElem? (i := 201) rfl) rfl
theorem wd_1403 : (Cond.instanceMethod yX10_blanks : Cond) ∈ wsB := wt6 (List.mem_of_getElem? (i := 203) rfl) rfl
theorem wd_1404 : (Cond.code yX10_blanks cX10_blanks 1 none : Cond) ∈ wsB := wt6 (List.mem_of_getElem? (i := 204) rfl) rfl
theorem wd_1405 : (Cond.methodLink RX10 252 yX10_sign : Cond) ∈ wsB := wt6 (List.mem_of_getElem? (i := 205) rfl) rfl
theorem wd_1407 : (Cond.instanceMethod yX10_sign : Cond) ∈ wsB := wt6 (List.mem_of_getElem? (i := 207) rfl) rfl
theorem wd_1408 : (Cond.code yX10_sign cX10_sign 1 (some .int) : Cond) ∈ wsB := wt6 (List.mem_of_getElem? (i := 208) rfl) rfl
theorem wd_1418 : (Cond.methodLink RX10 271 yX10_stood : Cond) ∈ wsB := wt6 (List.mem_of_getElem? (i := 218) rfl) rfl
theorem wd_1420 : (Cond.instanceMethod yX10_stood : Cond) ∈ wsB := wt6 (List.mem_of_getElem? (i := 220) rfl) rfl
theorem wd_1421 : (Cond.code yX10_stood cX10_stood 5 (some .boolean) : Cond) ∈ wsB := wt6 (List.mem_of_getElem? (i := 221) rfl) rfl
theorem wd_1422 : (Cond.methodLink RX10 260 yJ0_length_8abf5 : Cond) ∈ wsB := wt6 (List.mem_of_getElem? (i := 222) rfl) rfl
theorem wd_1423 : (Cond.methodLink RX10 264 yJ0_charAt_5068e : Cond) ∈ wsB := wt6 (List.mem_of_getElem? (i := 223) rfl) rfl
theorem wd_1449 : (Cond.constantLong RX10 256 (48) : Cond) ∈ wsB := wt7 (List.mem_of_getElem? (i := 9) rfl) rfl
theorem wd_1450 : (Cond.constantLong RX10 258 (57) : Cond) ∈ wsB := wt7 (List.mem_of_getElem? (i := 10) rfl) rfl
def Lwp_31 : List (Nat × Cond) := [(31, Cond.selects RX10 yX10_blanks yX10_blanks), (32, Cond.selects RX10 yX10_sign yX10_sign), (33, Cond.selects RX10 yX10_stood yX10_stood)]
set_option maxRecDepth 100000 in
theorem Lwp_31_ok : ∀ q ∈ Lwp_31, (k2_sels lw_privs)[q.1]? = some q.2 ∧ goodWord q.2 = true := by decide +kernel
theorem wp_31 : (Cond.selects RX10 yX10_blanks yX10_blanks : Cond) ∈ wsB := wpq Lwp_31_ok 0 rfl
theorem wp_32 : (Cond.selects RX10 yX10_sign yX10_sign : Cond) ∈ wsB := wpq Lwp_31_ok 1 rfl
theorem wp_33 : (Cond.selects RX10 yX10_stood yX10_stood : Cond) ∈ wsB := wpq Lwp_31_ok 2 rfl
theorem plX10_246 : FP RX10 246 10 39 .int := ⟨RX10, TX10, 80, rfl, inlX10, by decide, wd_1174, rfl, by decide +kernel, tyX10, tyX10_ok, nmX10⟩
theorem glX10_249 : FL RX10 249 10 38 := ⟨RX10, TX10, 80, rfl, inlX10, by decide, wd_1173⟩
theorem glX10_122 : FL RX10 122 10 48 := ⟨RX10, TX10, 80, rfl, inlX10, by decide, wd_1183⟩
theorem mlX10_252 : LV RX10 252 yX10_sign cX10_sign 1 (some .int) 0 := ⟨wd_1405, wd_1407, wp_32, wd_11, wd_1408, ⟨by decide, by decide, by decide +kernel⟩⟩
theorem plX10_249 : FP RX10 249 10 38 .int := ⟨RX10, TX10, 80, rfl, inlX10, by decide, wd_1173, rfl, by decide +kernel, tyX10, tyX10_ok, nmX10⟩
theorem mlX10_260 : LV RX10 260 yJ0_length_8abf5 cJ0_length_8abf5 1 (some .int) 0 := ⟨wd_1422, wd_497, wd_498, wd_13, wd_499, ⟨by decide, by decide, by decide +kernel⟩⟩
theorem mlX10_264 : LV RX10 264 yJ0_charAt_5068e cJ0_charAt_5068e 2 (some .char) 1 := ⟨wd_1423, wd_507, wd_508, wd_13, wd_509, ⟨by decide, by decide, by decide +kernel⟩⟩
theorem mlX10_268 : LV RX10 268 yX10_blanks cX10_blanks 1 none 0 := ⟨wd_1401, wd_1403, wp_31, wd_11, wd_1404, ⟨by decide, by decide, by decide +kernel⟩⟩
theorem mlX10_271 : LV RX10 271 yX10_stood cX10_stood 5 (some .boolean) 1 := ⟨wd_1418, wd_1420, wp_33, wd_11, wd_1421, ⟨by decide, by decide, by decide +kernel⟩⟩
theorem sX10_38 {b : Nat} (h : isX10 b) : SI b 10 38 0 402 := by rcases h with rfl <;> exact ⟨by decide, rfl, rfl, by decide, rfl, rfl, rfl⟩
theorem sX10_48 {b : Nat} (h : isX10 b) : SF b 10 48 (b + 37) := by rcases h with rfl <;> exact ⟨by decide, rfl, rfl, by decide, rfl, rfl⟩
theorem aX10_48 {b : Nat} (h : isX10 b) : AK (b + 37) 5 400 := by rcases h with rfl <;> exact ⟨by decide, rfl, rfl⟩
def dtX10_fails : List (Nat × Instr × Nat) := [(0, .aload_n 0, 1), (1, .aload_n 0, 1), (2, .getfield 246, 3), (5, .ifCond .ne 14, 3), (8, .iconst 1, 1), (9, .bipush 8, 2), (11, .iload_n 2, 1), (12, .imul, 1), (13, .iadd, 1), (14, .iload_n 1, 1), (15, .iadd, 1), (16, .goto 7, 3), (19, .aload_n 0, 1), (20, .getfield 246, 3), (23, .putfield 246, 3), (26, .return_, 1)]
set_option maxRecDepth 100000 in
theorem tX10_fails : ∀ q ∈ dtX10_fails, decode cX10_fails q.1 = .ok (q.2.1, q.2.2) := by decide +kernel
def dtX10_sign : List (Nat × Instr × Nat) := [(0, .aload_n 0, 1), (1, .getfield 249, 3), (4, .aload_n 0, 1), (5, .getfield 216, 3), (8, .if_icmp .ge 19, 3), (11, .aload_n 0, 1), (12, .getfield 122, 3), (15, .aload_n 0, 1), (16, .getfield 249, 3), (19, .baload, 1), (20, .sipush 255, 3), (23, .iand, 1), (24, .goto 4, 3), (27, .iconst (-1), 1), (28, .ireturn, 1)]
set_option maxRecDepth 100000 in
theorem tX10_sign : ∀ q ∈ dtX10_sign, decode cX10_sign q.1 = .ok (q.2.1, q.2.2) := by decide +kernel
def dtX10_blanks : List (Nat × Instr × Nat) := [(0, .aload_n 0, 1), (1, .invokevirtual 252, 3), (4, .bipush 32, 2), (6, .if_icmp .ne 16, 3), (9, .aload_n 0, 1), (10, .dup, 1), (11, .getfield 249, 3), (14, .iconst 1, 1), (15, .iadd, 1), (16, .putfield 249, 3), (19, .goto (-19), 3), (22, .return_, 1)]
set_option maxRecDepth 100000 in
theorem tX10_blanks : ∀ q ∈ dtX10_blanks, decode cX10_blanks q.1 = .ok (q.2.1, q.2.2) := by decide +kernel
def dtX10_isDigit : List (Nat × Instr × Nat) := [(0, .aload_n 0, 1), (1, .invokevirtual 252, 3), (4, .i2l, 1), (5, .ldc2_w 256, 3), (8, .ldc2_w 258, 3), (11, .invokestatic 191, 3), (14, .ireturn, 1)]
set_option maxRecDepth 100000 in
theorem tX10_isDigit : ∀ q ∈ dtX10_isDigit, decode cX10_isDigit q.1 = .ok (q.2.1, q.2.2) := by decide +kernel
def dtX10_wordOf : List (Nat × Instr × Nat) := [(0, .iload_n 0, 1), (1, .tableswitch 99 0 11 #[63, 66, 69, 72, 75, 78, 81, 84, 87, 90, 93, 96], 63), (64, .ldc 223, 2), (66, .areturn, 1), (67, .ldc 225, 2), (69, .areturn, 1), (70, .ldc 226, 2), (72, .areturn, 1), (73, .ldc 227, 2), (75, .areturn, 1), (76, .ldc 229, 2), (78, .areturn, 1), (79, .ldc 231, 2), (81, .areturn, 1), (82, .ldc 233, 2), (84, .areturn, 1), (85, .ldc 235, 2), (87, .areturn, 1), (88, .ldc 237, 2), (90, .areturn, 1), (91, .ldc 239, 2), (93, .areturn, 1), (94, .ldc 240, 2), (96, .areturn, 1), (97, .ldc 242, 2), (99, .areturn, 1), (100, .ldc 244, 2), (102, .areturn, 1)]
set_option maxRecDepth 100000 in
theorem tX10_wordOf : ∀ q ∈ dtX10_wordOf, decode cX10_wordOf q.1 = .ok (q.2.1, q.2.2) := by decide +kernel
def dtX10_actWord : List (Nat × Instr × Nat) := [(0, .iload_n 0, 1), (1, .tableswitch 47 0 3 #[31, 35, 39, 43], 31), (32, .ldc_w 384, 3), (35, .areturn, 1), (36, .ldc_w 386, 3), (39, .areturn, 1), (40, .ldc_w 388, 3), (43, .areturn, 1), (44, .ldc_w 390, 3), (47, .areturn, 1), (48, .ldc_w 392, 3), (51, .areturn, 1)]
set_option maxRecDepth 100000 in
theorem tX10_actWord : ∀ q ∈ dtX10_actWord, decode cX10_actWord q.1 = .ok (q.2.1, q.2.2) := by decide +kernel
def dtX10_stood : List (Nat × Instr × Nat) := [(0, .aload_n 0, 1), (1, .getfield 249, 3), (4, .istore_n 2, 1), (5, .iload_n 2, 1), (6, .aload_n 0, 1), (7, .getfield 216, 3), (10, .if_icmp .ge 31, 3), (13, .aload_n 0, 1), (14, .getfield 122, 3), (17, .iload_n 2, 1), (18, .baload, 1), (19, .bipush 97, 2), (21, .if_icmp .lt 20, 3), (24, .aload_n 0, 1), (25, .getfield 122, 3), (28, .iload_n 2, 1), (29, .baload, 1), (30, .bipush 122, 2), (32, .if_icmp .gt 9, 3), (35, .iinc 2 1, 3), (38, .goto (-33), 3), (41, .iload_n 2, 1), (42, .aload_n 0, 1), (43, .getfield 249, 3), (46, .isub, 1), (47, .aload_n 1, 1), (48, .invokevirtual 260, 3), (51, .if_icmp .ne 7, 3), (54, .iconst 1, 1), (55, .goto 4, 3), (58, .iconst 0, 1), (59, .istore_n 3, 1), (60, .iconst 0, 1), (61, .istore 4, 2), (63, .iload 4, 2), (65, .aload_n 1, 1), (66, .invokevirtual 260, 3), (69, .if_icmp .ge 40, 3), (72, .iload_n 3, 1), (73, .ifCond .eq 36, 3), (76, .aload_n 0, 1), (77, .getfield 122, 3), (80, .aload_n 0, 1), (81, .getfield 249, 3), (84, .iload 4, 2), (86, .iadd, 1), (87, .baload, 1), (88, .aload_n 1, 1), (89, .iload 4, 2), (91, .invokevirtual 264, 3), (94, .if_icmp .ne 7, 3), (97, .iconst 1, 1), (98, .goto 4, 3), (101, .iconst 0, 1), (102, .istore_n 3, 1), (103, .iinc 4 1, 3), (106, .goto (-43), 3), (109, .iload_n 3, 1), (110, .ireturn, 1)]
set_option maxRecDepth 100000 in
theorem tX10_stood : ∀ q ∈ dtX10_stood, decode cX10_stood q.1 = .ok (q.2.1, q.2.2) := by decide +kernel
def dtX10_takes : List (Nat × Instr × Nat) := [(0, .aload_n 0, 1), (1, .invokevirtual 268, 3), (4, .aload_n 0, 1), (5, .aload_n 1, 1), (6, .invokevirtual 271, 3), (9, .istore_n 2, 1), (10, .aload_n 0, 1), (11, .dup, 1), (12, .getfield 249, 3), (15, .iload_n 2, 1), (16, .ifCond .eq 10, 3), (19, .aload_n 1, 1), (20, .invokevirtual 260, 3), (23, .goto 4, 3), (26, .iconst 0, 1), (27, .iadd, 1), (28, .putfield 249, 3), (31, .iload_n 2, 1), (32, .ireturn, 1)]
set_option maxRecDepth 100000 in
theorem tX10_takes : ∀ q ∈ dtX10_takes, decode cX10_takes q.1 = .ok (q.2.1, q.2.2) := by decide +kernel
