theorem wd_3 : (Cond.initialized RX3 : Cond) ∈ wsB := wt1 (List.mem_of_getElem? (i := 3) rfl) rfl
theorem wd_44 : (Cond.fieldLink RX3 99 "RaftForest$Tape" "fault" "I" : Cond) ∈ wsB := wt1 (List.mem_of_getElem? (i := 44) rfl) rfl
theorem wd_73 : (Cond.fieldLink RX3 71 "RaftForest$River" "bends" "I" : Cond) ∈ wsB := wt1 (List.mem_of_getElem? (i := 73) rfl) rfl
theorem wd_76 : (Cond.fieldLink RX3 58 "RaftForest$River" "villages" "I" : Cond) ∈ wsB := wt1 (List.mem_of_getElem? (i := 76) rfl) rfl
theorem wd_80 : (Cond.fieldLink RX3 61 "RaftForest$River" "woods" "I" : Cond) ∈ wsB := wt1 (List.mem_of_getElem? (i := 80) rfl) rfl
theorem wd_83 : (Cond.fieldLink RX6 55 "RaftForest$River" "logs" "I" : Cond) ∈ wsB := wt1 (List.mem_of_getElem? (i := 83) rfl) rfl
theorem wd_84 : (Cond.fieldLink RX3 64 "RaftForest$River" "logs" "I" : Cond) ∈ wsB := wt1 (List.mem_of_getElem? (i := 84) rfl) rfl
theorem wd_88 : (Cond.fieldLink RX3 96 "RaftForest$River" "toll" "I" : Cond) ∈ wsB := wt1 (List.mem_of_getElem? (i := 88) rfl) rfl
theorem wd_93 : (Cond.fieldLink RX3 74 "RaftForest$River" "villageBends" "[I" : Cond) ∈ wsB := wt1 (List.mem_of_getElem? (i := 93) rfl) rfl
theorem wd_96 : (Cond.fieldLink RX3 78 "RaftForest$River" "widths" "[I" : Cond) ∈ wsB := wt1 (List.mem_of_getElem? (i := 96) rfl) rfl
theorem wd_100 : (Cond.fieldLink RX3 81 "RaftForest$River" "woodPrices" "[I" : Cond) ∈ wsB := wt1 (List.mem_of_getElem? (i := 100) rfl) rfl
theorem wd_103 : (Cond.fieldLink RX3 84 "RaftForest$River" "logWoods" "[I" : Cond) ∈ wsB := wt1 (List.mem_of_getElem? (i := 103) rfl) rfl
theorem wd_107 : (Cond.fieldLink RX6 67 "RaftForest$River" "logLengths" "[I" : Cond) ∈ wsB := wt1 (List.mem_of_getElem? (i := 107) rfl) rfl
theorem wd_108 : (Cond.fieldLink RX3 87 "RaftForest$River" "logLengths" "[I" : Cond) ∈ wsB := wt1 (List.mem_of_getElem? (i := 108) rfl) rfl
theorem wd_110 : (Cond.fieldLink RX3 90 "RaftForest$River" "logRings" "[I" : Cond) ∈ wsB := wt1 (List.mem_of_getElem? (i := 110) rfl) rfl
theorem wd_114 : (Cond.fieldLink RX6 74 "RaftForest$River" "logVillages" "[I" : Cond) ∈ wsB := wt1 (List.mem_of_getElem? (i := 114) rfl) rfl
theorem wd_115 : (Cond.fieldLink RX3 93 "RaftForest$River" "logVillages" "[I" : Cond) ∈ wsB := wt1 (List.mem_of_getElem? (i := 115) rfl) rfl
theorem wd_141 : (Cond.fieldLink RX3 12 "RaftForest$RiverReader" "told" "LRaftForest$River;" : Cond) ∈ wsB := wt1 (List.mem_of_getElem? (i := 141) rfl) rfl
theorem wd_143 : (Cond.fieldLink RX3 18 "RaftForest$RiverReader" "tape" "LRaftForest$Tape;" : Cond) ∈ wsB := wt1 (List.mem_of_getElem? (i := 143) rfl) rfl
theorem wd_144 : (Cond.fieldLink RX3 25 "RaftForest$RiverReader" "tollTold" "Z" : Cond) ∈ wsB := wt1 (List.mem_of_getElem? (i := 144) rfl) rfl
theorem wd_544 : (Cond.methodLink RX3 40 yX7_fails : Cond) ∈ wsB := wt3 (List.mem_of_getElem? (i := 64) rfl) rfl
theorem wd_552 : (Cond.methodLink RX3 48 yX7_pass : Cond) ∈ wsB := wt3 (List.mem_of_getElem? (i := 72) rfl) rfl
theorem wd_557 : (Cond.methodLink RX3 67 yX3_readNumber : Cond) ∈ wsB := wt3 (List.mem_of_getElem? (i := 77) rfl) rfl
theorem wd_559 : (Cond.instanceMethod yX3_readNumber : Cond) ∈ wsB := wt3 (List.mem_of_getElem? (i := 79) rfl) rfl
theorem wd_560 : (Cond.code yX3_readNumber cX3_readNumber 4 (some .int) : Cond) ∈ wsB := wt3 (List.mem_of_getElem? (i := 80) rfl) rfl
theorem wd_561 : (Cond.methodLink RX3 102 yX7_isNumber : Cond) ∈ wsB := wt3 (List.mem_of_getElem? (i := 81) rfl) rfl
theorem wd_565 : (Cond.methodLink RX3 106 yX7_number : Cond) ∈ wsB := wt3 (List.mem_of_getElem? (i := 85) rfl) rfl
theorem wd_586 : (Cond.methodLink RX6 61 yJ7_fill_53178 : Cond) ∈ wsB := wt3 (List.mem_of_getElem? (i := 106) rfl) rfl
theorem wd_588 : (Cond.methodLink RX6 77 yX6_notchBehind : Cond) ∈ wsB := wt3 (List.mem_of_getElem? (i := 108) rfl) rfl
theorem wd_597 : (Cond.methodLink RX0 52 yJ7_fill_53178 : Cond) ∈ wsB := wt3 (List.mem_of_getElem? (i := 117) rfl) rfl
def Lwp_2 : List (Nat × Cond) := [(2, Cond.selects RX3 yX3_readNumber yX3_readNumber)]
set_option maxRecDepth 100000 in
theorem Lwp_2_ok : ∀ q ∈ Lwp_2, (k2_sels lw_privs)[q.1]? = some q.2 ∧ goodWord q.2 = true := by decide +kernel
theorem wp_2 : (Cond.selects RX3 yX3_readNumber yX3_readNumber : Cond) ∈ wsB := wpq Lwp_2_ok 0 rfl
theorem glX6_55 : FL RX6 55 2 3 := ⟨RX2, TX2, 12, rfl, inlX2, by decide, wd_83⟩
theorem mlX6_61 : LT RX6 61 yJ7_fill_53178 cJ7_fill_53178 4 none 2 := ⟨wd_586, wd_481, wd_12, wd_482, ⟨by decide, by decide, by decide +kernel⟩⟩
theorem glX6_67 : FL RX6 67 2 9 := ⟨RX2, TX2, 12, rfl, inlX2, by decide, wd_107⟩
theorem glX6_74 : FL RX6 74 2 11 := ⟨RX2, TX2, 12, rfl, inlX2, by decide, wd_114⟩
theorem mlX6_77 : LV RX6 77 yX6_notchBehind cX6_notchBehind 4 none 2 := ⟨wd_588, wd_589, wd_590, wd_8, wd_591, ⟨by decide, by decide, by decide +kernel⟩⟩
theorem mlX0_52 : LT RX0 52 yJ7_fill_53178 cJ7_fill_53178 4 none 2 := ⟨wd_597, wd_481, wd_12, wd_482, ⟨by decide, by decide, by decide +kernel⟩⟩
theorem glX3_18 : FL RX3 18 3 1 := ⟨RX3, TX3, 3, rfl, inlX3, by decide, wd_143⟩
theorem glX3_99 : FL RX3 99 7 5 := ⟨RX7, TX7, 6, rfl, inlX7, by decide, wd_44⟩
theorem mlX3_102 : LV RX3 102 yX7_isNumber cX7_isNumber 1 (some .boolean) 0 := ⟨wd_561, wd_562, wd_563, wd_2, wd_564, ⟨by decide, by decide, by decide +kernel⟩⟩
theorem mlX3_40 : LV RX3 40 yX7_fails cX7_fails 2 (some .boolean) 1 := ⟨wd_544, wd_545, wd_546, wd_2, wd_547, ⟨by decide, by decide, by decide +kernel⟩⟩
theorem mlX3_106 : LV RX3 106 yX7_number cX7_number 3 (some .int) 0 := ⟨wd_565, wd_566, wd_567, wd_2, wd_568, ⟨by decide, by decide, by decide +kernel⟩⟩
theorem mlX3_48 : LV RX3 48 yX7_pass cX7_pass 4 none 0 := ⟨wd_552, wd_488, wd_489, wd_2, wd_490, ⟨by decide, by decide, by decide +kernel⟩⟩
theorem glX3_12 : FL RX3 12 3 0 := ⟨RX3, TX3, 3, rfl, inlX3, by decide, wd_141⟩
theorem glX3_58 : FL RX3 58 2 1 := ⟨RX2, TX2, 12, rfl, inlX2, by decide, wd_76⟩
theorem glX3_61 : FL RX3 61 2 2 := ⟨RX2, TX2, 12, rfl, inlX2, by decide, wd_80⟩
theorem glX3_64 : FL RX3 64 2 3 := ⟨RX2, TX2, 12, rfl, inlX2, by decide, wd_84⟩
theorem glX3_25 : FL RX3 25 3 2 := ⟨RX3, TX3, 3, rfl, inlX3, by decide, wd_144⟩
theorem mlX3_67 : LV RX3 67 yX3_readNumber cX3_readNumber 4 (some .int) 2 := ⟨wd_557, wd_559, wp_2, wd_3, wd_560, ⟨by decide, by decide, by decide +kernel⟩⟩
theorem plX3_71 : FP RX3 71 2 0 .int := ⟨RX2, TX2, 12, rfl, inlX2, by decide, wd_73, rfl, by decide +kernel, tyX2, tyX2_ok, nmX2⟩
theorem glX3_74 : FL RX3 74 2 5 := ⟨RX2, TX2, 12, rfl, inlX2, by decide, wd_93⟩
theorem glX3_71 : FL RX3 71 2 0 := ⟨RX2, TX2, 12, rfl, inlX2, by decide, wd_73⟩
theorem plX3_58 : FP RX3 58 2 1 .int := ⟨RX2, TX2, 12, rfl, inlX2, by decide, wd_76, rfl, by decide +kernel, tyX2, tyX2_ok, nmX2⟩
theorem glX3_78 : FL RX3 78 2 6 := ⟨RX2, TX2, 12, rfl, inlX2, by decide, wd_96⟩
theorem glX3_81 : FL RX3 81 2 7 := ⟨RX2, TX2, 12, rfl, inlX2, by decide, wd_100⟩
theorem plX3_61 : FP RX3 61 2 2 .int := ⟨RX2, TX2, 12, rfl, inlX2, by decide, wd_80, rfl, by decide +kernel, tyX2, tyX2_ok, nmX2⟩
theorem glX3_84 : FL RX3 84 2 8 := ⟨RX2, TX2, 12, rfl, inlX2, by decide, wd_103⟩
theorem glX3_87 : FL RX3 87 2 9 := ⟨RX2, TX2, 12, rfl, inlX2, by decide, wd_108⟩
theorem glX3_90 : FL RX3 90 2 10 := ⟨RX2, TX2, 12, rfl, inlX2, by decide, wd_110⟩
theorem glX3_93 : FL RX3 93 2 11 := ⟨RX2, TX2, 12, rfl, inlX2, by decide, wd_115⟩
theorem plX3_64 : FP RX3 64 2 3 .int := ⟨RX2, TX2, 12, rfl, inlX2, by decide, wd_84, rfl, by decide +kernel, tyX2, tyX2_ok, nmX2⟩
theorem plX3_96 : FP RX3 96 2 4 .int := ⟨RX2, TX2, 12, rfl, inlX2, by decide, wd_88, rfl, by decide +kernel, tyX2, tyX2_ok, nmX2⟩
theorem plX3_25 : FP RX3 25 3 2 .boolean := ⟨RX3, TX3, 3, rfl, inlX3, by decide, wd_144, rfl, by decide +kernel, tyX3, tyX3_ok, nmX3⟩
theorem sX3_1 {b : Nat} (h : isX3 b) : SF b 3 1 (7) := by rcases h with rfl <;> exact ⟨by decide, rfl, rfl, by decide, rfl, rfl⟩
theorem sX3_0 {b : Nat} (h : isX3 b) : SF b 3 0 (10) := by rcases h with rfl <;> exact ⟨by decide, rfl, rfl, by decide, rfl, rfl⟩
theorem sX3_2 {b : Nat} (h : isX3 b) : SI b 3 2 0 1 := by rcases h with rfl <;> exact ⟨by decide, rfl, rfl, by decide, rfl, rfl, rfl⟩
theorem obX3 {b : Nat} (h : isX3 b) : OB b RX3 := by rcases h with rfl <;> exact ⟨by decide, rfl, _, _, rfl⟩
def dtX6_start : List (Nat × Instr × Nat) := [(0, .aload_n 0, 1), (1, .iconst 0, 1), (2, .putfield 43, 3), (5, .aload_n 0, 1), (6, .bipush 50, 2), (8, .putfield 46, 3), (11, .aload_n 0, 1), (12, .iconst (-1), 1), (13, .putfield 9, 3), (16, .aload_n 0, 1), (17, .iconst 0, 1), (18, .putfield 49, 3), (21, .aload_n 0, 1), (22, .iconst 0, 1), (23, .putfield 52, 3), (26, .aload_n 0, 1), (27, .aload_n 1, 1), (28, .getfield 55, 3), (31, .putfield 60, 3), (34, .aload_n 0, 1), (35, .getfield 15, 3), (38, .iconst (-1), 1), (39, .invokestatic 61, 3), (42, .aload_n 0, 1), (43, .getfield 19, 3), (46, .iconst 0, 1), (47, .invokestatic 61, 3), (50, .aload_n 0, 1), (51, .getfield 28, 3), (54, .iconst 0, 1), (55, .invokestatic 61, 3), (58, .aload_n 0, 1), (59, .getfield 31, 3), (62, .iconst 0, 1), (63, .invokestatic 61, 3), (66, .aload_n 1, 1), (67, .getfield 67, 3), (70, .aload_n 0, 1), (71, .getfield 25, 3), (74, .invokestatic 70, 3), (77, .iconst 0, 1), (78, .istore_n 2, 1), (79, .iload_n 2, 1), (80, .aload_n 0, 1), (81, .getfield 60, 3), (84, .if_icmp .ge 49, 3), (87, .aload_n 0, 1), (88, .getfield 22, 3), (91, .iload_n 2, 1), (92, .bipush 20, 2), (94, .aload_n 1, 1), (95, .getfield 74, 3), (98, .iload_n 2, 1), (99, .iaload, 1), (100, .iadd, 1), (101, .iastore, 1), (102, .aload_n 0, 1), (103, .getfield 34, 3), (106, .iload_n 2, 1), (107, .iload_n 2, 1), (108, .iastore, 1), (109, .aload_n 0, 1), (110, .getfield 37, 3), (113, .iload_n 2, 1), (114, .iconst 0, 1), (115, .iastore, 1), (116, .aload_n 0, 1), (117, .iload_n 2, 1), (118, .aload_n 1, 1), (119, .getfield 74, 3), (122, .iload_n 2, 1), (123, .iaload, 1), (124, .invokevirtual 77, 3), (127, .iinc 2 1, 3), (130, .goto (-51), 3), (133, .return_, 1)]
set_option maxRecDepth 100000 in
theorem tX6_start : ∀ q ∈ dtX6_start, decode cX6_start q.1 = .ok (q.2.1, q.2.2) := by decide +kernel
def dtX0_start : List (Nat × Instr × Nat) := [(0, .aload_n 0, 1), (1, .iconst 0, 1), (2, .putfield 48, 3), (5, .aload_n 0, 1), (6, .getfield 9, 3), (9, .iconst 0, 1), (10, .invokestatic 52, 3), (13, .aload_n 0, 1), (14, .getfield 15, 3), (17, .iconst 0, 1), (18, .invokestatic 52, 3), (21, .aload_n 0, 1), (22, .iconst 0, 1), (23, .putfield 58, 3), (26, .aload_n 0, 1), (27, .iconst 0, 1), (28, .putfield 61, 3), (31, .aload_n 0, 1), (32, .iconst 0, 1), (33, .putfield 64, 3), (36, .return_, 1)]
set_option maxRecDepth 100000 in
theorem tX0_start : ∀ q ∈ dtX0_start, decode cX0_start q.1 = .ok (q.2.1, q.2.2) := by decide +kernel
def dtX3_readNumber : List (Nat × Instr × Nat) := [(0, .aload_n 0, 1), (1, .getfield 18, 3), (4, .getfield 99, 3), (7, .ifCond .eq 5, 3), (10, .iconst (-1), 1), (11, .ireturn, 1), (12, .aload_n 0, 1), (13, .getfield 18, 3), (16, .invokevirtual 102, 3), (19, .ifCond .eq 13, 3), (22, .aload_n 0, 1), (23, .getfield 18, 3), (26, .invokevirtual 106, 3), (29, .goto 4, 3), (32, .iconst (-1), 1), (33, .istore_n 3, 1), (34, .iload_n 3, 1), (35, .iload_n 1, 1), (36, .if_icmp .lt 17, 3), (39, .iload_n 3, 1), (40, .iload_n 2, 1), (41, .if_icmp .gt 12, 3), (44, .aload_n 0, 1), (45, .getfield 18, 3), (48, .invokevirtual 48, 3), (51, .iload_n 3, 1), (52, .ireturn, 1), (53, .aload_n 0, 1), (54, .getfield 18, 3), (57, .aload_n 0, 1), (58, .getfield 18, 3), (61, .invokevirtual 102, 3), (64, .ifCond .eq 7, 3), (67, .iconst 1, 1), (68, .goto 4, 3), (71, .iconst 0, 1), (72, .invokevirtual 40, 3), (75, .pop, 1), (76, .iconst (-1), 1), (77, .ireturn, 1)]
set_option maxRecDepth 100000 in
theorem tX3_readNumber : ∀ q ∈ dtX3_readNumber, decode cX3_readNumber q.1 = .ok (q.2.1, q.2.2) := by decide +kernel
def dtX3_isTooMany : List (Nat × Instr × Nat) := [(0, .iload_n 1, 1), (1, .ifCond .ne 7, 3), (4, .iconst 1, 1), (5, .goto 4, 3), (8, .iconst 0, 1), (9, .iload_n 2, 1), (10, .ifCond .ne 7, 3), (13, .iconst 1, 1), (14, .goto 4, 3), (17, .iconst 0, 1), (18, .if_icmp .eq 5, 3), (21, .iconst 1, 1), (22, .ireturn, 1), (23, .iload_n 1, 1), (24, .tableswitch 94 1 5 #[36, 94, 54, 71, 89], 36), (60, .aload_n 0, 1), (61, .getfield 12, 3), (64, .getfield 58, 3), (67, .bipush 6, 2), (69, .if_icmp .lt 7, 3), (72, .iconst 1, 1), (73, .goto 4, 3), (76, .iconst 0, 1), (77, .ireturn, 1), (78, .aload_n 0, 1), (79, .getfield 12, 3), (82, .getfield 61, 3), (85, .iconst 4, 1), (86, .if_icmp .lt 7, 3), (89, .iconst 1, 1), (90, .goto 4, 3), (93, .iconst 0, 1), (94, .ireturn, 1), (95, .aload_n 0, 1), (96, .getfield 12, 3), (99, .getfield 64, 3), (102, .bipush 12, 2), (104, .if_icmp .lt 7, 3), (107, .iconst 1, 1), (108, .goto 4, 3), (111, .iconst 0, 1), (112, .ireturn, 1), (113, .aload_n 0, 1), (114, .getfield 25, 3), (117, .ireturn, 1), (118, .iconst 0, 1), (119, .ireturn, 1)]
set_option maxRecDepth 100000 in
theorem tX3_isTooMany : ∀ q ∈ dtX3_isTooMany, decode cX3_isTooMany q.1 = .ok (q.2.1, q.2.2) := by decide +kernel
def dtX3_readsClause : List (Nat × Instr × Nat) := [(0, .iload_n 1, 1), (1, .tableswitch 294 0 4 #[35, 52, 97, 138, 176], 35), (36, .aload_n 0, 1), (37, .getfield 12, 3), (40, .aload_n 0, 1), (41, .iconst 2, 1), (42, .bipush 9, 2), (44, .invokevirtual 67, 3), (47, .putfield 71, 3), (50, .goto 264, 3), (53, .aload_n 0, 1), (54, .getfield 12, 3), (57, .getfield 74, 3), (60, .aload_n 0, 1), (61, .getfield 12, 3), (64, .getfield 58, 3), (67, .aload_n 0, 1), (68, .iconst 0, 1), (69, .aload_n 0, 1), (70, .getfield 12, 3), (73, .getfield 71, 3), (76, .iconst 1, 1), (77, .isub, 1), (78, .invokevirtual 67, 3), (81, .iastore, 1), (82, .aload_n 0, 1), (83, .getfield 12, 3), (86, .dup, 1), (87, .getfield 58, 3), (90, .iconst 1, 1), (91, .iadd, 1), (92, .putfield 58, 3), (95, .goto 219, 3), (98, .aload_n 0, 1), (99, .iconst 0, 1), (100, .aload_n 0, 1), (101, .getfield 12, 3), (104, .getfield 71, 3), (107, .iconst 1, 1), (108, .isub, 1), (109, .invokevirtual 67, 3), (112, .istore_n 2, 1), (113, .aload_n 0, 1), (114, .iconst 1, 1), (115, .bipush 9, 2), (117, .invokevirtual 67, 3), (120, .istore_n 3, 1), (121, .iload_n 2, 1), (122, .iconst (-1), 1), (123, .if_icmp .eq 191, 3), (126, .aload_n 0, 1), (127, .getfield 12, 3), (130, .getfield 78, 3), (133, .iload_n 2, 1), (134, .iload_n 3, 1), (135, .iastore, 1), (136, .goto 178, 3), (139, .aload_n 0, 1), (140, .getfield 12, 3), (143, .getfield 81, 3), (146, .aload_n 0, 1), (147, .getfield 12, 3), (150, .getfield 61, 3), (153, .aload_n 0, 1), (154, .iconst 1, 1), (155, .bipush 99, 2), (157, .invokevirtual 67, 3), (160, .iastore, 1), (161, .aload_n 0, 1), (162, .getfield 12, 3), (165, .dup, 1), (166, .getfield 61, 3), (169, .iconst 1, 1), (170, .iadd, 1), (171, .putfield 61, 3), (174, .goto 140, 3), (177, .aload_n 0, 1), (178, .getfield 12, 3), (181, .getfield 84, 3), (184, .aload_n 0, 1), (185, .getfield 12, 3), (188, .getfield 64, 3), (191, .aload_n 0, 1), (192, .iconst 0, 1), (193, .aload_n 0, 1), (194, .getfield 12, 3), (197, .getfield 61, 3), (200, .iconst 1, 1), (201, .isub, 1), (202, .invokevirtual 67, 3), (205, .iastore, 1), (206, .aload_n 0, 1), (207, .getfield 12, 3), (210, .getfield 87, 3), (213, .aload_n 0, 1), (214, .getfield 12, 3), (217, .getfield 64, 3), (220, .aload_n 0, 1), (221, .iconst 1, 1), (222, .bipush 99, 2), (224, .invokevirtual 67, 3), (227, .iastore, 1), (228, .aload_n 0, 1), (229, .getfield 12, 3), (232, .getfield 90, 3), (235, .aload_n 0, 1), (236, .getfield 12, 3), (239, .getfield 64, 3), (242, .aload_n 0, 1), (243, .iconst 1, 1), (244, .bipush 99, 2), (246, .invokevirtual 67, 3), (249, .iastore, 1), (250, .aload_n 0, 1), (251, .getfield 12, 3), (254, .getfield 93, 3), (257, .aload_n 0, 1), (258, .getfield 12, 3), (261, .getfield 64, 3), (264, .aload_n 0, 1), (265, .iconst 0, 1), (266, .aload_n 0, 1), (267, .getfield 12, 3), (270, .getfield 58, 3), (273, .iconst 1, 1), (274, .isub, 1), (275, .invokevirtual 67, 3), (278, .iastore, 1), (279, .aload_n 0, 1), (280, .getfield 12, 3), (283, .dup, 1), (284, .getfield 64, 3), (287, .iconst 1, 1), (288, .iadd, 1), (289, .putfield 64, 3), (292, .goto 22, 3), (295, .aload_n 0, 1), (296, .getfield 12, 3), (299, .aload_n 0, 1), (300, .iconst 0, 1), (301, .bipush 9, 2), (303, .invokevirtual 67, 3), (306, .putfield 96, 3), (309, .aload_n 0, 1), (310, .iconst 1, 1), (311, .putfield 25, 3), (314, .aload_n 0, 1), (315, .getfield 18, 3), (318, .getfield 99, 3), (321, .ifCond .ne 7, 3), (324, .iconst 1, 1), (325, .goto 4, 3), (328, .iconst 0, 1), (329, .ireturn, 1)]
set_option maxRecDepth 100000 in
theorem tX3_readsClause : ∀ q ∈ dtX3_readsClause, decode cX3_readsClause q.1 = .ok (q.2.1, q.2.2) := by decide +kernel
