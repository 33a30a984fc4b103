theorem wd_221 : (Cond.fieldLink RX9 145 "RaftForest$State" "lawRule" "I" : Cond) ∈ wsB := wt1 (List.mem_of_getElem? (i := 221) rfl) rfl
theorem wd_673 : (Cond.methodLink RX9 129 yX9_isRuleOrNone : Cond) ∈ wsB := wt3 (List.mem_of_getElem? (i := 193) rfl) rfl
theorem wd_675 : (Cond.instanceMethod yX9_isRuleOrNone : Cond) ∈ wsB := wt3 (List.mem_of_getElem? (i := 195) rfl) rfl
theorem wd_676 : (Cond.code yX9_isRuleOrNone cX9_isRuleOrNone 2 (some .boolean) : Cond) ∈ wsB := wt3 (List.mem_of_getElem? (i := 196) rfl) rfl
theorem wd_677 : (Cond.methodLink RX9 142 yX9_isRule : Cond) ∈ wsB := wt3 (List.mem_of_getElem? (i := 197) rfl) rfl
theorem wd_679 : (Cond.instanceMethod yX9_isRule : Cond) ∈ wsB := wt3 (List.mem_of_getElem? (i := 199) rfl) rfl
theorem wd_680 : (Cond.code yX9_isRule cX9_isRule 2 (some .boolean) : Cond) ∈ wsB := wt3 (List.mem_of_getElem? (i := 200) rfl) rfl
theorem wd_962 : (Cond.methodLink RX9 303 yX0_keepPlaces : Cond) ∈ wsB := wt5 (List.mem_of_getElem? (i := 2) rfl) rfl
theorem wd_963 : (Cond.instanceMethod yX0_keepPlaces : Cond) ∈ wsB := wt5 (List.mem_of_getElem? (i := 3) rfl) rfl
theorem wd_964 : (Cond.selects RX0 yX0_keepPlaces yX0_keepPlaces : Cond) ∈ wsB := wt5 (List.mem_of_getElem? (i := 4) rfl) rfl
theorem wd_965 : (Cond.code yX0_keepPlaces cX0_keepPlaces 2 none : Cond) ∈ wsB := wt5 (List.mem_of_getElem? (i := 5) rfl) rfl
theorem wd_1042 : (Cond.methodLink RX9 358 yX0_keepSight : Cond) ∈ wsB := wt5 (List.mem_of_getElem? (i := 82) rfl) rfl
theorem wd_1043 : (Cond.instanceMethod yX0_keepSight : Cond) ∈ wsB := wt5 (List.mem_of_getElem? (i := 83) rfl) rfl
theorem wd_1044 : (Cond.selects RX0 yX0_keepSight yX0_keepSight : Cond) ∈ wsB := wt5 (List.mem_of_getElem? (i := 84) rfl) rfl
theorem wd_1045 : (Cond.code yX0_keepSight cX0_keepSight 5 none : Cond) ∈ wsB := wt5 (List.mem_of_getElem? (i := 85) rfl) rfl
def Lwp_9 : List (Nat × Cond) := [(9, Cond.selects RX9 yX9_isRuleOrNone yX9_isRuleOrNone), (10, Cond.selects RX9 yX9_isRule yX9_isRule)]
set_option maxRecDepth 100000 in
theorem Lwp_9_ok : ∀ q ∈ Lwp_9, (k2_sels lw_privs)[q.1]? = some q.2 ∧ goodWord q.2 = true := by decide +kernel
theorem wp_9 : (Cond.selects RX9 yX9_isRuleOrNone yX9_isRuleOrNone : Cond) ∈ wsB := wpq Lwp_9_ok 0 rfl
theorem wp_10 : (Cond.selects RX9 yX9_isRule yX9_isRule : Cond) ∈ wsB := wpq Lwp_9_ok 1 rfl
theorem mlX9_142 : LV RX9 142 yX9_isRule cX9_isRule 2 (some .boolean) 1 := ⟨wd_677, wd_679, wp_10, wd_1, wd_680, ⟨by decide, by decide, by decide +kernel⟩⟩
theorem mlX9_129 : LV RX9 129 yX9_isRuleOrNone cX9_isRuleOrNone 2 (some .boolean) 1 := ⟨wd_673, wd_675, wp_9, wd_1, wd_676, ⟨by decide, by decide, by decide +kernel⟩⟩
theorem plX9_133 : FP RX9 133 6 2 .int := ⟨RX6, TX6, 15, rfl, inlX6, by decide, wd_215, rfl, by decide +kernel, tyX6, tyX6_ok, nmX6⟩
theorem plX9_148 : FP RX9 148 6 3 .int := ⟨RX6, TX6, 15, rfl, inlX6, by decide, wd_218, rfl, by decide +kernel, tyX6, tyX6_ok, nmX6⟩
theorem plX9_145 : FP RX9 145 6 4 .int := ⟨RX6, TX6, 15, rfl, inlX6, by decide, wd_221, rfl, by decide +kernel, tyX6, tyX6_ok, nmX6⟩
theorem mlX9_303 : LV RX9 303 yX0_keepPlaces cX0_keepPlaces 2 none 1 := ⟨wd_962, wd_963, wd_964, wd_9, wd_965, ⟨by decide, by decide, by decide +kernel⟩⟩
theorem mlX9_358 : LV RX9 358 yX0_keepSight cX0_keepSight 5 none 4 := ⟨wd_1042, wd_1043, wd_1044, wd_9, wd_1045, ⟨by decide, by decide, by decide +kernel⟩⟩
theorem plX9_355 : FP RX9 355 0 6 .int := ⟨RX0, TX0, 17, rfl, inlX0, by decide, wd_304, rfl, by decide +kernel, tyX0, tyX0_ok, nmX0⟩
def dtX9_isRule : List (Nat × Instr × Nat) := [(0, .iload_n 1, 1), (1, .ifCond .lt 15, 3), (4, .iload_n 1, 1), (5, .aload_n 0, 1), (6, .getfield 120, 3), (9, .if_icmp .ge 7, 3), (12, .iconst 1, 1), (13, .goto 4, 3), (16, .iconst 0, 1), (17, .ireturn, 1)]
set_option maxRecDepth 100000 in
theorem tX9_isRule : ∀ q ∈ dtX9_isRule, decode cX9_isRule q.1 = .ok (q.2.1, q.2.2) := by decide +kernel
def dtX9_isRuleOrNone : List (Nat × Instr × Nat) := [(0, .iload_n 1, 1), (1, .iconst (-1), 1), (2, .if_icmp .eq 11, 3), (5, .aload_n 0, 1), (6, .iload_n 1, 1), (7, .invokevirtual 142, 3), (10, .ifCond .eq 7, 3), (13, .iconst 1, 1), (14, .goto 4, 3), (17, .iconst 0, 1), (18, .ireturn, 1)]
set_option maxRecDepth 100000 in
theorem tX9_isRuleOrNone : ∀ q ∈ dtX9_isRuleOrNone, decode cX9_isRuleOrNone q.1 = .ok (q.2.1, q.2.2) := by decide +kernel
def dtX9_force : List (Nat × Instr × Nat) := [(0, .aload_n 0, 1), (1, .invokevirtual 126, 3), (4, .ifCond .eq 11, 3), (7, .aload_n 0, 1), (8, .iload_n 1, 1), (9, .invokevirtual 129, 3), (12, .ifCond .ne 6, 3), (15, .bipush (-2), 2), (17, .ireturn, 1), (18, .aload_n 0, 1), (19, .getfield 47, 3), (22, .getfield 100, 3), (25, .getfield 133, 3), (28, .istore_n 2, 1), (29, .aload_n 0, 1), (30, .getfield 47, 3), (33, .getfield 100, 3), (36, .iload_n 1, 1), (37, .putfield 133, 3), (40, .iload_n 2, 1), (41, .ireturn, 1)]
set_option maxRecDepth 100000 in
theorem tX9_force : ∀ q ∈ dtX9_force, decode cX9_force q.1 = .ok (q.2.1, q.2.2) := by decide +kernel
def dtX9_bind : List (Nat × Instr × Nat) := [(0, .aload_n 0, 1), (1, .iload_n 1, 1), (2, .invokevirtual 136, 3), (5, .ifCond .eq 11, 3), (8, .aload_n 0, 1), (9, .iload_n 2, 1), (10, .invokevirtual 129, 3), (13, .ifCond .ne 6, 3), (16, .bipush (-2), 2), (18, .ireturn, 1), (19, .aload_n 0, 1), (20, .getfield 47, 3), (23, .getfield 100, 3), (26, .getfield 139, 3), (29, .iload_n 1, 1), (30, .iaload, 1), (31, .istore_n 3, 1), (32, .aload_n 0, 1), (33, .getfield 47, 3), (36, .getfield 100, 3), (39, .getfield 139, 3), (42, .iload_n 1, 1), (43, .iload_n 2, 1), (44, .iastore, 1), (45, .iload_n 3, 1), (46, .ireturn, 1)]
set_option maxRecDepth 100000 in
theorem tX9_bind : ∀ q ∈ dtX9_bind, decode cX9_bind q.1 = .ok (q.2.1, q.2.2) := by decide +kernel
def dtX9_law : List (Nat × Instr × Nat) := [(0, .aload_n 0, 1), (1, .invokevirtual 126, 3), (4, .ifCond .eq 12, 3), (7, .iload_n 1, 1), (8, .ifCond .lt 8, 3), (11, .iload_n 1, 1), (12, .iconst 3, 1), (13, .if_icmp .le 6, 3), (16, .bipush (-2), 2), (18, .ireturn, 1), (19, .iload_n 1, 1), (20, .iconst 3, 1), (21, .if_icmp .ne 25, 3), (24, .aload_n 0, 1), (25, .iload_n 2, 1), (26, .invokevirtual 142, 3), (29, .ifCond .ne 6, 3), (32, .bipush (-2), 2), (34, .ireturn, 1), (35, .aload_n 0, 1), (36, .getfield 47, 3), (39, .getfield 100, 3), (42, .iload_n 2, 1), (43, .putfield 145, 3), (46, .aload_n 0, 1), (47, .getfield 47, 3), (50, .getfield 100, 3), (53, .getfield 148, 3), (56, .istore_n 3, 1), (57, .aload_n 0, 1), (58, .getfield 47, 3), (61, .getfield 100, 3), (64, .iload_n 1, 1), (65, .putfield 148, 3), (68, .iload_n 3, 1), (69, .ireturn, 1)]
set_option maxRecDepth 100000 in
theorem tX9_law : ∀ q ∈ dtX9_law, decode cX9_law q.1 = .ok (q.2.1, q.2.2) := by decide +kernel
def dtX9_flood : List (Nat × Instr × Nat) := [(0, .aload_n 0, 1), (1, .invokevirtual 126, 3), (4, .ifCond .eq 13, 3), (7, .iload_n 1, 1), (8, .ifCond .lt 9, 3), (11, .iload_n 1, 1), (12, .bipush 99, 2), (14, .if_icmp .le 6, 3), (17, .bipush (-2), 2), (19, .ireturn, 1), (20, .aload_n 0, 1), (21, .getfield 47, 3), (24, .iload_n 1, 1), (25, .invokevirtual 277, 3), (28, .aload_n 0, 1), (29, .getfield 47, 3), (32, .getfield 100, 3), (35, .getfield 280, 3), (38, .ireturn, 1)]
set_option maxRecDepth 100000 in
theorem tX9_flood : ∀ q ∈ dtX9_flood, decode cX9_flood q.1 = .ok (q.2.1, q.2.2) := by decide +kernel
def dtX9_days : List (Nat × Instr × Nat) := [(0, .aload_n 0, 1), (1, .invokevirtual 126, 3), (4, .ifCond .eq 32, 3), (7, .iload_n 1, 1), (8, .iconst 1, 1), (9, .if_icmp .lt 27, 3), (12, .iload_n 1, 1), (13, .bipush 60, 2), (15, .if_icmp .gt 21, 3), (18, .aload_n 0, 1), (19, .getfield 47, 3), (22, .getfield 100, 3), (25, .getfield 297, 3), (28, .iload_n 1, 1), (29, .iadd, 1), (30, .sipush 9999, 3), (33, .if_icmp .le 6, 3), (36, .bipush (-2), 2), (38, .ireturn, 1), (39, .iconst 0, 1), (40, .istore_n 2, 1), (41, .iload_n 2, 1), (42, .iload_n 1, 1), (43, .if_icmp .ge 33, 3), (46, .aload_n 0, 1), (47, .getfield 47, 3), (50, .invokevirtual 300, 3), (53, .aload_n 0, 1), (54, .getfield 47, 3), (57, .getfield 109, 3), (60, .aload_n 0, 1), (61, .getfield 47, 3), (64, .getfield 100, 3), (67, .invokevirtual 303, 3), (70, .iinc 2 1, 3), (73, .goto (-32), 3), (76, .aload_n 0, 1), (77, .getfield 47, 3), (80, .getfield 100, 3), (83, .getfield 297, 3), (86, .ireturn, 1)]
set_option maxRecDepth 100000 in
theorem tX9_days : ∀ q ∈ dtX9_days, decode cX9_days q.1 = .ok (q.2.1, q.2.2) := by decide +kernel
def dtX0_keepSight : List (Nat × Instr × Nat) := [(0, .aload_n 0, 1), (1, .getfield 21, 3), (4, .aload_n 0, 1), (5, .getfield 61, 3), (8, .iload_n 1, 1), (9, .iastore, 1), (10, .aload_n 0, 1), (11, .getfield 24, 3), (14, .aload_n 0, 1), (15, .getfield 61, 3), (18, .iload_n 2, 1), (19, .iastore, 1), (20, .aload_n 0, 1), (21, .getfield 27, 3), (24, .aload_n 0, 1), (25, .getfield 61, 3), (28, .iload_n 3, 1), (29, .iastore, 1), (30, .aload_n 0, 1), (31, .getfield 30, 3), (34, .aload_n 0, 1), (35, .getfield 61, 3), (38, .iload 4, 2), (40, .iastore, 1), (41, .aload_n 0, 1), (42, .dup, 1), (43, .getfield 61, 3), (46, .iconst 1, 1), (47, .iadd, 1), (48, .putfield 61, 3), (51, .return_, 1)]
set_option maxRecDepth 100000 in
theorem tX0_keepSight : ∀ q ∈ dtX0_keepSight, decode cX0_keepSight q.1 = .ok (q.2.1, q.2.2) := by decide +kernel
def dtX9_sight : List (Nat × Instr × Nat) := [(0, .iload_n 1, 1), (1, .iconst (-1), 1), (2, .if_icmp .ne 16, 3), (5, .aload_n 0, 1), (6, .getfield 47, 3), (9, .getfield 109, 3), (12, .iconst 0, 1), (13, .putfield 355, 3), (16, .iconst 0, 1), (17, .ireturn, 1), (18, .aload_n 0, 1), (19, .iload_n 1, 1), (20, .invokevirtual 180, 3), (23, .ifCond .eq 41, 3), (26, .iload_n 2, 1), (27, .ifCond .lt 37, 3), (30, .iload_n 2, 1), (31, .bipush 6, 2), (33, .if_icmp .ge 31, 3), (36, .iload_n 3, 1), (37, .iconst (-1), 1), (38, .if_icmp .eq 11, 3), (41, .aload_n 0, 1), (42, .iload_n 3, 1), (43, .invokevirtual 136, 3), (46, .ifCond .eq 18, 3), (49, .aload_n 0, 1), (50, .getfield 47, 3), (53, .getfield 109, 3), (56, .getfield 355, 3), (59, .bipush 20, 2), (61, .if_icmp .lt 6, 3), (64, .bipush (-2), 2), (66, .ireturn, 1), (67, .aload_n 0, 1), (68, .getfield 47, 3), (71, .getfield 109, 3), (74, .iload_n 1, 1), (75, .iload_n 2, 1), (76, .iload_n 3, 1), (77, .aload_n 0, 1), (78, .getfield 47, 3), (81, .getfield 100, 3), (84, .getfield 297, 3), (87, .invokevirtual 358, 3), (90, .aload_n 0, 1), (91, .getfield 47, 3), (94, .getfield 109, 3), (97, .getfield 355, 3), (100, .ireturn, 1)]
set_option maxRecDepth 100000 in
theorem tX9_sight : ∀ q ∈ dtX9_sight, decode cX9_sight q.1 = .ok (q.2.1, q.2.2) := by decide +kernel
