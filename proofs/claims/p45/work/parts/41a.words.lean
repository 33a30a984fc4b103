theorem wd_1204 : (Cond.fieldLink RX10 166 "RaftForestModel" "floating" "[I" : Cond) ∈ wsB := wt6 (List.mem_of_getElem? (i := 4) rfl) rfl
theorem wd_1205 : (Cond.fieldLink RX10 169 "RaftForestModel" "spot" "[I" : Cond) ∈ wsB := wt6 (List.mem_of_getElem? (i := 5) rfl) rfl
theorem wd_1206 : (Cond.fieldLink RX10 172 "RaftForestModel" "rowNow" "[I" : Cond) ∈ wsB := wt6 (List.mem_of_getElem? (i := 6) rfl) rfl
theorem wd_1207 : (Cond.fieldLink RX10 175 "RaftForestModel" "bestRow" "[I" : Cond) ∈ wsB := wt6 (List.mem_of_getElem? (i := 7) rfl) rfl
theorem wd_1208 : (Cond.fieldLink RX10 589 "RaftForestModel" "floatingMany" "I" : Cond) ∈ wsB := wt6 (List.mem_of_getElem? (i := 8) rfl) rfl
theorem wd_1209 : (Cond.fieldLink RX10 592 "RaftForestModel" "fewestJams" "I" : Cond) ∈ wsB := wt6 (List.mem_of_getElem? (i := 9) rfl) rfl
theorem wd_1867 : (Cond.constantLong RX10 598 (6) : Cond) ∈ wsB := wt8 (List.mem_of_getElem? (i := 187) rfl) rfl
theorem wd_1868 : (Cond.methodLink RX10 600 yX10_fillsFloating : Cond) ∈ wsB := wt8 (List.mem_of_getElem? (i := 188) rfl) rfl
theorem wd_1870 : (Cond.instanceMethod yX10_fillsFloating : Cond) ∈ wsB := wt8 (List.mem_of_getElem? (i := 190) rfl) rfl
theorem wd_1871 : (Cond.code yX10_fillsFloating cX10_fillsFloating 3 none : Cond) ∈ wsB := wt8 (List.mem_of_getElem? (i := 191) rfl) rfl
theorem wd_1872 : (Cond.methodLink RX10 603 yX10_findsAhead : Cond) ∈ wsB := wt8 (List.mem_of_getElem? (i := 192) rfl) rfl
theorem wd_1874 : (Cond.instanceMethod yX10_findsAhead : Cond) ∈ wsB := wt8 (List.mem_of_getElem? (i := 194) rfl) rfl
theorem wd_1875 : (Cond.code yX10_findsAhead cX10_findsAhead 5 none : Cond) ∈ wsB := wt8 (List.mem_of_getElem? (i := 195) rfl) rfl
theorem wd_1876 : (Cond.methodLink RX10 595 yX10_laysRow : Cond) ∈ wsB := wt8 (List.mem_of_getElem? (i := 196) rfl) rfl
theorem wd_1878 : (Cond.instanceMethod yX10_laysRow : Cond) ∈ wsB := wt8 (List.mem_of_getElem? (i := 198) rfl) rfl
theorem wd_1879 : (Cond.code yX10_laysRow cX10_laysRow 6 (some .boolean) : Cond) ∈ wsB := wt8 (List.mem_of_getElem? (i := 199) rfl) rfl
def Lwp_105 : List (Nat × Cond) := [(105, Cond.selects RX10 yX10_fillsFloating yX10_fillsFloating), (106, Cond.selects RX10 yX10_findsAhead yX10_findsAhead), (107, Cond.selects RX10 yX10_laysRow yX10_laysRow)]
set_option maxRecDepth 100000 in
theorem Lwp_105_ok : ∀ q ∈ Lwp_105, (k2_sels lw_privs)[q.1]? = some q.2 ∧ goodWord q.2 = true := by decide +kernel
theorem wp_105 : (Cond.selects RX10 yX10_fillsFloating yX10_fillsFloating : Cond) ∈ wsB := wpq Lwp_105_ok 0 rfl
theorem wp_106 : (Cond.selects RX10 yX10_findsAhead yX10_findsAhead : Cond) ∈ wsB := wpq Lwp_105_ok 1 rfl
theorem wp_107 : (Cond.selects RX10 yX10_laysRow yX10_laysRow : Cond) ∈ wsB := wpq Lwp_105_ok 2 rfl
theorem plX10_589 : FP RX10 589 10 73 .int := ⟨RX10, TX10, 80, rfl, inlX10, by decide, wd_1208, rfl, by decide +kernel, tyX10, tyX10_ok, nmX10⟩
theorem glX10_166 : FL RX10 166 10 69 := ⟨RX10, TX10, 80, rfl, inlX10, by decide, wd_1204⟩
theorem glX10_589 : FL RX10 589 10 73 := ⟨RX10, TX10, 80, rfl, inlX10, by decide, wd_1208⟩
theorem glX10_169 : FL RX10 169 10 70 := ⟨RX10, TX10, 80, rfl, inlX10, by decide, wd_1205⟩
theorem glX10_172 : FL RX10 172 10 71 := ⟨RX10, TX10, 80, rfl, inlX10, by decide, wd_1206⟩
theorem plX10_592 : FP RX10 592 10 74 .int := ⟨RX10, TX10, 80, rfl, inlX10, by decide, wd_1209, rfl, by decide +kernel, tyX10, tyX10_ok, nmX10⟩
theorem mlX10_595 : LV RX10 595 yX10_laysRow cX10_laysRow 6 (some .boolean) 1 := ⟨wd_1876, wd_1878, wp_107, wd_11, wd_1879, ⟨by decide, by decide, by decide +kernel⟩⟩
theorem glX10_592 : FL RX10 592 10 74 := ⟨RX10, TX10, 80, rfl, inlX10, by decide, wd_1209⟩
theorem glX10_175 : FL RX10 175 10 72 := ⟨RX10, TX10, 80, rfl, inlX10, by decide, wd_1207⟩
theorem mlX10_600 : LV RX10 600 yX10_fillsFloating cX10_fillsFloating 3 none 0 := ⟨wd_1868, wd_1870, wp_105, wd_11, wd_1871, ⟨by decide, by decide, by decide +kernel⟩⟩
theorem mlX10_603 : LV RX10 603 yX10_findsAhead cX10_findsAhead 5 none 1 := ⟨wd_1872, wd_1874, wp_106, wd_11, wd_1875, ⟨by decide, by decide, by decide +kernel⟩⟩
theorem sX10_73 {b : Nat} (h : isX10 b) : SI b 10 73 0 12 := by rcases h with rfl <;> exact ⟨by decide, rfl, rfl, by decide, rfl, rfl, rfl⟩
theorem sX10_69 {b : Nat} (h : isX10 b) : SF b 10 69 (b + 51) := by rcases h with rfl <;> exact ⟨by decide, rfl, rfl, by decide, rfl, rfl⟩
theorem aX10_69 {b : Nat} (h : isX10 b) : AI (b + 51) 12 0 11 := by rcases h with rfl <;> exact ⟨by decide, rfl, rfl, fun _ => ⟨rfl, rfl⟩⟩
theorem sX10_70 {b : Nat} (h : isX10 b) : SF b 10 70 (b + 52) := by rcases h with rfl <;> exact ⟨by decide, rfl, rfl, by decide, rfl, rfl⟩
theorem aX10_70 {b : Nat} (h : isX10 b) : AI (b + 52) 12 0 11 := by rcases h with rfl <;> exact ⟨by decide, rfl, rfl, fun _ => ⟨rfl, rfl⟩⟩
theorem sX10_71 {b : Nat} (h : isX10 b) : SF b 10 71 (b + 53) := by rcases h with rfl <;> exact ⟨by decide, rfl, rfl, by decide, rfl, rfl⟩
theorem aX10_71 {b : Nat} (h : isX10 b) : AI (b + 53) 6 0 11 := by rcases h with rfl <;> exact ⟨by decide, rfl, rfl, fun _ => ⟨rfl, rfl⟩⟩
theorem sX10_74 {b : Nat} (h : isX10 b) : SI b 10 74 (-2147483648) 2147483647 := by rcases h with rfl <;> exact ⟨by decide, rfl, rfl, by decide, rfl, rfl, rfl⟩
theorem sX10_72 {b : Nat} (h : isX10 b) : SF b 10 72 (b + 54) := by rcases h with rfl <;> exact ⟨by decide, rfl, rfl, by decide, rfl, rfl⟩
theorem aX10_72 {b : Nat} (h : isX10 b) : AI (b + 54) 6 0 11 := by rcases h with rfl <;> exact ⟨by decide, rfl, rfl, fun _ => ⟨rfl, rfl⟩⟩
