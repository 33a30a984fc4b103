theorem wd_1203 : (Cond.fieldLink RX10 163 "RaftForestModel" "past0" "[I" : Cond) ∈ wsB := wt6 (List.mem_of_getElem? (i := 3) rfl) rfl
theorem wd_1211 : (Cond.fieldLink RX10 181 "RaftForestModel" "images" "[I" : Cond) ∈ wsB := wt6 (List.mem_of_getElem? (i := 11) rfl) rfl
theorem wd_1213 : (Cond.fieldLink RX10 644 "RaftForestModel" "imageAt" "I" : Cond) ∈ wsB := wt6 (List.mem_of_getElem? (i := 13) rfl) rfl
theorem wd_1214 : (Cond.fieldLink RX10 641 "RaftForestModel" "goesBack" "Z" : Cond) ∈ wsB := wt6 (List.mem_of_getElem? (i := 14) rfl) rfl
theorem wd_1466 : (Cond.methodLink RX10 368 yX10_lay : Cond) ∈ wsB := wt7 (List.mem_of_getElem? (i := 26) rfl) rfl
theorem wd_1467 : (Cond.static yX10_lay : Cond) ∈ wsB := wt7 (List.mem_of_getElem? (i := 27) rfl) rfl
theorem wd_1468 : (Cond.code yX10_lay cX10_lay 3 none : Cond) ∈ wsB := wt7 (List.mem_of_getElem? (i := 28) rfl) rfl
theorem glX10_641 : FL RX10 641 10 79 := ⟨RX10, TX10, 80, rfl, inlX10, by decide, wd_1214⟩
theorem glX10_181 : FL RX10 181 10 76 := ⟨RX10, TX10, 80, rfl, inlX10, by decide, wd_1211⟩
theorem glX10_644 : FL RX10 644 10 78 := ⟨RX10, TX10, 80, rfl, inlX10, by decide, wd_1213⟩
theorem plX10_644 : FP RX10 644 10 78 .int := ⟨RX10, TX10, 80, rfl, inlX10, by decide, wd_1213, rfl, by decide +kernel, tyX10, tyX10_ok, nmX10⟩
theorem glX10_163 : FL RX10 163 10 68 := ⟨RX10, TX10, 80, rfl, inlX10, by decide, wd_1203⟩
theorem mlX10_368 : LT RX10 368 yX10_lay cX10_lay 3 none 2 := ⟨wd_1466, wd_1467, wd_11, wd_1468, ⟨by decide, by decide, by decide +kernel⟩⟩
theorem sX10_79 {b : Nat} (h : isX10 b) : SI b 10 79 0 1 := by rcases h with rfl <;> exact ⟨by decide, rfl, rfl, by decide, rfl, rfl, rfl⟩
theorem sX10_76 {b : Nat} (h : isX10 b) : SF b 10 76 (b + 56) := by rcases h with rfl <;> exact ⟨by decide, rfl, rfl, by decide, rfl, rfl⟩
theorem sX10_78 {b : Nat} (h : isX10 b) : SI b 10 78 0 4500 := by rcases h with rfl <;> exact ⟨by decide, rfl, rfl, by decide, rfl, rfl, rfl⟩
theorem aX10_76 {b : Nat} (h : isX10 b) : AI (b + 56) 4500 (-2147483648) 2147483647 := by rcases h with rfl <;> exact ⟨by decide, rfl, rfl, fun _ => ⟨rfl, rfl⟩⟩
theorem sX10_68 {b : Nat} (h : isX10 b) : SF b 10 68 (b + 50) := by rcases h with rfl <;> exact ⟨by decide, rfl, rfl, by decide, rfl, rfl⟩
theorem aX10_68 {b : Nat} (h : isX10 b) : AI (b + 50) 12 (-2147483648) 2147483647 := by rcases h with rfl <;> exact ⟨by decide, rfl, rfl, fun _ => ⟨rfl, rfl⟩⟩
