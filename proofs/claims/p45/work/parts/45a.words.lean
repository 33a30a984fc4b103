theorem wd_1174 : (Cond.fieldLink RX10 246 "RaftForestModel" "fault" "I" : Cond) ∈ wsB := wt5 (List.mem_of_getElem? (i := 214) rfl) rfl
theorem wd_1175 : (Cond.fieldLink RX10 275 "RaftForestModel" "slot" "I" : Cond) ∈ wsB := wt5 (List.mem_of_getElem? (i := 215) rfl) rfl
theorem wd_1177 : (Cond.fieldLink RX10 278 "RaftForestModel" "entries" "I" : Cond) ∈ wsB := wt5 (List.mem_of_getElem? (i := 217) rfl) rfl
theorem glX10_246 : FL RX10 246 10 39 := ⟨RX10, TX10, 80, rfl, inlX10, by decide, wd_1174⟩
theorem glX10_275 : FL RX10 275 10 40 := ⟨RX10, TX10, 80, rfl, inlX10, by decide, wd_1175⟩
theorem glX10_278 : FL RX10 278 10 42 := ⟨RX10, TX10, 80, rfl, inlX10, by decide, wd_1177⟩
theorem plX10_278 : FP RX10 278 10 42 .int := ⟨RX10, TX10, 80, rfl, inlX10, by decide, wd_1177, rfl, by decide +kernel, tyX10, tyX10_ok, nmX10⟩
theorem sX10_39 {b : Nat} (h : isX10 b) : SI b 10 39 0 100000 := by rcases h with rfl <;> exact ⟨by decide, rfl, rfl, by decide, rfl, rfl, rfl⟩
theorem sX10_40 {b : Nat} (h : isX10 b) : SI b 10 40 0 5 := by rcases h with rfl <;> exact ⟨by decide, rfl, rfl, by decide, rfl, rfl, rfl⟩
theorem sX10_42 {b : Nat} (h : isX10 b) : SI b 10 42 0 300 := by rcases h with rfl <;> exact ⟨by decide, rfl, rfl, by decide, rfl, rfl, rfl⟩
