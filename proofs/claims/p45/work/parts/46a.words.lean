theorem wd_1180 : (Cond.fieldLink RX10 315 "RaftForestModel" "opened" "I" : Cond) ∈ wsB := wt5 (List.mem_of_getElem? (i := 220) rfl) rfl
theorem wd_1191 : (Cond.fieldLink RX10 147 "RaftForestModel" "open" "[I" : Cond) ∈ wsB := wt5 (List.mem_of_getElem? (i := 231) rfl) rfl
theorem glX10_315 : FL RX10 315 10 45 := ⟨RX10, TX10, 80, rfl, inlX10, by decide, wd_1180⟩
theorem glX10_147 : FL RX10 147 10 56 := ⟨RX10, TX10, 80, rfl, inlX10, by decide, wd_1191⟩
theorem sX10_45 {b : Nat} (h : isX10 b) : SI b 10 45 0 402 := by rcases h with rfl <;> exact ⟨by decide, rfl, rfl, by decide, rfl, rfl, rfl⟩
theorem sX10_56 {b : Nat} (h : isX10 b) : SF b 10 56 (b + 45) := by rcases h with rfl <;> exact ⟨by decide, rfl, rfl, by decide, rfl, rfl⟩
theorem aX10_56 {b : Nat} (h : isX10 b) : AI (b + 45) 402 (-2147483648) 2147483647 := by rcases h with rfl <;> exact ⟨by decide, rfl, rfl, fun _ => ⟨rfl, rfl⟩⟩
