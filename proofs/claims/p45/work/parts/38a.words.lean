theorem wd_1194 : (Cond.fieldLink RX10 157 "RaftForestModel" "group" "[I" : Cond) ∈ wsB := wt5 (List.mem_of_getElem? (i := 234) rfl) rfl
theorem wd_1195 : (Cond.fieldLink RX10 160 "RaftForestModel" "rank" "[J" : Cond) ∈ wsB := wt5 (List.mem_of_getElem? (i := 235) rfl) rfl
theorem glX10_157 : FL RX10 157 10 59 := ⟨RX10, TX10, 80, rfl, inlX10, by decide, wd_1194⟩
theorem glX10_160 : FL RX10 160 10 60 := ⟨RX10, TX10, 80, rfl, inlX10, by decide, wd_1195⟩
theorem sX10_59 {b : Nat} (h : isX10 b) : SF b 10 59 (b + 48) := by rcases h with rfl <;> exact ⟨by decide, rfl, rfl, by decide, rfl, rfl⟩
theorem aX10_59 {b : Nat} (h : isX10 b) : AI (b + 48) 12 (-2147483648) 2147483647 := by rcases h with rfl <;> exact ⟨by decide, rfl, rfl, fun _ => ⟨rfl, rfl⟩⟩
theorem sX10_60 {b : Nat} (h : isX10 b) : SF b 10 60 (b + 49) := by rcases h with rfl <;> exact ⟨by decide, rfl, rfl, by decide, rfl, rfl⟩
theorem aX10_60 {b : Nat} (h : isX10 b) : AK (b + 49) 1 12 := by rcases h with rfl <;> exact ⟨by decide, rfl, rfl⟩
