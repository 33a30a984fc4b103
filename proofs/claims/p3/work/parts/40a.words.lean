theorem wd_1212 : (Cond.fieldLink RX10 184 "RaftForestModel" "isMade" "[Z" : Cond) ∈ wsB := wdT 1212 (by decide +kernel) rfl
theorem glX10_184 : FL RX10 184 10 77 := ⟨RX10, TX10, 80, rfl, inlX10, by decide, wd_1212⟩
theorem sX10_77 {b : Nat} (h : isX10 b) : SF b 10 77 (b + 57) := by rcases h with rfl <;> exact ⟨by decide, rfl, rfl, by decide, rfl, rfl⟩
theorem aX10_77 {b : Nat} (h : isX10 b) : AK (b + 57) 2 4 := by rcases h with rfl <;> exact ⟨by decide, rfl, rfl⟩
