theorem wd_1912 : (Cond.methodLink RX10 616 yX10_divisor : Cond) ∈ wsB := wt8 (List.mem_of_getElem? (i := 232) rfl) rfl
theorem wd_1913 : (Cond.static yX10_divisor : Cond) ∈ wsB := wt8 (List.mem_of_getElem? (i := 233) rfl) rfl
theorem wd_1914 : (Cond.code yX10_divisor cX10_divisor 5 (some .int) : Cond) ∈ wsB := wt8 (List.mem_of_getElem? (i := 234) rfl) rfl
theorem mlX10_616 : LT RX10 616 yX10_divisor cX10_divisor 5 (some .int) 2 := ⟨wd_1912, wd_1913, wd_11, wd_1914, ⟨by decide, by decide, by decide +kernel⟩⟩
