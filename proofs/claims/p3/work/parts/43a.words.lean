theorem wd_1912 : (Cond.methodLink RX10 616 yX10_divisor : Cond) ∈ wsB := wdT 1912 (by decide +kernel) rfl
theorem wd_1913 : (Cond.static yX10_divisor : Cond) ∈ wsB := wdT 1913 (by decide +kernel) rfl
theorem wd_1914 : (Cond.code yX10_divisor cX10_divisor 5 (some .int) : Cond) ∈ wsB := wdT 1914 (by decide +kernel) rfl
theorem mlX10_616 : LT RX10 616 yX10_divisor cX10_divisor 5 (some .int) 2 := ⟨wd_1912, wd_1913, wd_11, wd_1914, ⟨by decide, by decide, by decide +kernel⟩⟩
