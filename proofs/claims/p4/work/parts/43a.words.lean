def Lwd_1912 : List (Nat × Cond) := [(1912, Cond.methodLink RX10 616 yX10_divisor), (1913, Cond.static yX10_divisor), (1914, Cond.code yX10_divisor cX10_divisor 5 (some .int))]
set_option maxRecDepth 100000 in
theorem Lwd_1912_ok : ∀ q ∈ Lwd_1912, tables_1[q.1]? = some q.2 ∧ goodWord q.2 = true := by decide +kernel
theorem wd_1912 : (Cond.methodLink RX10 616 yX10_divisor : Cond) ∈ wsB := wdq Lwd_1912_ok 0 rfl
theorem wd_1913 : (Cond.static yX10_divisor : Cond) ∈ wsB := wdq Lwd_1912_ok 1 rfl
theorem wd_1914 : (Cond.code yX10_divisor cX10_divisor 5 (some .int) : Cond) ∈ wsB := wdq Lwd_1912_ok 2 rfl
theorem mlX10_616 : LT RX10 616 yX10_divisor cX10_divisor 5 (some .int) 2 := ⟨wd_1912, wd_1913, wd_11, wd_1914, ⟨by decide, by decide, by decide +kernel⟩⟩
