theorem wd_1784 : (Cond.methodLink RX10 647 yX10_carry : Cond) ∈ wsB := wdT 1784 (by decide +kernel) rfl
theorem wd_1786 : (Cond.instanceMethod yX10_carry : Cond) ∈ wsB := wdT 1786 (by decide +kernel) rfl
theorem wd_1787 : (Cond.code yX10_carry cX10_carry 3 none : Cond) ∈ wsB := wdT 1787 (by decide +kernel) rfl
theorem wp_90 : (Cond.selects RX10 yX10_carry yX10_carry : Cond) ∈ wsB := wdP 90 (by decide +kernel) rfl
theorem plX10_641 : FP RX10 641 10 79 .boolean := ⟨RX10, TX10, 80, rfl, inlX10, by decide, wd_1214, rfl, by decide +kernel, tyX10, tyX10_ok, nmX10⟩
theorem mlX10_647 : LV RX10 647 yX10_carry cX10_carry 3 none 1 := ⟨wd_1784, wd_1786, wp_90, wd_11, wd_1787, ⟨by decide, by decide, by decide +kernel⟩⟩
