theorem wd_1558 : (Cond.methodLink RX10 416 yX10_isRuleOrNone : Cond) ∈ wsB := wdT 1558 (by decide +kernel) rfl
theorem wd_1560 : (Cond.instanceMethod yX10_isRuleOrNone : Cond) ∈ wsB := wdT 1560 (by decide +kernel) rfl
theorem wd_1561 : (Cond.code yX10_isRuleOrNone cX10_isRuleOrNone 2 (some .boolean) : Cond) ∈ wsB := wdT 1561 (by decide +kernel) rfl
theorem wp_57 : (Cond.selects RX10 yX10_isRuleOrNone yX10_isRuleOrNone : Cond) ∈ wsB := wdP 57 (by decide +kernel) rfl
theorem mlX10_416 : LV RX10 416 yX10_isRuleOrNone cX10_isRuleOrNone 2 (some .boolean) 1 := ⟨wd_1558, wd_1560, wp_57, wd_11, wd_1561, ⟨by decide, by decide, by decide +kernel⟩⟩
