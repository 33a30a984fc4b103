theorem wd_1947 : (Cond.constantLong RX10 629 (10) : Cond) ∈ wsB := wdT 1947 (by decide +kernel) rfl
theorem wd_1948 : (Cond.constantLong RX10 631 (100) : Cond) ∈ wsB := wdT 1948 (by decide +kernel) rfl
theorem wd_1949 : (Cond.constantLong RX10 633 (2) : Cond) ∈ wsB := wdT 1949 (by decide +kernel) rfl
theorem wd_1950 : (Cond.methodLink RX10 635 yX10_draws : Cond) ∈ wsB := wdT 1950 (by decide +kernel) rfl
theorem wd_1952 : (Cond.instanceMethod yX10_draws : Cond) ∈ wsB := wdT 1952 (by decide +kernel) rfl
theorem wd_1953 : (Cond.code yX10_draws cX10_draws 2 (some .int) : Cond) ∈ wsB := wdT 1953 (by decide +kernel) rfl
theorem wp_112 : (Cond.selects RX10 yX10_draws yX10_draws : Cond) ∈ wsB := wdP 112 (by decide +kernel) rfl
theorem mlX10_635 : LV RX10 635 yX10_draws cX10_draws 2 (some .int) 1 := ⟨wd_1950, wd_1952, wp_112, wd_11, wd_1953, ⟨by decide, by decide, by decide +kernel⟩⟩
