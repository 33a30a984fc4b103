theorem wd_620 : (Cond.methodLink RX4 29 yX4_write : Cond) ∈ wsB := wt3 (List.mem_of_getElem? (i := 140) rfl) rfl
theorem wd_621 : (Cond.instanceMethod yX4_write : Cond) ∈ wsB := wt3 (List.mem_of_getElem? (i := 141) rfl) rfl
theorem wd_622 : (Cond.selects RX4 yX4_write yX4_write : Cond) ∈ wsB := wt3 (List.mem_of_getElem? (i := 142) rfl) rfl
theorem wd_623 : (Cond.code yX4_write cX4_write 2 none : Cond) ∈ wsB := wt3 (List.mem_of_getElem? (i := 143) rfl) rfl
theorem plX4_19 : FP RX4 19 4 1 .int := ⟨RX4, TX4, 6, rfl, inlX4, by decide, wd_173, rfl, by decide +kernel, tyX4, tyX4_ok, nmX4⟩
theorem plX4_23 : FP RX4 23 4 2 .int := ⟨RX4, TX4, 6, rfl, inlX4, by decide, wd_174, rfl, by decide +kernel, tyX4, tyX4_ok, nmX4⟩
theorem plX4_26 : FP RX4 26 4 3 .int := ⟨RX4, TX4, 6, rfl, inlX4, by decide, wd_175, rfl, by decide +kernel, tyX4, tyX4_ok, nmX4⟩
theorem mlX4_29 : LV RX4 29 yX4_write cX4_write 2 none 1 := ⟨wd_620, wd_621, wd_622, wd_6, wd_623, ⟨by decide, by decide, by decide +kernel⟩⟩
