theorem wd_480 : (Cond.methodLink RX2 49 yJ7_fill_53178 : Cond) ∈ wsB := wt3 (List.mem_of_getElem? (i := 0) rfl) rfl
theorem mlX2_49 : LT RX2 49 yJ7_fill_53178 cJ7_fill_53178 4 none 2 := ⟨wd_480, wd_481, wd_12, wd_482, ⟨by decide, by decide, by decide +kernel⟩⟩
