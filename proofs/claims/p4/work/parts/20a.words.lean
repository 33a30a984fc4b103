def Lwd_620 : List (Nat × Cond) := [(620, Cond.methodLink RX4 29 yX4_write), (621, Cond.instanceMethod yX4_write), (622, Cond.selects RX4 yX4_write yX4_write), (623, Cond.code yX4_write cX4_write 2 none)]
set_option maxRecDepth 100000 in
theorem Lwd_620_ok : ∀ q ∈ Lwd_620, tables_1[q.1]? = some q.2 ∧ goodWord q.2 = true := by decide +kernel
theorem wd_620 : (Cond.methodLink RX4 29 yX4_write : Cond) ∈ wsB := wdq Lwd_620_ok 0 rfl
theorem wd_621 : (Cond.instanceMethod yX4_write : Cond) ∈ wsB := wdq Lwd_620_ok 1 rfl
theorem wd_622 : (Cond.selects RX4 yX4_write yX4_write : Cond) ∈ wsB := wdq Lwd_620_ok 2 rfl
theorem wd_623 : (Cond.code yX4_write cX4_write 2 none : Cond) ∈ wsB := wdq Lwd_620_ok 3 rfl
theorem plX4_19 : FP RX4 19 4 1 .int := ⟨RX4, TX4, 6, rfl, inlX4, by decide, wd_173, rfl, by decide +kernel, tyX4, tyX4_ok, nmX4⟩
theorem plX4_23 : FP RX4 23 4 2 .int := ⟨RX4, TX4, 6, rfl, inlX4, by decide, wd_174, rfl, by decide +kernel, tyX4, tyX4_ok, nmX4⟩
theorem plX4_26 : FP RX4 26 4 3 .int := ⟨RX4, TX4, 6, rfl, inlX4, by decide, wd_175, rfl, by decide +kernel, tyX4, tyX4_ok, nmX4⟩
theorem mlX4_29 : LV RX4 29 yX4_write cX4_write 2 none 1 := ⟨wd_620, wd_621, wd_622, wd_6, wd_623, ⟨by decide, by decide, by decide +kernel⟩⟩
