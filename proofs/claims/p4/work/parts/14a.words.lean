def Lwd_480 : List (Nat × Cond) := [(480, Cond.methodLink RX2 49 yJ7_fill_53178)]
set_option maxRecDepth 100000 in
theorem Lwd_480_ok : ∀ q ∈ Lwd_480, tables_1[q.1]? = some q.2 ∧ goodWord q.2 = true := by decide +kernel
theorem wd_480 : (Cond.methodLink RX2 49 yJ7_fill_53178 : Cond) ∈ wsB := wdq Lwd_480_ok 0 rfl
theorem mlX2_49 : LT RX2 49 yJ7_fill_53178 cJ7_fill_53178 4 none 2 := ⟨wd_480, wd_481, wd_12, wd_482, ⟨by decide, by decide, by decide +kernel⟩⟩
