theorem wd_1947 : (Cond.constantLong RX10 629 (10) : Cond) ∈ wsB := wt9 (List.mem_of_getElem? (i := 27) rfl) rfl
theorem wd_1948 : (Cond.constantLong RX10 631 (100) : Cond) ∈ wsB := wt9 (List.mem_of_getElem? (i := 28) rfl) rfl
theorem wd_1949 : (Cond.constantLong RX10 633 (2) : Cond) ∈ wsB := wt9 (List.mem_of_getElem? (i := 29) rfl) rfl
theorem wd_1950 : (Cond.methodLink RX10 635 yX10_draws : Cond) ∈ wsB := wt9 (List.mem_of_getElem? (i := 30) rfl) rfl
theorem wd_1952 : (Cond.instanceMethod yX10_draws : Cond) ∈ wsB := wt9 (List.mem_of_getElem? (i := 32) rfl) rfl
theorem wd_1953 : (Cond.code yX10_draws cX10_draws 2 (some .int) : Cond) ∈ wsB := wt9 (List.mem_of_getElem? (i := 33) rfl) rfl
def Lwp_112 : List (Nat × Cond) := [(112, Cond.selects RX10 yX10_draws yX10_draws)]
set_option maxRecDepth 100000 in
theorem Lwp_112_ok : ∀ q ∈ Lwp_112, (k2_sels lw_privs)[q.1]? = some q.2 ∧ goodWord q.2 = true := by decide +kernel
theorem wp_112 : (Cond.selects RX10 yX10_draws yX10_draws : Cond) ∈ wsB := wpq Lwp_112_ok 0 rfl
theorem mlX10_635 : LV RX10 635 yX10_draws cX10_draws 2 (some .int) 1 := ⟨wd_1950, wd_1952, wp_112, wd_11, wd_1953, ⟨by decide, by decide, by decide +kernel⟩⟩
