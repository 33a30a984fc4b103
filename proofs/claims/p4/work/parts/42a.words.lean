def Lwd_1947 : List (Nat × Cond) := [(1947, Cond.constantLong RX10 629 (10)), (1948, Cond.constantLong RX10 631 (100)), (1949, Cond.constantLong RX10 633 (2)), (1950, Cond.methodLink RX10 635 yX10_draws), (1952, Cond.instanceMethod yX10_draws), (1953, Cond.code yX10_draws cX10_draws 2 (some .int))]
set_option maxRecDepth 100000 in
theorem Lwd_1947_ok : ∀ q ∈ Lwd_1947, tables_1[q.1]? = some q.2 ∧ goodWord q.2 = true := by decide +kernel
theorem wd_1947 : (Cond.constantLong RX10 629 (10) : Cond) ∈ wsB := wdq Lwd_1947_ok 0 rfl
theorem wd_1948 : (Cond.constantLong RX10 631 (100) : Cond) ∈ wsB := wdq Lwd_1947_ok 1 rfl
theorem wd_1949 : (Cond.constantLong RX10 633 (2) : Cond) ∈ wsB := wdq Lwd_1947_ok 2 rfl
theorem wd_1950 : (Cond.methodLink RX10 635 yX10_draws : Cond) ∈ wsB := wdq Lwd_1947_ok 3 rfl
theorem wd_1952 : (Cond.instanceMethod yX10_draws : Cond) ∈ wsB := wdq Lwd_1947_ok 4 rfl
theorem wd_1953 : (Cond.code yX10_draws cX10_draws 2 (some .int) : Cond) ∈ wsB := wdq Lwd_1947_ok 5 rfl
def Lwp_112 : List (Nat × Cond) := [(112, Cond.selects RX10 yX10_draws yX10_draws)]
set_option maxRecDepth 100000 in
theorem Lwp_112_ok : ∀ q ∈ Lwp_112, (k2_sels lw_privs)[q.1]? = some q.2 ∧ goodWord q.2 = true := by decide +kernel
theorem wp_112 : (Cond.selects RX10 yX10_draws yX10_draws : Cond) ∈ wsB := wpq Lwp_112_ok 0 rfl
theorem mlX10_635 : LV RX10 635 yX10_draws cX10_draws 2 (some .int) 1 := ⟨wd_1950, wd_1952, wp_112, wd_11, wd_1953, ⟨by decide, by decide, by decide +kernel⟩⟩
