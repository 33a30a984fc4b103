theorem wd_427 : (Cond.fieldLink RX9 65 "RaftForest" "row" "[I" : Cond) ∈ wsB := wt2 (List.mem_of_getElem? (i := 187) rfl) rfl
theorem wd_428 : (Cond.fieldLink RX9 69 "RaftForest" "rowPlaces" "[I" : Cond) ∈ wsB := wt2 (List.mem_of_getElem? (i := 188) rfl) rfl
theorem wd_429 : (Cond.fieldLink RX9 72 "RaftForest" "bestRow" "[I" : Cond) ∈ wsB := wt2 (List.mem_of_getElem? (i := 189) rfl) rfl
theorem wd_974 : (Cond.methodLink RX9 310 yX9_takeRow : Cond) ∈ wsB := wt5 (List.mem_of_getElem? (i := 14) rfl) rfl
theorem wd_976 : (Cond.instanceMethod yX9_takeRow : Cond) ∈ wsB := wt5 (List.mem_of_getElem? (i := 16) rfl) rfl
theorem wd_977 : (Cond.code yX9_takeRow cX9_takeRow 4 (some .int) : Cond) ∈ wsB := wt5 (List.mem_of_getElem? (i := 17) rfl) rfl
theorem wd_978 : (Cond.methodLink RX9 325 yX6_isInWater : Cond) ∈ wsB := wt5 (List.mem_of_getElem? (i := 18) rfl) rfl
theorem wd_979 : (Cond.constant RX9 314 (2147483647) : Cond) ∈ wsB := wt5 (List.mem_of_getElem? (i := 19) rfl) rfl
theorem wd_980 : (Cond.methodLink RX9 321 yX9_nextRow : Cond) ∈ wsB := wt5 (List.mem_of_getElem? (i := 20) rfl) rfl
theorem wd_981 : (Cond.static yX9_nextRow : Cond) ∈ wsB := wt5 (List.mem_of_getElem? (i := 21) rfl) rfl
theorem wd_982 : (Cond.code yX9_nextRow cX9_nextRow 6 (some .boolean) : Cond) ∈ wsB := wt5 (List.mem_of_getElem? (i := 22) rfl) rfl
theorem wd_983 : (Cond.methodLink RX9 328 yX9_swap : Cond) ∈ wsB := wt5 (List.mem_of_getElem? (i := 23) rfl) rfl
theorem wd_984 : (Cond.static yX9_swap : Cond) ∈ wsB := wt5 (List.mem_of_getElem? (i := 24) rfl) rfl
theorem wd_985 : (Cond.code yX9_swap cX9_swap 4 none : Cond) ∈ wsB := wt5 (List.mem_of_getElem? (i := 25) rfl) rfl
def Lwp_25 : List (Nat × Cond) := [(25, Cond.selects RX9 yX9_takeRow yX9_takeRow)]
set_option maxRecDepth 100000 in
theorem Lwp_25_ok : ∀ q ∈ Lwp_25, (k2_sels lw_privs)[q.1]? = some q.2 ∧ goodWord q.2 = true := by decide +kernel
theorem wp_25 : (Cond.selects RX9 yX9_takeRow yX9_takeRow : Cond) ∈ wsB := wpq Lwp_25_ok 0 rfl
theorem mlX9_328 : LT RX9 328 yX9_swap cX9_swap 4 none 3 := ⟨wd_983, wd_984, wd_1, wd_985, ⟨by decide, by decide, by decide +kernel⟩⟩
theorem mlX9_325 : LV RX9 325 yX6_isInWater cX6_isInWater 2 (some .boolean) 1 := ⟨wd_978, wd_899, wd_900, wd_8, wd_901, ⟨by decide, by decide, by decide +kernel⟩⟩
theorem glX9_65 : FL RX9 65 9 8 := ⟨RX9, TX9, 12, rfl, inlX9, by decide, wd_427⟩
theorem glX9_69 : FL RX9 69 9 9 := ⟨RX9, TX9, 12, rfl, inlX9, by decide, wd_428⟩
theorem mlX9_310 : LV RX9 310 yX9_takeRow cX9_takeRow 4 (some .int) 0 := ⟨wd_974, wd_976, wp_25, wd_1, wd_977, ⟨by decide, by decide, by decide +kernel⟩⟩
theorem mlX9_321 : LT RX9 321 yX9_nextRow cX9_nextRow 6 (some .boolean) 2 := ⟨wd_980, wd_981, wd_1, wd_982, ⟨by decide, by decide, by decide +kernel⟩⟩
theorem glX9_72 : FL RX9 72 9 10 := ⟨RX9, TX9, 12, rfl, inlX9, by decide, wd_429⟩
theorem sX9_8 {b : Nat} (h : isX9 b) : SF b 9 8 (3) := by rcases h with rfl <;> exact ⟨by decide, rfl, rfl, by decide, rfl, rfl⟩
theorem aX9_8 {b : Nat} (h : isX9 b) : AI (3) 6 0 11 := by rcases h with rfl <;> exact ⟨by decide, rfl, rfl, fun _ => ⟨rfl, rfl⟩⟩
theorem sX9_9 {b : Nat} (h : isX9 b) : SF b 9 9 (4) := by rcases h with rfl <;> exact ⟨by decide, rfl, rfl, by decide, rfl, rfl⟩
theorem aX9_9 {b : Nat} (h : isX9 b) : AI (4) 6 0 11 := by rcases h with rfl <;> exact ⟨by decide, rfl, rfl, fun _ => ⟨rfl, rfl⟩⟩
theorem sX9_10 {b : Nat} (h : isX9 b) : SF b 9 10 (5) := by rcases h with rfl <;> exact ⟨by decide, rfl, rfl, by decide, rfl, rfl⟩
theorem aX9_10 {b : Nat} (h : isX9 b) : AI (5) 6 0 11 := by rcases h with rfl <;> exact ⟨by decide, rfl, rfl, fun _ => ⟨rfl, rfl⟩⟩
