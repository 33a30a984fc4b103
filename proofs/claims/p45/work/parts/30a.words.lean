theorem wd_11 : (Cond.initialized RX10 : Cond) ∈ wsB := wt1 (List.mem_of_getElem? (i := 11) rfl) rfl
theorem wd_1136 : (Cond.fieldLink RX10 9 "RaftForestModel" "scalar" "[I" : Cond) ∈ wsB := wt5 (List.mem_of_getElem? (i := 176) rfl) rfl
theorem wd_1137 : (Cond.fieldLink RX10 13 "RaftForestModel" "width" "[I" : Cond) ∈ wsB := wt5 (List.mem_of_getElem? (i := 177) rfl) rfl
theorem wd_1138 : (Cond.fieldLink RX10 16 "RaftForestModel" "dams" "[I" : Cond) ∈ wsB := wt5 (List.mem_of_getElem? (i := 178) rfl) rfl
theorem wd_1143 : (Cond.fieldLink RX10 31 "RaftForestModel" "owed" "[I" : Cond) ∈ wsB := wt5 (List.mem_of_getElem? (i := 183) rfl) rfl
theorem wd_1147 : (Cond.fieldLink RX10 43 "RaftForestModel" "place" "[I" : Cond) ∈ wsB := wt5 (List.mem_of_getElem? (i := 187) rfl) rfl
theorem wd_1148 : (Cond.fieldLink RX10 46 "RaftForestModel" "notches" "[I" : Cond) ∈ wsB := wt5 (List.mem_of_getElem? (i := 188) rfl) rfl
theorem wd_1153 : (Cond.fieldLink RX10 61 "RaftForestModel" "notch" "[I" : Cond) ∈ wsB := wt5 (List.mem_of_getElem? (i := 193) rfl) rfl
theorem wd_1154 : (Cond.fieldLink RX10 64 "RaftForestModel" "beams" "[I" : Cond) ∈ wsB := wt5 (List.mem_of_getElem? (i := 194) rfl) rfl
theorem wd_1196 : (Cond.fieldLink RX10 525 "RaftForestModel" "jammed" "I" : Cond) ∈ wsB := wt5 (List.mem_of_getElem? (i := 236) rfl) rfl
theorem wd_1197 : (Cond.fieldLink RX10 528 "RaftForestModel" "sold" "I" : Cond) ∈ wsB := wt5 (List.mem_of_getElem? (i := 237) rfl) rfl
theorem wd_1198 : (Cond.fieldLink RX10 531 "RaftForestModel" "soldCoins" "I" : Cond) ∈ wsB := wt5 (List.mem_of_getElem? (i := 238) rfl) rfl
theorem wd_1199 : (Cond.fieldLink RX10 534 "RaftForestModel" "taken" "I" : Cond) ∈ wsB := wt5 (List.mem_of_getElem? (i := 239) rfl) rfl
theorem wd_1200 : (Cond.fieldLink RX10 537 "RaftForestModel" "added" "I" : Cond) ∈ wsB := wt6 (List.mem_of_getElem? (i := 0) rfl) rfl
theorem wd_1201 : (Cond.fieldLink RX10 540 "RaftForestModel" "faded" "I" : Cond) ∈ wsB := wt6 (List.mem_of_getElem? (i := 1) rfl) rfl
theorem wd_1451 : (Cond.methodLink RX10 191 yX10_in : Cond) ∈ wsB := wt7 (List.mem_of_getElem? (i := 11) rfl) rfl
theorem wd_1452 : (Cond.static yX10_in : Cond) ∈ wsB := wt7 (List.mem_of_getElem? (i := 12) rfl) rfl
theorem wd_1453 : (Cond.code yX10_in cX10_in 6 (some .boolean) : Cond) ∈ wsB := wt7 (List.mem_of_getElem? (i := 13) rfl) rfl
theorem wd_1584 : (Cond.methodLink RX10 206 yX10_logsAt : Cond) ∈ wsB := wt7 (List.mem_of_getElem? (i := 144) rfl) rfl
theorem wd_1586 : (Cond.instanceMethod yX10_logsAt : Cond) ∈ wsB := wt7 (List.mem_of_getElem? (i := 146) rfl) rfl
theorem wd_1587 : (Cond.code yX10_logsAt cX10_logsAt 4 (some .int) : Cond) ∈ wsB := wt7 (List.mem_of_getElem? (i := 147) rfl) rfl
theorem wd_1592 : (Cond.methodLink RX10 210 yX10_bits : Cond) ∈ wsB := wt7 (List.mem_of_getElem? (i := 152) rfl) rfl
theorem wd_1593 : (Cond.static yX10_bits : Cond) ∈ wsB := wt7 (List.mem_of_getElem? (i := 153) rfl) rfl
theorem wd_1594 : (Cond.code yX10_bits cX10_bits 3 (some .int) : Cond) ∈ wsB := wt7 (List.mem_of_getElem? (i := 154) rfl) rfl
theorem wd_1648 : (Cond.constantLong RX10 195 (20) : Cond) ∈ wsB := wt7 (List.mem_of_getElem? (i := 208) rfl) rfl
theorem wd_1649 : (Cond.constantLong RX10 197 (25) : Cond) ∈ wsB := wt7 (List.mem_of_getElem? (i := 209) rfl) rfl
theorem wd_1668 : (Cond.methodLink RX10 440 yX10_truth : Cond) ∈ wsB := wt7 (List.mem_of_getElem? (i := 228) rfl) rfl
theorem wd_1669 : (Cond.static yX10_truth : Cond) ∈ wsB := wt7 (List.mem_of_getElem? (i := 229) rfl) rfl
theorem wd_1670 : (Cond.code yX10_truth cX10_truth 1 (some .long) : Cond) ∈ wsB := wt7 (List.mem_of_getElem? (i := 230) rfl) rfl
def Lwp_60 : List (Nat × Cond) := [(60, Cond.selects RX10 yX10_logsAt yX10_logsAt)]
set_option maxRecDepth 100000 in
theorem Lwp_60_ok : ∀ q ∈ Lwp_60, (k2_sels lw_privs)[q.1]? = some q.2 ∧ goodWord q.2 = true := by decide +kernel
theorem wp_60 : (Cond.selects RX10 yX10_logsAt yX10_logsAt : Cond) ∈ wsB := wpq Lwp_60_ok 0 rfl
theorem glX10_9 : FL RX10 9 10 1 := ⟨RX10, TX10, 80, rfl, inlX10, by decide, wd_1136⟩
theorem mlX10_191 : LT RX10 191 yX10_in cX10_in 6 (some .boolean) 3 := ⟨wd_1451, wd_1452, wd_11, wd_1453, ⟨by decide, by decide, by decide +kernel⟩⟩
theorem glX10_43 : FL RX10 43 10 12 := ⟨RX10, TX10, 80, rfl, inlX10, by decide, wd_1147⟩
theorem glX10_13 : FL RX10 13 10 2 := ⟨RX10, TX10, 80, rfl, inlX10, by decide, wd_1137⟩
theorem glX10_16 : FL RX10 16 10 3 := ⟨RX10, TX10, 80, rfl, inlX10, by decide, wd_1138⟩
theorem mlX10_206 : LV RX10 206 yX10_logsAt cX10_logsAt 4 (some .int) 1 := ⟨wd_1584, wd_1586, wp_60, wd_11, wd_1587, ⟨by decide, by decide, by decide +kernel⟩⟩
theorem mlX10_210 : LT RX10 210 yX10_bits cX10_bits 3 (some .int) 1 := ⟨wd_1592, wd_1593, wd_11, wd_1594, ⟨by decide, by decide, by decide +kernel⟩⟩
theorem glX10_46 : FL RX10 46 10 13 := ⟨RX10, TX10, 80, rfl, inlX10, by decide, wd_1148⟩
theorem glX10_61 : FL RX10 61 10 18 := ⟨RX10, TX10, 80, rfl, inlX10, by decide, wd_1153⟩
theorem mlX10_440 : LT RX10 440 yX10_truth cX10_truth 1 (some .long) 1 := ⟨wd_1668, wd_1669, wd_11, wd_1670, ⟨by decide, by decide, by decide +kernel⟩⟩
theorem glX10_31 : FL RX10 31 10 8 := ⟨RX10, TX10, 80, rfl, inlX10, by decide, wd_1143⟩
theorem glX10_525 : FL RX10 525 10 61 := ⟨RX10, TX10, 80, rfl, inlX10, by decide, wd_1196⟩
theorem glX10_528 : FL RX10 528 10 62 := ⟨RX10, TX10, 80, rfl, inlX10, by decide, wd_1197⟩
theorem glX10_531 : FL RX10 531 10 63 := ⟨RX10, TX10, 80, rfl, inlX10, by decide, wd_1198⟩
theorem glX10_534 : FL RX10 534 10 64 := ⟨RX10, TX10, 80, rfl, inlX10, by decide, wd_1199⟩
theorem glX10_537 : FL RX10 537 10 65 := ⟨RX10, TX10, 80, rfl, inlX10, by decide, wd_1200⟩
theorem glX10_540 : FL RX10 540 10 66 := ⟨RX10, TX10, 80, rfl, inlX10, by decide, wd_1201⟩
theorem plX10_525 : FP RX10 525 10 61 .int := ⟨RX10, TX10, 80, rfl, inlX10, by decide, wd_1196, rfl, by decide +kernel, tyX10, tyX10_ok, nmX10⟩
theorem plX10_528 : FP RX10 528 10 62 .int := ⟨RX10, TX10, 80, rfl, inlX10, by decide, wd_1197, rfl, by decide +kernel, tyX10, tyX10_ok, nmX10⟩
theorem plX10_531 : FP RX10 531 10 63 .int := ⟨RX10, TX10, 80, rfl, inlX10, by decide, wd_1198, rfl, by decide +kernel, tyX10, tyX10_ok, nmX10⟩
theorem plX10_534 : FP RX10 534 10 64 .int := ⟨RX10, TX10, 80, rfl, inlX10, by decide, wd_1199, rfl, by decide +kernel, tyX10, tyX10_ok, nmX10⟩
theorem plX10_537 : FP RX10 537 10 65 .int := ⟨RX10, TX10, 80, rfl, inlX10, by decide, wd_1200, rfl, by decide +kernel, tyX10, tyX10_ok, nmX10⟩
theorem plX10_540 : FP RX10 540 10 66 .int := ⟨RX10, TX10, 80, rfl, inlX10, by decide, wd_1201, rfl, by decide +kernel, tyX10, tyX10_ok, nmX10⟩
theorem glX10_64 : FL RX10 64 10 19 := ⟨RX10, TX10, 80, rfl, inlX10, by decide, wd_1154⟩
theorem sX10_1 {b : Nat} (h : isX10 b) : SF b 10 1 (b + 1) := by rcases h with rfl <;> exact ⟨by decide, rfl, rfl, by decide, rfl, rfl⟩
theorem aX10_1 {b : Nat} (h : isX10 b) : AK (b + 1) 0 17 := by rcases h with rfl <;> exact ⟨by decide, rfl, rfl⟩
theorem sX10_12 {b : Nat} (h : isX10 b) : SF b 10 12 (b + 12) := by rcases h with rfl <;> exact ⟨by decide, rfl, rfl, by decide, rfl, rfl⟩
theorem aX10_12 {b : Nat} (h : isX10 b) : AI (b + 12) 12 (-2147483648) 2147483647 := by rcases h with rfl <;> exact ⟨by decide, rfl, rfl, fun _ => ⟨rfl, rfl⟩⟩
theorem sX10_2 {b : Nat} (h : isX10 b) : SF b 10 2 (b + 2) := by rcases h with rfl <;> exact ⟨by decide, rfl, rfl, by decide, rfl, rfl⟩
theorem aX10_2 {b : Nat} (h : isX10 b) : AI (b + 2) 9 (-2147483648) 2147483647 := by rcases h with rfl <;> exact ⟨by decide, rfl, rfl, fun _ => ⟨rfl, rfl⟩⟩
theorem sX10_3 {b : Nat} (h : isX10 b) : SF b 10 3 (b + 3) := by rcases h with rfl <;> exact ⟨by decide, rfl, rfl, by decide, rfl, rfl⟩
theorem aX10_3 {b : Nat} (h : isX10 b) : AI (b + 3) 9 (-2147483648) 2147483647 := by rcases h with rfl <;> exact ⟨by decide, rfl, rfl, fun _ => ⟨rfl, rfl⟩⟩
theorem obX10 {b : Nat} (h : isX10 b) : OB b RX10 := by rcases h with rfl <;> exact ⟨by decide, rfl, _, _, rfl⟩
theorem sX10_13 {b : Nat} (h : isX10 b) : SF b 10 13 (b + 13) := by rcases h with rfl <;> exact ⟨by decide, rfl, rfl, by decide, rfl, rfl⟩
theorem aX10_13 {b : Nat} (h : isX10 b) : AI (b + 13) 12 0 6 := by rcases h with rfl <;> exact ⟨by decide, rfl, rfl, fun _ => ⟨rfl, rfl⟩⟩
theorem sX10_18 {b : Nat} (h : isX10 b) : SF b 10 18 (b + 18) := by rcases h with rfl <;> exact ⟨by decide, rfl, rfl, by decide, rfl, rfl⟩
theorem aX10_18 {b : Nat} (h : isX10 b) : AI (b + 18) 72 (-2147483648) 2147483647 := by rcases h with rfl <;> exact ⟨by decide, rfl, rfl, fun _ => ⟨rfl, rfl⟩⟩
theorem sX10_8 {b : Nat} (h : isX10 b) : SF b 10 8 (b + 8) := by rcases h with rfl <;> exact ⟨by decide, rfl, rfl, by decide, rfl, rfl⟩
theorem aX10_8 {b : Nat} (h : isX10 b) : AI (b + 8) 36 (-2147483648) 2147483647 := by rcases h with rfl <;> exact ⟨by decide, rfl, rfl, fun _ => ⟨rfl, rfl⟩⟩
theorem sX10_61 {b : Nat} (h : isX10 b) : SI b 10 61 (-2147483648) 2147483647 := by rcases h with rfl <;> exact ⟨by decide, rfl, rfl, by decide, rfl, rfl, rfl⟩
theorem sX10_62 {b : Nat} (h : isX10 b) : SI b 10 62 (-2147483648) 2147483647 := by rcases h with rfl <;> exact ⟨by decide, rfl, rfl, by decide, rfl, rfl, rfl⟩
theorem sX10_63 {b : Nat} (h : isX10 b) : SI b 10 63 (-2147483648) 2147483647 := by rcases h with rfl <;> exact ⟨by decide, rfl, rfl, by decide, rfl, rfl, rfl⟩
theorem sX10_64 {b : Nat} (h : isX10 b) : SI b 10 64 (-2147483648) 2147483647 := by rcases h with rfl <;> exact ⟨by decide, rfl, rfl, by decide, rfl, rfl, rfl⟩
theorem sX10_65 {b : Nat} (h : isX10 b) : SI b 10 65 (-2147483648) 2147483647 := by rcases h with rfl <;> exact ⟨by decide, rfl, rfl, by decide, rfl, rfl, rfl⟩
theorem sX10_66 {b : Nat} (h : isX10 b) : SI b 10 66 (-2147483648) 2147483647 := by rcases h with rfl <;> exact ⟨by decide, rfl, rfl, by decide, rfl, rfl, rfl⟩
theorem sX10_19 {b : Nat} (h : isX10 b) : SF b 10 19 (b + 19) := by rcases h with rfl <;> exact ⟨by decide, rfl, rfl, by decide, rfl, rfl⟩
theorem aX10_19 {b : Nat} (h : isX10 b) : AI (b + 19) 20 (-2147483648) 2147483647 := by rcases h with rfl <;> exact ⟨by decide, rfl, rfl, fun _ => ⟨rfl, rfl⟩⟩
