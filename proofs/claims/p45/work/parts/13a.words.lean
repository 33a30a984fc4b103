theorem wd_1 : (Cond.initialized RX9 : Cond) ∈ wsB := wt1 (List.mem_of_getElem? (i := 1) rfl) rfl
theorem wd_71 : (Cond.fieldLink RX2 33 "RaftForest$River" "bends" "I" : Cond) ∈ wsB := wt1 (List.mem_of_getElem? (i := 71) rfl) rfl
theorem wd_75 : (Cond.fieldLink RX2 37 "RaftForest$River" "villages" "I" : Cond) ∈ wsB := wt1 (List.mem_of_getElem? (i := 75) rfl) rfl
theorem wd_79 : (Cond.fieldLink RX2 40 "RaftForest$River" "woods" "I" : Cond) ∈ wsB := wt1 (List.mem_of_getElem? (i := 79) rfl) rfl
theorem wd_82 : (Cond.fieldLink RX2 43 "RaftForest$River" "logs" "I" : Cond) ∈ wsB := wt1 (List.mem_of_getElem? (i := 82) rfl) rfl
theorem wd_87 : (Cond.fieldLink RX2 46 "RaftForest$River" "toll" "I" : Cond) ∈ wsB := wt1 (List.mem_of_getElem? (i := 87) rfl) rfl
theorem wd_91 : (Cond.fieldLink RX2 9 "RaftForest$River" "villageBends" "[I" : Cond) ∈ wsB := wt1 (List.mem_of_getElem? (i := 91) rfl) rfl
theorem wd_95 : (Cond.fieldLink RX2 15 "RaftForest$River" "widths" "[I" : Cond) ∈ wsB := wt1 (List.mem_of_getElem? (i := 95) rfl) rfl
theorem wd_99 : (Cond.fieldLink RX2 18 "RaftForest$River" "woodPrices" "[I" : Cond) ∈ wsB := wt1 (List.mem_of_getElem? (i := 99) rfl) rfl
theorem wd_102 : (Cond.fieldLink RX2 21 "RaftForest$River" "logWoods" "[I" : Cond) ∈ wsB := wt1 (List.mem_of_getElem? (i := 102) rfl) rfl
theorem wd_106 : (Cond.fieldLink RX2 24 "RaftForest$River" "logLengths" "[I" : Cond) ∈ wsB := wt1 (List.mem_of_getElem? (i := 106) rfl) rfl
theorem wd_109 : (Cond.fieldLink RX2 27 "RaftForest$River" "logRings" "[I" : Cond) ∈ wsB := wt1 (List.mem_of_getElem? (i := 109) rfl) rfl
theorem wd_113 : (Cond.fieldLink RX2 30 "RaftForest$River" "logVillages" "[I" : Cond) ∈ wsB := wt1 (List.mem_of_getElem? (i := 113) rfl) rfl
theorem wd_207 : (Cond.fieldLink RX6 43 "RaftForest$State" "day" "I" : Cond) ∈ wsB := wt1 (List.mem_of_getElem? (i := 207) rfl) rfl
theorem wd_211 : (Cond.fieldLink RX6 46 "RaftForest$State" "water" "I" : Cond) ∈ wsB := wt1 (List.mem_of_getElem? (i := 211) rfl) rfl
theorem wd_214 : (Cond.fieldLink RX6 9 "RaftForest$State" "ruleInForce" "I" : Cond) ∈ wsB := wt1 (List.mem_of_getElem? (i := 214) rfl) rfl
theorem wd_217 : (Cond.fieldLink RX6 49 "RaftForest$State" "law" "I" : Cond) ∈ wsB := wt1 (List.mem_of_getElem? (i := 217) rfl) rfl
theorem wd_220 : (Cond.fieldLink RX6 52 "RaftForest$State" "lawRule" "I" : Cond) ∈ wsB := wt1 (List.mem_of_getElem? (i := 220) rfl) rfl
theorem wd_224 : (Cond.fieldLink RX6 15 "RaftForest$State" "villageRules" "[I" : Cond) ∈ wsB := wt1 (List.mem_of_getElem? (i := 224) rfl) rfl
theorem wd_227 : (Cond.fieldLink RX6 19 "RaftForest$State" "dams" "[I" : Cond) ∈ wsB := wt1 (List.mem_of_getElem? (i := 227) rfl) rfl
theorem wd_234 : (Cond.fieldLink RX6 25 "RaftForest$State" "lengths" "[I" : Cond) ∈ wsB := wt1 (List.mem_of_getElem? (i := 234) rfl) rfl
theorem wd_240 : (Cond.fieldLink RX6 31 "RaftForest$State" "jamDays" "[I" : Cond) ∈ wsB := wt2 (List.mem_of_getElem? (i := 0) rfl) rfl
theorem wd_289 : (Cond.fieldLink RX0 67 "RaftForest$Books" "seed" "I" : Cond) ∈ wsB := wt2 (List.mem_of_getElem? (i := 49) rfl) rfl
theorem wd_291 : (Cond.fieldLink RX0 48 "RaftForest$Books" "sea" "I" : Cond) ∈ wsB := wt2 (List.mem_of_getElem? (i := 51) rfl) rfl
theorem wd_294 : (Cond.fieldLink RX0 9 "RaftForest$Books" "coins" "[I" : Cond) ∈ wsB := wt2 (List.mem_of_getElem? (i := 54) rfl) rfl
theorem wd_308 : (Cond.fieldLink RX0 30 "RaftForest$Books" "sightDays" "[I" : Cond) ∈ wsB := wt2 (List.mem_of_getElem? (i := 68) rfl) rfl
theorem wd_574 : (Cond.static yX9_copyRow : Cond) ∈ wsB := wt3 (List.mem_of_getElem? (i := 94) rfl) rfl
theorem wd_575 : (Cond.code yX9_copyRow cX9_copyRow 2 none : Cond) ∈ wsB := wt3 (List.mem_of_getElem? (i := 95) rfl) rfl
theorem glX2_33 : FL RX2 33 2 0 := ⟨RX2, TX2, 12, rfl, inlX2, by decide, wd_71⟩
theorem plX2_33 : FP RX2 33 2 0 .int := ⟨RX2, TX2, 12, rfl, inlX2, by decide, wd_71, rfl, by decide +kernel, tyX2, tyX2_ok, nmX2⟩
theorem glX2_37 : FL RX2 37 2 1 := ⟨RX2, TX2, 12, rfl, inlX2, by decide, wd_75⟩
theorem plX2_37 : FP RX2 37 2 1 .int := ⟨RX2, TX2, 12, rfl, inlX2, by decide, wd_75, rfl, by decide +kernel, tyX2, tyX2_ok, nmX2⟩
theorem glX2_40 : FL RX2 40 2 2 := ⟨RX2, TX2, 12, rfl, inlX2, by decide, wd_79⟩
theorem plX2_40 : FP RX2 40 2 2 .int := ⟨RX2, TX2, 12, rfl, inlX2, by decide, wd_79, rfl, by decide +kernel, tyX2, tyX2_ok, nmX2⟩
theorem glX2_43 : FL RX2 43 2 3 := ⟨RX2, TX2, 12, rfl, inlX2, by decide, wd_82⟩
theorem plX2_43 : FP RX2 43 2 3 .int := ⟨RX2, TX2, 12, rfl, inlX2, by decide, wd_82, rfl, by decide +kernel, tyX2, tyX2_ok, nmX2⟩
theorem glX2_46 : FL RX2 46 2 4 := ⟨RX2, TX2, 12, rfl, inlX2, by decide, wd_87⟩
theorem plX2_46 : FP RX2 46 2 4 .int := ⟨RX2, TX2, 12, rfl, inlX2, by decide, wd_87, rfl, by decide +kernel, tyX2, tyX2_ok, nmX2⟩
theorem glX2_9 : FL RX2 9 2 5 := ⟨RX2, TX2, 12, rfl, inlX2, by decide, wd_91⟩
theorem mlX2_55 : LN RX2 55 yX9_copyRow cX9_copyRow 2 none 2 := ⟨⟨_, List.mem_of_getElem? (i := 10) rfl⟩, wd_574, wd_1, wd_575, ⟨by decide, by decide, by decide +kernel⟩⟩
theorem glX2_15 : FL RX2 15 2 6 := ⟨RX2, TX2, 12, rfl, inlX2, by decide, wd_95⟩
theorem glX2_18 : FL RX2 18 2 7 := ⟨RX2, TX2, 12, rfl, inlX2, by decide, wd_99⟩
theorem glX2_21 : FL RX2 21 2 8 := ⟨RX2, TX2, 12, rfl, inlX2, by decide, wd_102⟩
theorem glX2_24 : FL RX2 24 2 9 := ⟨RX2, TX2, 12, rfl, inlX2, by decide, wd_106⟩
theorem glX2_27 : FL RX2 27 2 10 := ⟨RX2, TX2, 12, rfl, inlX2, by decide, wd_109⟩
theorem glX2_30 : FL RX2 30 2 11 := ⟨RX2, TX2, 12, rfl, inlX2, by decide, wd_113⟩
theorem glX6_43 : FL RX6 43 6 0 := ⟨RX6, TX6, 15, rfl, inlX6, by decide, wd_207⟩
theorem plX6_43 : FP RX6 43 6 0 .int := ⟨RX6, TX6, 15, rfl, inlX6, by decide, wd_207, rfl, by decide +kernel, tyX6, tyX6_ok, nmX6⟩
theorem glX6_46 : FL RX6 46 6 1 := ⟨RX6, TX6, 15, rfl, inlX6, by decide, wd_211⟩
theorem plX6_46 : FP RX6 46 6 1 .int := ⟨RX6, TX6, 15, rfl, inlX6, by decide, wd_211, rfl, by decide +kernel, tyX6, tyX6_ok, nmX6⟩
theorem glX6_9 : FL RX6 9 6 2 := ⟨RX6, TX6, 15, rfl, inlX6, by decide, wd_214⟩
theorem plX6_9 : FP RX6 9 6 2 .int := ⟨RX6, TX6, 15, rfl, inlX6, by decide, wd_214, rfl, by decide +kernel, tyX6, tyX6_ok, nmX6⟩
theorem glX6_49 : FL RX6 49 6 3 := ⟨RX6, TX6, 15, rfl, inlX6, by decide, wd_217⟩
theorem plX6_49 : FP RX6 49 6 3 .int := ⟨RX6, TX6, 15, rfl, inlX6, by decide, wd_217, rfl, by decide +kernel, tyX6, tyX6_ok, nmX6⟩
theorem glX6_52 : FL RX6 52 6 4 := ⟨RX6, TX6, 15, rfl, inlX6, by decide, wd_220⟩
theorem plX6_52 : FP RX6 52 6 4 .int := ⟨RX6, TX6, 15, rfl, inlX6, by decide, wd_220, rfl, by decide +kernel, tyX6, tyX6_ok, nmX6⟩
theorem plX6_60 : FP RX6 60 6 5 .int := ⟨RX6, TX6, 15, rfl, inlX6, by decide, wd_223, rfl, by decide +kernel, tyX6, tyX6_ok, nmX6⟩
theorem glX6_15 : FL RX6 15 6 6 := ⟨RX6, TX6, 15, rfl, inlX6, by decide, wd_224⟩
theorem mlX6_70 : LN RX6 70 yX9_copyRow cX9_copyRow 2 none 2 := ⟨⟨_, List.mem_of_getElem? (i := 11) rfl⟩, wd_574, wd_1, wd_575, ⟨by decide, by decide, by decide +kernel⟩⟩
theorem glX6_19 : FL RX6 19 6 7 := ⟨RX6, TX6, 15, rfl, inlX6, by decide, wd_227⟩
theorem glX6_25 : FL RX6 25 6 9 := ⟨RX6, TX6, 15, rfl, inlX6, by decide, wd_234⟩
theorem glX6_31 : FL RX6 31 6 11 := ⟨RX6, TX6, 15, rfl, inlX6, by decide, wd_240⟩
theorem glX0_67 : FL RX0 67 0 0 := ⟨RX0, TX0, 17, rfl, inlX0, by decide, wd_289⟩
theorem plX0_67 : FP RX0 67 0 0 .int := ⟨RX0, TX0, 17, rfl, inlX0, by decide, wd_289, rfl, by decide +kernel, tyX0, tyX0_ok, nmX0⟩
theorem glX0_48 : FL RX0 48 0 1 := ⟨RX0, TX0, 17, rfl, inlX0, by decide, wd_291⟩
theorem plX0_48 : FP RX0 48 0 1 .int := ⟨RX0, TX0, 17, rfl, inlX0, by decide, wd_291, rfl, by decide +kernel, tyX0, tyX0_ok, nmX0⟩
theorem glX0_9 : FL RX0 9 0 2 := ⟨RX0, TX0, 17, rfl, inlX0, by decide, wd_294⟩
theorem mlX0_70 : LN RX0 70 yX9_copyRow cX9_copyRow 2 none 2 := ⟨⟨_, List.mem_of_getElem? (i := 12) rfl⟩, wd_574, wd_1, wd_575, ⟨by decide, by decide, by decide +kernel⟩⟩
theorem plX0_58 : FP RX0 58 0 4 .int := ⟨RX0, TX0, 17, rfl, inlX0, by decide, wd_299, rfl, by decide +kernel, tyX0, tyX0_ok, nmX0⟩
theorem plX0_61 : FP RX0 61 0 6 .int := ⟨RX0, TX0, 17, rfl, inlX0, by decide, wd_303, rfl, by decide +kernel, tyX0, tyX0_ok, nmX0⟩
theorem glX0_30 : FL RX0 30 0 10 := ⟨RX0, TX0, 17, rfl, inlX0, by decide, wd_308⟩
theorem sX2_2 {b : Nat} (h : isX2 b) : SI b 2 2 0 4 := by rcases h with rfl | rfl | rfl | rfl | rfl | rfl <;> exact ⟨by decide, rfl, rfl, by decide, rfl, rfl, rfl⟩
theorem sX2_9 {b : Nat} (h : isX2 b) : SF b 2 9 (b + 5) := by rcases h with rfl | rfl | rfl | rfl | rfl | rfl <;> exact ⟨by decide, rfl, rfl, by decide, rfl, rfl⟩
theorem aX2_9 {b : Nat} (h : isX2 b) : AI (b + 5) 12 (-1) 99 := by rcases h with rfl | rfl | rfl | rfl | rfl | rfl <;> exact ⟨by decide, rfl, rfl, fun _ => ⟨rfl, rfl⟩⟩
theorem sX2_11 {b : Nat} (h : isX2 b) : SF b 2 11 (b + 7) := by rcases h with rfl | rfl | rfl | rfl | rfl | rfl <;> exact ⟨by decide, rfl, rfl, by decide, rfl, rfl⟩
theorem aX2_11 {b : Nat} (h : isX2 b) : AI (b + 7) 12 (-1) 5 := by rcases h with rfl | rfl | rfl | rfl | rfl | rfl <;> exact ⟨by decide, rfl, rfl, fun _ => ⟨rfl, rfl⟩⟩
theorem sX0_0 {b : Nat} (h : isX0 b) : SI b 0 0 (-2147483648) 2147483647 := by rcases h with rfl | rfl | rfl | rfl | rfl | rfl <;> exact ⟨by decide, rfl, rfl, by decide, rfl, rfl, rfl⟩
theorem sX0_10 {b : Nat} (h : isX0 b) : SF b 0 10 (b + 7) := by rcases h with rfl | rfl | rfl | rfl | rfl | rfl <;> exact ⟨by decide, rfl, rfl, by decide, rfl, rfl⟩
theorem aX0_10 {b : Nat} (h : isX0 b) : AI (b + 7) 20 (-2147483648) 2147483647 := by rcases h with rfl | rfl | rfl | rfl | rfl | rfl <;> exact ⟨by decide, rfl, rfl, fun _ => ⟨rfl, rfl⟩⟩
