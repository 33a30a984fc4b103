theorem wd_35 : (Cond.fieldLink RX9 78 "RaftForest$Tape" "size" "I" : Cond) ∈ wsB := wt1 (List.mem_of_getElem? (i := 35) rfl) rfl
theorem wd_81 : (Cond.fieldLink RX9 403 "RaftForest$River" "woods" "I" : Cond) ∈ wsB := wt1 (List.mem_of_getElem? (i := 81) rfl) rfl
theorem wd_90 : (Cond.fieldLink RX9 418 "RaftForest$River" "toll" "I" : Cond) ∈ wsB := wt1 (List.mem_of_getElem? (i := 90) rfl) rfl
theorem wd_210 : (Cond.fieldLink RX9 297 "RaftForest$State" "day" "I" : Cond) ∈ wsB := wt1 (List.mem_of_getElem? (i := 210) rfl) rfl
theorem wd_213 : (Cond.fieldLink RX9 280 "RaftForest$State" "water" "I" : Cond) ∈ wsB := wt1 (List.mem_of_getElem? (i := 213) rfl) rfl
theorem wd_215 : (Cond.fieldLink RX9 133 "RaftForest$State" "ruleInForce" "I" : Cond) ∈ wsB := wt1 (List.mem_of_getElem? (i := 215) rfl) rfl
theorem wd_218 : (Cond.fieldLink RX9 148 "RaftForest$State" "law" "I" : Cond) ∈ wsB := wt1 (List.mem_of_getElem? (i := 218) rfl) rfl
theorem wd_290 : (Cond.fieldLink RX9 387 "RaftForest$Books" "seed" "I" : Cond) ∈ wsB := wt2 (List.mem_of_getElem? (i := 50) rfl) rfl
theorem wd_293 : (Cond.fieldLink RX9 412 "RaftForest$Books" "sea" "I" : Cond) ∈ wsB := wt2 (List.mem_of_getElem? (i := 53) rfl) rfl
theorem wd_298 : (Cond.fieldLink RX9 375 "RaftForest$Books" "debts" "[I" : Cond) ∈ wsB := wt2 (List.mem_of_getElem? (i := 58) rfl) rfl
theorem wd_304 : (Cond.fieldLink RX9 355 "RaftForest$Books" "sights" "I" : Cond) ∈ wsB := wt2 (List.mem_of_getElem? (i := 64) rfl) rfl
theorem wd_309 : (Cond.fieldLink RX9 367 "RaftForest$Books" "sightDays" "[I" : Cond) ∈ wsB := wt2 (List.mem_of_getElem? (i := 69) rfl) rfl
theorem wd_419 : (Cond.fieldLink RX9 10 "RaftForest" "tape" "LRaftForest$Tape;" : Cond) ∈ wsB := wt2 (List.mem_of_getElem? (i := 179) rfl) rfl
theorem wd_423 : (Cond.fieldLink RX9 120 "RaftForest" "ruleCount" "I" : Cond) ∈ wsB := wt2 (List.mem_of_getElem? (i := 183) rfl) rfl
theorem wd_430 : (Cond.fieldLink RX9 75 "RaftForest" "groups" "[I" : Cond) ∈ wsB := wt2 (List.mem_of_getElem? (i := 190) rfl) rfl
theorem wd_990 : (Cond.methodLink RX9 332 yX0_kinOfAll : Cond) ∈ wsB := wt5 (List.mem_of_getElem? (i := 30) rfl) rfl
theorem wd_991 : (Cond.instanceMethod yX0_kinOfAll : Cond) ∈ wsB := wt5 (List.mem_of_getElem? (i := 31) rfl) rfl
theorem wd_992 : (Cond.selects RX0 yX0_kinOfAll yX0_kinOfAll : Cond) ∈ wsB := wt5 (List.mem_of_getElem? (i := 32) rfl) rfl
theorem wd_993 : (Cond.code yX0_kinOfAll cX0_kinOfAll 4 (some .int) : Cond) ∈ wsB := wt5 (List.mem_of_getElem? (i := 33) rfl) rfl
theorem wd_1002 : (Cond.methodLink RX9 335 yX8_daysKept : Cond) ∈ wsB := wt5 (List.mem_of_getElem? (i := 42) rfl) rfl
theorem wd_1003 : (Cond.instanceMethod yX8_daysKept : Cond) ∈ wsB := wt5 (List.mem_of_getElem? (i := 43) rfl) rfl
theorem wd_1004 : (Cond.selects RX8 yX8_daysKept yX8_daysKept : Cond) ∈ wsB := wt5 (List.mem_of_getElem? (i := 44) rfl) rfl
theorem wd_1005 : (Cond.code yX8_daysKept cX8_daysKept 1 (some .int) : Cond) ∈ wsB := wt5 (List.mem_of_getElem? (i := 45) rfl) rfl
theorem wd_1006 : (Cond.methodLink RX9 338 yX8_placeAgo : Cond) ∈ wsB := wt5 (List.mem_of_getElem? (i := 46) rfl) rfl
theorem wd_1017 : (Cond.methodLink RX9 341 yX9_areKept : Cond) ∈ wsB := wt5 (List.mem_of_getElem? (i := 57) rfl) rfl
theorem wd_1019 : (Cond.instanceMethod yX9_areKept : Cond) ∈ wsB := wt5 (List.mem_of_getElem? (i := 59) rfl) rfl
theorem wd_1020 : (Cond.code yX9_areKept cX9_areKept 4 (some .boolean) : Cond) ∈ wsB := wt5 (List.mem_of_getElem? (i := 60) rfl) rfl
theorem wd_1021 : (Cond.methodLink RX9 345 yX8_villagesSeen : Cond) ∈ wsB := wt5 (List.mem_of_getElem? (i := 61) rfl) rfl
theorem wd_1022 : (Cond.instanceMethod yX8_villagesSeen : Cond) ∈ wsB := wt5 (List.mem_of_getElem? (i := 62) rfl) rfl
theorem wd_1023 : (Cond.selects RX8 yX8_villagesSeen yX8_villagesSeen : Cond) ∈ wsB := wt5 (List.mem_of_getElem? (i := 63) rfl) rfl
theorem wd_1024 : (Cond.code yX8_villagesSeen cX8_villagesSeen 6 (some .int) : Cond) ∈ wsB := wt5 (List.mem_of_getElem? (i := 64) rfl) rfl
theorem wd_1034 : (Cond.methodLink RX9 349 yX8_villagesAt : Cond) ∈ wsB := wt5 (List.mem_of_getElem? (i := 74) rfl) rfl
theorem wd_1035 : (Cond.methodLink RX9 352 yX9_commonDivisor : Cond) ∈ wsB := wt5 (List.mem_of_getElem? (i := 75) rfl) rfl
theorem wd_1036 : (Cond.static yX9_commonDivisor : Cond) ∈ wsB := wt5 (List.mem_of_getElem? (i := 76) rfl) rfl
theorem wd_1037 : (Cond.code yX9_commonDivisor cX9_commonDivisor 6 (some .int) : Cond) ∈ wsB := wt5 (List.mem_of_getElem? (i := 77) rfl) rfl
theorem wd_1050 : (Cond.methodLink RX9 361 yX0_partedSight : Cond) ∈ wsB := wt5 (List.mem_of_getElem? (i := 90) rfl) rfl
theorem wd_1051 : (Cond.instanceMethod yX0_partedSight : Cond) ∈ wsB := wt5 (List.mem_of_getElem? (i := 91) rfl) rfl
theorem wd_1052 : (Cond.selects RX0 yX0_partedSight yX0_partedSight : Cond) ∈ wsB := wt5 (List.mem_of_getElem? (i := 92) rfl) rfl
theorem wd_1053 : (Cond.code yX0_partedSight cX0_partedSight 5 (some .int) : Cond) ∈ wsB := wt5 (List.mem_of_getElem? (i := 93) rfl) rfl
theorem wd_1058 : (Cond.methodLink RX9 364 yX0_sightAhead : Cond) ∈ wsB := wt5 (List.mem_of_getElem? (i := 98) rfl) rfl
theorem wd_1067 : (Cond.methodLink RX9 381 Lib.Math.max.name : Cond) ∈ wsB := wt5 (List.mem_of_getElem? (i := 107) rfl) rfl
theorem wd_1072 : (Cond.methodLink RX9 384 yX8_priceOfSet : Cond) ∈ wsB := wt5 (List.mem_of_getElem? (i := 112) rfl) rfl
theorem wd_1073 : (Cond.instanceMethod yX8_priceOfSet : Cond) ∈ wsB := wt5 (List.mem_of_getElem? (i := 113) rfl) rfl
theorem wd_1074 : (Cond.selects RX8 yX8_priceOfSet yX8_priceOfSet : Cond) ∈ wsB := wt5 (List.mem_of_getElem? (i := 114) rfl) rfl
theorem wd_1075 : (Cond.code yX8_priceOfSet cX8_priceOfSet 4 (some .int) : Cond) ∈ wsB := wt5 (List.mem_of_getElem? (i := 115) rfl) rfl
theorem wd_1084 : (Cond.methodLink RX9 390 yX9_nextDrawn : Cond) ∈ wsB := wt5 (List.mem_of_getElem? (i := 124) rfl) rfl
theorem wd_1085 : (Cond.static yX9_nextDrawn : Cond) ∈ wsB := wt5 (List.mem_of_getElem? (i := 125) rfl) rfl
theorem wd_1086 : (Cond.code yX9_nextDrawn cX9_nextDrawn 1 (some .int) : Cond) ∈ wsB := wt5 (List.mem_of_getElem? (i := 126) rfl) rfl
theorem wd_1087 : (Cond.constantLong RX9 394 (1103515245) : Cond) ∈ wsB := wt5 (List.mem_of_getElem? (i := 127) rfl) rfl
theorem wd_1088 : (Cond.constantLong RX9 396 (12345) : Cond) ∈ wsB := wt5 (List.mem_of_getElem? (i := 128) rfl) rfl
theorem wd_1089 : (Cond.constantLong RX9 398 (2147483647) : Cond) ∈ wsB := wt5 (List.mem_of_getElem? (i := 129) rfl) rfl
theorem wd_1090 : (Cond.constant RX9 393 (65536) : Cond) ∈ wsB := wt5 (List.mem_of_getElem? (i := 130) rfl) rfl
theorem wd_1095 : (Cond.methodLink RX9 406 yX6_logsBetween : Cond) ∈ wsB := wt5 (List.mem_of_getElem? (i := 135) rfl) rfl
theorem wd_1096 : (Cond.instanceMethod yX6_logsBetween : Cond) ∈ wsB := wt5 (List.mem_of_getElem? (i := 136) rfl) rfl
theorem wd_1097 : (Cond.selects RX6 yX6_logsBetween yX6_logsBetween : Cond) ∈ wsB := wt5 (List.mem_of_getElem? (i := 137) rfl) rfl
theorem wd_1098 : (Cond.code yX6_logsBetween cX6_logsBetween 5 (some .int) : Cond) ∈ wsB := wt5 (List.mem_of_getElem? (i := 138) rfl) rfl
theorem wd_1099 : (Cond.methodLink RX9 409 yX9_countKept : Cond) ∈ wsB := wt5 (List.mem_of_getElem? (i := 139) rfl) rfl
theorem wd_1101 : (Cond.instanceMethod yX9_countKept : Cond) ∈ wsB := wt5 (List.mem_of_getElem? (i := 141) rfl) rfl
theorem wd_1102 : (Cond.code yX9_countKept cX9_countKept 2 (some .int) : Cond) ∈ wsB := wt5 (List.mem_of_getElem? (i := 142) rfl) rfl
theorem wd_1103 : (Cond.methodLink RX9 415 yX6_jamsInAll : Cond) ∈ wsB := wt5 (List.mem_of_getElem? (i := 143) rfl) rfl
theorem wd_1104 : (Cond.instanceMethod yX6_jamsInAll : Cond) ∈ wsB := wt5 (List.mem_of_getElem? (i := 144) rfl) rfl
theorem wd_1105 : (Cond.selects RX6 yX6_jamsInAll yX6_jamsInAll : Cond) ∈ wsB := wt5 (List.mem_of_getElem? (i := 145) rfl) rfl
theorem wd_1106 : (Cond.code yX6_jamsInAll cX6_jamsInAll 3 (some .int) : Cond) ∈ wsB := wt5 (List.mem_of_getElem? (i := 146) rfl) rfl
def Lwp_26 : List (Nat × Cond) := [(26, Cond.selects RX9 yX9_areKept yX9_areKept), (27, Cond.selects RX9 yX9_countKept yX9_countKept)]
set_option maxRecDepth 100000 in
theorem Lwp_26_ok : ∀ q ∈ Lwp_26, (k2_sels lw_privs)[q.1]? = some q.2 ∧ goodWord q.2 = true := by decide +kernel
theorem wp_26 : (Cond.selects RX9 yX9_areKept yX9_areKept : Cond) ∈ wsB := wpq Lwp_26_ok 0 rfl
theorem wp_27 : (Cond.selects RX9 yX9_countKept yX9_countKept : Cond) ∈ wsB := wpq Lwp_26_ok 1 rfl
theorem mlX9_332 : LV RX9 332 yX0_kinOfAll cX0_kinOfAll 4 (some .int) 1 := ⟨wd_990, wd_991, wd_992, wd_9, wd_993, ⟨by decide, by decide, by decide +kernel⟩⟩
theorem mlX9_335 : LV RX9 335 yX8_daysKept cX8_daysKept 1 (some .int) 0 := ⟨wd_1002, wd_1003, wd_1004, wd_7, wd_1005, ⟨by decide, by decide, by decide +kernel⟩⟩
theorem mlX9_338 : LV RX9 338 yX8_placeAgo cX8_placeAgo 3 (some .int) 2 := ⟨wd_1006, wd_1007, wd_1008, wd_7, wd_1009, ⟨by decide, by decide, by decide +kernel⟩⟩
theorem mlX9_341 : LV RX9 341 yX9_areKept cX9_areKept 4 (some .boolean) 3 := ⟨wd_1017, wd_1019, wp_26, wd_1, wd_1020, ⟨by decide, by decide, by decide +kernel⟩⟩
theorem mlX9_345 : LV RX9 345 yX8_villagesSeen cX8_villagesSeen 6 (some .int) 3 := ⟨wd_1021, wd_1022, wd_1023, wd_7, wd_1024, ⟨by decide, by decide, by decide +kernel⟩⟩
theorem mlX9_352 : LT RX9 352 yX9_commonDivisor cX9_commonDivisor 6 (some .int) 2 := ⟨wd_1035, wd_1036, wd_1, wd_1037, ⟨by decide, by decide, by decide +kernel⟩⟩
theorem mlX9_349 : LV RX9 349 yX8_villagesAt cX8_villagesAt 4 (some .int) 1 := ⟨wd_1034, wd_1027, wd_1028, wd_7, wd_1029, ⟨by decide, by decide, by decide +kernel⟩⟩
theorem mlX9_361 : LV RX9 361 yX0_partedSight cX0_partedSight 5 (some .int) 2 := ⟨wd_1050, wd_1051, wd_1052, wd_9, wd_1053, ⟨by decide, by decide, by decide +kernel⟩⟩
theorem mlX9_364 : LV RX9 364 yX0_sightAhead cX0_sightAhead 3 (some .int) 1 := ⟨wd_1058, wd_1055, wd_1056, wd_9, wd_1057, ⟨by decide, by decide, by decide +kernel⟩⟩
theorem glX9_367 : FL RX9 367 0 10 := ⟨RX0, TX0, 17, rfl, inlX0, by decide, wd_309⟩
theorem glX9_297 : FL RX9 297 6 0 := ⟨RX6, TX6, 15, rfl, inlX6, by decide, wd_210⟩
theorem glX9_375 : FL RX9 375 0 3 := ⟨RX0, TX0, 17, rfl, inlX0, by decide, wd_298⟩
theorem glX9_75 : FL RX9 75 9 11 := ⟨RX9, TX9, 12, rfl, inlX9, by decide, wd_430⟩
theorem mlX9_384 : LV RX9 384 yX8_priceOfSet cX8_priceOfSet 4 (some .int) 1 := ⟨wd_1072, wd_1073, wd_1074, wd_7, wd_1075, ⟨by decide, by decide, by decide +kernel⟩⟩
theorem glX9_387 : FL RX9 387 0 0 := ⟨RX0, TX0, 17, rfl, inlX0, by decide, wd_290⟩
theorem mlX9_390 : LT RX9 390 yX9_nextDrawn cX9_nextDrawn 1 (some .int) 1 := ⟨wd_1084, wd_1085, wd_1, wd_1086, ⟨by decide, by decide, by decide +kernel⟩⟩
theorem glX9_412 : FL RX9 412 0 1 := ⟨RX0, TX0, 17, rfl, inlX0, by decide, wd_293⟩
theorem glX9_355 : FL RX9 355 0 6 := ⟨RX0, TX0, 17, rfl, inlX0, by decide, wd_304⟩
theorem mlX9_415 : LV RX9 415 yX6_jamsInAll cX6_jamsInAll 3 (some .int) 0 := ⟨wd_1103, wd_1104, wd_1105, wd_8, wd_1106, ⟨by decide, by decide, by decide +kernel⟩⟩
theorem glX9_10 : FL RX9 10 9 0 := ⟨RX9, TX9, 12, rfl, inlX9, by decide, wd_419⟩
theorem glX9_78 : FL RX9 78 7 1 := ⟨RX7, TX7, 6, rfl, inlX7, by decide, wd_35⟩
theorem glX9_418 : FL RX9 418 2 4 := ⟨RX2, TX2, 12, rfl, inlX2, by decide, wd_90⟩
theorem glX9_403 : FL RX9 403 2 2 := ⟨RX2, TX2, 12, rfl, inlX2, by decide, wd_81⟩
theorem glX9_120 : FL RX9 120 9 4 := ⟨RX9, TX9, 12, rfl, inlX9, by decide, wd_423⟩
theorem glX9_133 : FL RX9 133 6 2 := ⟨RX6, TX6, 15, rfl, inlX6, by decide, wd_215⟩
theorem glX9_148 : FL RX9 148 6 3 := ⟨RX6, TX6, 15, rfl, inlX6, by decide, wd_218⟩
theorem glX9_280 : FL RX9 280 6 1 := ⟨RX6, TX6, 15, rfl, inlX6, by decide, wd_213⟩
theorem mlX9_406 : LV RX9 406 yX6_logsBetween cX6_logsBetween 5 (some .int) 2 := ⟨wd_1095, wd_1096, wd_1097, wd_8, wd_1098, ⟨by decide, by decide, by decide +kernel⟩⟩
theorem mlX9_409 : LV RX9 409 yX9_countKept cX9_countKept 2 (some .int) 1 := ⟨wd_1099, wd_1101, wp_27, wd_1, wd_1102, ⟨by decide, by decide, by decide +kernel⟩⟩
theorem sX9_11 {b : Nat} (h : isX9 b) : SF b 9 11 (6) := by rcases h with rfl <;> exact ⟨by decide, rfl, rfl, by decide, rfl, rfl⟩
theorem aX9_11 {b : Nat} (h : isX9 b) : AI (6) 64 (-2147483648) 2147483647 := by rcases h with rfl <;> exact ⟨by decide, rfl, rfl, fun _ => ⟨rfl, rfl⟩⟩
theorem sX9_0 {b : Nat} (h : isX9 b) : SF b 9 0 (7) := by rcases h with rfl <;> exact ⟨by decide, rfl, rfl, by decide, rfl, rfl⟩
theorem sX7_1 {b : Nat} (h : isX7 b) : SI b 7 1 0 400 := by rcases h with rfl <;> exact ⟨by decide, rfl, rfl, by decide, rfl, rfl, rfl⟩
theorem sX9_4 {b : Nat} (h : isX9 b) : SI b 9 4 0 6 := by rcases h with rfl <;> exact ⟨by decide, rfl, rfl, by decide, rfl, rfl, rfl⟩
