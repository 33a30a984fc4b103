theorem wd_13 : (Cond.initialized RJ0 : Cond) ∈ wsB := wt1 (List.mem_of_getElem? (i := 13) rfl) rfl
theorem wd_14 : (Cond.initialized RJ1 : Cond) ∈ wsB := wt1 (List.mem_of_getElem? (i := 14) rfl) rfl
theorem wd_15 : (Cond.initialized RJ3 : Cond) ∈ wsB := wt1 (List.mem_of_getElem? (i := 15) rfl) rfl
theorem wd_37 : (Cond.fieldLink RX7 28 "RaftForest$Tape" "at" "I" : Cond) ∈ wsB := wt1 (List.mem_of_getElem? (i := 37) rfl) rfl
theorem wd_38 : (Cond.fieldLink RX7 22 "RaftForest$Tape" "stop" "I" : Cond) ∈ wsB := wt1 (List.mem_of_getElem? (i := 38) rfl) rfl
theorem wd_500 : (Cond.methodLink RJ0 335 yJ0_coder_7d493 : Cond) ∈ wsB := wt3 (List.mem_of_getElem? (i := 20) rfl) rfl
theorem wd_501 : (Cond.instanceMethod yJ0_coder_7d493 : Cond) ∈ wsB := wt3 (List.mem_of_getElem? (i := 21) rfl) rfl
theorem wd_502 : (Cond.selects RJ0 yJ0_coder_7d493 yJ0_coder_7d493 : Cond) ∈ wsB := wt3 (List.mem_of_getElem? (i := 22) rfl) rfl
theorem wd_503 : (Cond.code yJ0_coder_7d493 cJ0_coder_7d493 1 (some .byte) : Cond) ∈ wsB := wt3 (List.mem_of_getElem? (i := 23) rfl) rfl
theorem wd_504 : (Cond.fieldLink RJ0 38 "java/lang/String" "COMPACT_STRINGS" "Z" : Cond) ∈ wsB := wt3 (List.mem_of_getElem? (i := 24) rfl) rfl
theorem wd_510 : (Cond.methodLink RJ0 492 yJ0_isLatin1_aae02 : Cond) ∈ wsB := wt3 (List.mem_of_getElem? (i := 30) rfl) rfl
theorem wd_511 : (Cond.instanceMethod yJ0_isLatin1_aae02 : Cond) ∈ wsB := wt3 (List.mem_of_getElem? (i := 31) rfl) rfl
theorem wd_512 : (Cond.selects RJ0 yJ0_isLatin1_aae02 yJ0_isLatin1_aae02 : Cond) ∈ wsB := wt3 (List.mem_of_getElem? (i := 32) rfl) rfl
theorem wd_513 : (Cond.code yJ0_isLatin1_aae02 cJ0_isLatin1_aae02 1 (some .boolean) : Cond) ∈ wsB := wt3 (List.mem_of_getElem? (i := 33) rfl) rfl
theorem wd_514 : (Cond.methodLink RJ0 495 yJ1_charAt_3b067 : Cond) ∈ wsB := wt3 (List.mem_of_getElem? (i := 34) rfl) rfl
theorem wd_515 : (Cond.static yJ1_charAt_3b067 : Cond) ∈ wsB := wt3 (List.mem_of_getElem? (i := 35) rfl) rfl
theorem wd_516 : (Cond.code yJ1_charAt_3b067 cJ1_charAt_3b067 2 (some .char) : Cond) ∈ wsB := wt3 (List.mem_of_getElem? (i := 36) rfl) rfl
theorem wd_517 : (Cond.methodLink RJ1 9 yJ0_checkIndex_df160 : Cond) ∈ wsB := wt3 (List.mem_of_getElem? (i := 37) rfl) rfl
theorem wd_518 : (Cond.static yJ0_checkIndex_df160 : Cond) ∈ wsB := wt3 (List.mem_of_getElem? (i := 38) rfl) rfl
theorem wd_519 : (Cond.code yJ0_checkIndex_df160 cJ0_checkIndex_df160 2 none : Cond) ∈ wsB := wt3 (List.mem_of_getElem? (i := 39) rfl) rfl
theorem wd_520 : (Cond.fieldLink RJ0 1053 "jdk/internal/util/Preconditions" "SIOOBE_FORMATTER" "Ljava/util/function/BiFunction;" : Cond) ∈ wsB := wt3 (List.mem_of_getElem? (i := 40) rfl) rfl
theorem wd_522 : (Cond.methodLink RJ0 1059 yJ3_checkIndex_8e157 : Cond) ∈ wsB := wt3 (List.mem_of_getElem? (i := 42) rfl) rfl
theorem wd_523 : (Cond.static yJ3_checkIndex_8e157 : Cond) ∈ wsB := wt3 (List.mem_of_getElem? (i := 43) rfl) rfl
theorem wd_524 : (Cond.code yJ3_checkIndex_8e157 cJ3_checkIndex_8e157 3 (some .int) : Cond) ∈ wsB := wt3 (List.mem_of_getElem? (i := 44) rfl) rfl
theorem wd_1974 : (Cond.fieldLink RJ0 9 "java/lang/String" "value" "[B" : Cond) ∈ wsB := wt9 (List.mem_of_getElem? (i := 54) rfl) rfl
theorem wd_1975 : (Cond.fieldLink RJ0 15 "java/lang/String" "coder" "B" : Cond) ∈ wsB := wt9 (List.mem_of_getElem? (i := 55) rfl) rfl
theorem mlJ0_335 : LV RJ0 335 yJ0_coder_7d493 cJ0_coder_7d493 1 (some .byte) 0 := ⟨wd_500, wd_501, wd_502, wd_13, wd_503, ⟨by decide, by decide, by decide +kernel⟩⟩
theorem mlJ0_1059 : LT RJ0 1059 yJ3_checkIndex_8e157 cJ3_checkIndex_8e157 3 (some .int) 3 := ⟨wd_522, wd_523, wd_15, wd_524, ⟨by decide, by decide, by decide +kernel⟩⟩
theorem mlJ1_9 : LT RJ1 9 yJ0_checkIndex_df160 cJ0_checkIndex_df160 2 none 2 := ⟨wd_517, wd_518, wd_13, wd_519, ⟨by decide, by decide, by decide +kernel⟩⟩
theorem mlJ0_492 : LV RJ0 492 yJ0_isLatin1_aae02 cJ0_isLatin1_aae02 1 (some .boolean) 0 := ⟨wd_510, wd_511, wd_512, wd_13, wd_513, ⟨by decide, by decide, by decide +kernel⟩⟩
theorem mlJ0_495 : LT RJ0 495 yJ1_charAt_3b067 cJ1_charAt_3b067 2 (some .char) 2 := ⟨wd_514, wd_515, wd_14, wd_516, ⟨by decide, by decide, by decide +kernel⟩⟩
theorem glX7_22 : FL RX7 22 7 3 := ⟨RX7, TX7, 6, rfl, inlX7, by decide, wd_38⟩
theorem glX7_28 : FL RX7 28 7 2 := ⟨RX7, TX7, 6, rfl, inlX7, by decide, wd_37⟩
theorem sX7_3 {b : Nat} (h : isX7 b) : SI b 7 3 0 400 := by rcases h with rfl <;> exact ⟨by decide, rfl, rfl, by decide, rfl, rfl, rfl⟩
theorem sX7_2 {b : Nat} (h : isX7 b) : SI b 7 2 0 400 := by rcases h with rfl <;> exact ⟨by decide, rfl, rfl, by decide, rfl, rfl, rfl⟩
