theorem wd_9 : (Cond.initialized RX0 : Cond) ∈ wsB := wt1 (List.mem_of_getElem? (i := 9) rfl) rfl
theorem wd_12 : (Cond.initialized RJ7 : Cond) ∈ wsB := wt1 (List.mem_of_getElem? (i := 12) rfl) rfl
theorem wd_209 : (Cond.fieldLink RX0 93 "RaftForest$State" "day" "I" : Cond) ∈ wsB := wt1 (List.mem_of_getElem? (i := 209) rfl) rfl
theorem wd_216 : (Cond.fieldLink RX8 218 "RaftForest$State" "ruleInForce" "I" : Cond) ∈ wsB := wt1 (List.mem_of_getElem? (i := 216) rfl) rfl
theorem wd_226 : (Cond.fieldLink RX8 208 "RaftForest$State" "villageRules" "[I" : Cond) ∈ wsB := wt1 (List.mem_of_getElem? (i := 226) rfl) rfl
theorem wd_233 : (Cond.fieldLink RX0 88 "RaftForest$State" "places" "[I" : Cond) ∈ wsB := wt1 (List.mem_of_getElem? (i := 233) rfl) rfl
theorem wd_239 : (Cond.fieldLink RX8 231 "RaftForest$State" "jams" "[I" : Cond) ∈ wsB := wt1 (List.mem_of_getElem? (i := 239) rfl) rfl
theorem wd_242 : (Cond.fieldLink RX8 215 "RaftForest$State" "jamDays" "[I" : Cond) ∈ wsB := wt2 (List.mem_of_getElem? (i := 2) rfl) rfl
theorem wd_245 : (Cond.fieldLink RX8 198 "RaftForest$State" "order" "[I" : Cond) ∈ wsB := wt2 (List.mem_of_getElem? (i := 5) rfl) rfl
theorem wd_292 : (Cond.fieldLink RX8 237 "RaftForest$Books" "sea" "I" : Cond) ∈ wsB := wt2 (List.mem_of_getElem? (i := 52) rfl) rfl
theorem wd_296 : (Cond.fieldLink RX8 234 "RaftForest$Books" "coins" "[I" : Cond) ∈ wsB := wt2 (List.mem_of_getElem? (i := 56) rfl) rfl
theorem wd_297 : (Cond.fieldLink RX0 15 "RaftForest$Books" "debts" "[I" : Cond) ∈ wsB := wt2 (List.mem_of_getElem? (i := 57) rfl) rfl
theorem wd_299 : (Cond.fieldLink RX0 58 "RaftForest$Books" "weddings" "I" : Cond) ∈ wsB := wt2 (List.mem_of_getElem? (i := 59) rfl) rfl
theorem wd_301 : (Cond.fieldLink RX0 18 "RaftForest$Books" "beams" "[I" : Cond) ∈ wsB := wt2 (List.mem_of_getElem? (i := 61) rfl) rfl
theorem wd_303 : (Cond.fieldLink RX0 61 "RaftForest$Books" "sights" "I" : Cond) ∈ wsB := wt2 (List.mem_of_getElem? (i := 63) rfl) rfl
theorem wd_305 : (Cond.fieldLink RX0 21 "RaftForest$Books" "sightLogs" "[I" : Cond) ∈ wsB := wt2 (List.mem_of_getElem? (i := 65) rfl) rfl
theorem wd_306 : (Cond.fieldLink RX0 24 "RaftForest$Books" "sightPlaces" "[I" : Cond) ∈ wsB := wt2 (List.mem_of_getElem? (i := 66) rfl) rfl
theorem wd_307 : (Cond.fieldLink RX0 27 "RaftForest$Books" "sightVillages" "[I" : Cond) ∈ wsB := wt2 (List.mem_of_getElem? (i := 67) rfl) rfl
theorem wd_310 : (Cond.fieldLink RX0 64 "RaftForest$Books" "cutCount" "I" : Cond) ∈ wsB := wt2 (List.mem_of_getElem? (i := 70) rfl) rfl
theorem wd_312 : (Cond.fieldLink RX0 33 "RaftForest$Books" "cutLogs" "[I" : Cond) ∈ wsB := wt2 (List.mem_of_getElem? (i := 72) rfl) rfl
theorem wd_314 : (Cond.fieldLink RX0 36 "RaftForest$Books" "cutPlaces" "[I" : Cond) ∈ wsB := wt2 (List.mem_of_getElem? (i := 74) rfl) rfl
theorem wd_316 : (Cond.fieldLink RX0 39 "RaftForest$Books" "cutVillages" "[I" : Cond) ∈ wsB := wt2 (List.mem_of_getElem? (i := 76) rfl) rfl
theorem wd_318 : (Cond.fieldLink RX0 42 "RaftForest$Books" "cutBefore" "[I" : Cond) ∈ wsB := wt2 (List.mem_of_getElem? (i := 78) rfl) rfl
theorem wd_320 : (Cond.fieldLink RX0 45 "RaftForest$Books" "keptPlaces" "[I" : Cond) ∈ wsB := wt2 (List.mem_of_getElem? (i := 80) rfl) rfl
theorem wd_366 : (Cond.fieldLink RX8 25 "RaftForest$World" "tally" "[I" : Cond) ∈ wsB := wt2 (List.mem_of_getElem? (i := 126) rfl) rfl
theorem wd_370 : (Cond.fieldLink RX8 33 "RaftForest$World" "ranks" "[I" : Cond) ∈ wsB := wt2 (List.mem_of_getElem? (i := 130) rfl) rfl
theorem wd_371 : (Cond.fieldLink RX8 36 "RaftForest$World" "sums" "[J" : Cond) ∈ wsB := wt2 (List.mem_of_getElem? (i := 131) rfl) rfl
theorem wd_372 : (Cond.fieldLink RX8 205 "RaftForest$World" "takenToday" "I" : Cond) ∈ wsB := wt2 (List.mem_of_getElem? (i := 132) rfl) rfl
theorem wd_481 : (Cond.static yJ7_fill_53178 : Cond) ∈ wsB := wt3 (List.mem_of_getElem? (i := 1) rfl) rfl
theorem wd_482 : (Cond.code yJ7_fill_53178 cJ7_fill_53178 4 none : Cond) ∈ wsB := wt3 (List.mem_of_getElem? (i := 2) rfl) rfl
theorem wd_589 : (Cond.instanceMethod yX6_notchBehind : Cond) ∈ wsB := wt3 (List.mem_of_getElem? (i := 109) rfl) rfl
theorem wd_590 : (Cond.selects RX6 yX6_notchBehind yX6_notchBehind : Cond) ∈ wsB := wt3 (List.mem_of_getElem? (i := 110) rfl) rfl
theorem wd_591 : (Cond.code yX6_notchBehind cX6_notchBehind 4 none : Cond) ∈ wsB := wt3 (List.mem_of_getElem? (i := 111) rfl) rfl
theorem wd_804 : (Cond.methodLink RX0 74 yX0_dropFirst : Cond) ∈ wsB := wt4 (List.mem_of_getElem? (i := 84) rfl) rfl
theorem wd_805 : (Cond.static yX0_dropFirst : Cond) ∈ wsB := wt4 (List.mem_of_getElem? (i := 85) rfl) rfl
theorem wd_806 : (Cond.code yX0_dropFirst cX0_dropFirst 1 none : Cond) ∈ wsB := wt4 (List.mem_of_getElem? (i := 86) rfl) rfl
theorem wd_807 : (Cond.methodLink RX0 78 arraycopyName : Cond) ∈ wsB := wt4 (List.mem_of_getElem? (i := 87) rfl) rfl
theorem wd_834 : (Cond.instanceMethod yX0_owe : Cond) ∈ wsB := wt4 (List.mem_of_getElem? (i := 114) rfl) rfl
theorem wd_835 : (Cond.selects RX0 yX0_owe yX0_owe : Cond) ∈ wsB := wt4 (List.mem_of_getElem? (i := 115) rfl) rfl
theorem wd_836 : (Cond.code yX0_owe cX0_owe 4 none : Cond) ∈ wsB := wt4 (List.mem_of_getElem? (i := 116) rfl) rfl
theorem wd_880 : (Cond.methodLink RX8 51 yJ7_fill_53178 : Cond) ∈ wsB := wt4 (List.mem_of_getElem? (i := 160) rfl) rfl
theorem wd_881 : (Cond.methodLink RX8 221 yX8_asks : Cond) ∈ wsB := wt4 (List.mem_of_getElem? (i := 161) rfl) rfl
theorem wd_883 : (Cond.instanceMethod yX8_asks : Cond) ∈ wsB := wt4 (List.mem_of_getElem? (i := 163) rfl) rfl
theorem wd_884 : (Cond.code yX8_asks cX8_asks 8 (some .boolean) : Cond) ∈ wsB := wt4 (List.mem_of_getElem? (i := 164) rfl) rfl
theorem wd_902 : (Cond.methodLink RX8 250 yX8_goesAhead : Cond) ∈ wsB := wt4 (List.mem_of_getElem? (i := 182) rfl) rfl
theorem wd_904 : (Cond.instanceMethod yX8_goesAhead : Cond) ∈ wsB := wt4 (List.mem_of_getElem? (i := 184) rfl) rfl
theorem wd_905 : (Cond.code yX8_goesAhead cX8_goesAhead 3 (some .boolean) : Cond) ∈ wsB := wt4 (List.mem_of_getElem? (i := 185) rfl) rfl
theorem wd_939 : (Cond.methodLink RX8 201 yX8_passLog : Cond) ∈ wsB := wt4 (List.mem_of_getElem? (i := 219) rfl) rfl
theorem wd_941 : (Cond.instanceMethod yX8_passLog : Cond) ∈ wsB := wt4 (List.mem_of_getElem? (i := 221) rfl) rfl
theorem wd_942 : (Cond.code yX8_passLog cX8_passLog 3 none : Cond) ∈ wsB := wt4 (List.mem_of_getElem? (i := 222) rfl) rfl
theorem wd_943 : (Cond.methodLink RX8 225 yX8_jam : Cond) ∈ wsB := wt4 (List.mem_of_getElem? (i := 223) rfl) rfl
theorem wd_945 : (Cond.instanceMethod yX8_jam : Cond) ∈ wsB := wt4 (List.mem_of_getElem? (i := 225) rfl) rfl
theorem wd_946 : (Cond.code yX8_jam cX8_jam 2 none : Cond) ∈ wsB := wt4 (List.mem_of_getElem? (i := 226) rfl) rfl
theorem wd_947 : (Cond.methodLink RX8 228 yX8_sell : Cond) ∈ wsB := wt4 (List.mem_of_getElem? (i := 227) rfl) rfl
theorem wd_949 : (Cond.instanceMethod yX8_sell : Cond) ∈ wsB := wt4 (List.mem_of_getElem? (i := 229) rfl) rfl
theorem wd_950 : (Cond.code yX8_sell cX8_sell 5 none : Cond) ∈ wsB := wt4 (List.mem_of_getElem? (i := 230) rfl) rfl
theorem wd_952 : (Cond.methodLink RX8 211 yX8_passVillage : Cond) ∈ wsB := wt4 (List.mem_of_getElem? (i := 232) rfl) rfl
theorem wd_954 : (Cond.instanceMethod yX8_passVillage : Cond) ∈ wsB := wt4 (List.mem_of_getElem? (i := 234) rfl) rfl
theorem wd_955 : (Cond.code yX8_passVillage cX8_passVillage 5 none : Cond) ∈ wsB := wt4 (List.mem_of_getElem? (i := 235) rfl) rfl
theorem wd_956 : (Cond.methodLink RX8 240 yX8_take : Cond) ∈ wsB := wt4 (List.mem_of_getElem? (i := 236) rfl) rfl
theorem wd_958 : (Cond.instanceMethod yX8_take : Cond) ∈ wsB := wt4 (List.mem_of_getElem? (i := 238) rfl) rfl
theorem wd_959 : (Cond.code yX8_take cX8_take 3 none : Cond) ∈ wsB := wt4 (List.mem_of_getElem? (i := 239) rfl) rfl
theorem wd_960 : (Cond.methodLink RX8 243 yX0_owe : Cond) ∈ wsB := wt5 (List.mem_of_getElem? (i := 0) rfl) rfl
theorem wd_961 : (Cond.methodLink RX8 247 yX6_notchBehind : Cond) ∈ wsB := wt5 (List.mem_of_getElem? (i := 1) rfl) rfl
theorem wd_1054 : (Cond.methodLink RX0 84 yX0_sightAhead : Cond) ∈ wsB := wt5 (List.mem_of_getElem? (i := 94) rfl) rfl
theorem wd_1055 : (Cond.instanceMethod yX0_sightAhead : Cond) ∈ wsB := wt5 (List.mem_of_getElem? (i := 95) rfl) rfl
theorem wd_1056 : (Cond.selects RX0 yX0_sightAhead yX0_sightAhead : Cond) ∈ wsB := wt5 (List.mem_of_getElem? (i := 96) rfl) rfl
theorem wd_1057 : (Cond.code yX0_sightAhead cX0_sightAhead 3 (some .int) : Cond) ∈ wsB := wt5 (List.mem_of_getElem? (i := 97) rfl) rfl
def Lwp_17 : List (Nat × Cond) := [(17, Cond.selects RX8 yX8_asks yX8_asks), (19, Cond.selects RX8 yX8_goesAhead yX8_goesAhead), (20, Cond.selects RX8 yX8_passLog yX8_passLog), (21, Cond.selects RX8 yX8_jam yX8_jam), (22, Cond.selects RX8 yX8_sell yX8_sell), (23, Cond.selects RX8 yX8_passVillage yX8_passVillage), (24, Cond.selects RX8 yX8_take yX8_take)]
set_option maxRecDepth 100000 in
theorem Lwp_17_ok : ∀ q ∈ Lwp_17, (k2_sels lw_privs)[q.1]? = some q.2 ∧ goodWord q.2 = true := by decide +kernel
theorem wp_17 : (Cond.selects RX8 yX8_asks yX8_asks : Cond) ∈ wsB := wpq Lwp_17_ok 0 rfl
theorem wp_19 : (Cond.selects RX8 yX8_goesAhead yX8_goesAhead : Cond) ∈ wsB := wpq Lwp_17_ok 1 rfl
theorem wp_20 : (Cond.selects RX8 yX8_passLog yX8_passLog : Cond) ∈ wsB := wpq Lwp_17_ok 2 rfl
theorem wp_21 : (Cond.selects RX8 yX8_jam yX8_jam : Cond) ∈ wsB := wpq Lwp_17_ok 3 rfl
theorem wp_22 : (Cond.selects RX8 yX8_sell yX8_sell : Cond) ∈ wsB := wpq Lwp_17_ok 4 rfl
theorem wp_23 : (Cond.selects RX8 yX8_passVillage yX8_passVillage : Cond) ∈ wsB := wpq Lwp_17_ok 5 rfl
theorem wp_24 : (Cond.selects RX8 yX8_take yX8_take : Cond) ∈ wsB := wpq Lwp_17_ok 6 rfl
theorem glX0_15 : FL RX0 15 0 3 := ⟨RX0, TX0, 17, rfl, inlX0, by decide, wd_297⟩
theorem glX0_58 : FL RX0 58 0 4 := ⟨RX0, TX0, 17, rfl, inlX0, by decide, wd_299⟩
theorem glX0_18 : FL RX0 18 0 5 := ⟨RX0, TX0, 17, rfl, inlX0, by decide, wd_301⟩
theorem glX0_64 : FL RX0 64 0 11 := ⟨RX0, TX0, 17, rfl, inlX0, by decide, wd_310⟩
theorem glX0_33 : FL RX0 33 0 12 := ⟨RX0, TX0, 17, rfl, inlX0, by decide, wd_312⟩
theorem mlX0_74 : LT RX0 74 yX0_dropFirst cX0_dropFirst 1 none 1 := ⟨wd_804, wd_805, wd_9, wd_806, ⟨by decide, by decide, by decide +kernel⟩⟩
theorem glX0_36 : FL RX0 36 0 13 := ⟨RX0, TX0, 17, rfl, inlX0, by decide, wd_314⟩
theorem glX0_39 : FL RX0 39 0 14 := ⟨RX0, TX0, 17, rfl, inlX0, by decide, wd_316⟩
theorem glX0_42 : FL RX0 42 0 15 := ⟨RX0, TX0, 17, rfl, inlX0, by decide, wd_318⟩
theorem plX0_64 : FP RX0 64 0 11 .int := ⟨RX0, TX0, 17, rfl, inlX0, by decide, wd_310, rfl, by decide +kernel, tyX0, tyX0_ok, nmX0⟩
theorem glX0_21 : FL RX0 21 0 7 := ⟨RX0, TX0, 17, rfl, inlX0, by decide, wd_305⟩
theorem glX0_24 : FL RX0 24 0 8 := ⟨RX0, TX0, 17, rfl, inlX0, by decide, wd_306⟩
theorem glX0_61 : FL RX0 61 0 6 := ⟨RX0, TX0, 17, rfl, inlX0, by decide, wd_303⟩
theorem mlX0_84 : LV RX0 84 yX0_sightAhead cX0_sightAhead 3 (some .int) 1 := ⟨wd_1054, wd_1055, wd_1056, wd_9, wd_1057, ⟨by decide, by decide, by decide +kernel⟩⟩
theorem glX0_27 : FL RX0 27 0 9 := ⟨RX0, TX0, 17, rfl, inlX0, by decide, wd_307⟩
theorem glX0_88 : FL RX0 88 6 8 := ⟨RX6, TX6, 15, rfl, inlX6, by decide, wd_233⟩
theorem glX0_45 : FL RX0 45 0 16 := ⟨RX0, TX0, 17, rfl, inlX0, by decide, wd_320⟩
theorem glX0_93 : FL RX0 93 6 0 := ⟨RX6, TX6, 15, rfl, inlX6, by decide, wd_209⟩
theorem glX8_25 : FL RX8 25 8 3 := ⟨RX8, TX8, 9, rfl, inlX8, by decide, wd_366⟩
theorem glX8_231 : FL RX8 231 6 10 := ⟨RX6, TX6, 15, rfl, inlX6, by decide, wd_239⟩
theorem glX8_215 : FL RX8 215 6 11 := ⟨RX6, TX6, 15, rfl, inlX6, by decide, wd_242⟩
theorem glX8_234 : FL RX8 234 0 2 := ⟨RX0, TX0, 17, rfl, inlX0, by decide, wd_296⟩
theorem glX8_237 : FL RX8 237 0 1 := ⟨RX0, TX0, 17, rfl, inlX0, by decide, wd_292⟩
theorem plX8_237 : FP RX8 237 0 1 .int := ⟨RX0, TX0, 17, rfl, inlX0, by decide, wd_292, rfl, by decide +kernel, tyX0, tyX0_ok, nmX0⟩
theorem mlX8_243 : LV RX8 243 yX0_owe cX0_owe 4 none 3 := ⟨wd_960, wd_834, wd_835, wd_9, wd_836, ⟨by decide, by decide, by decide +kernel⟩⟩
theorem mlX8_247 : LV RX8 247 yX6_notchBehind cX6_notchBehind 4 none 2 := ⟨wd_961, wd_589, wd_590, wd_8, wd_591, ⟨by decide, by decide, by decide +kernel⟩⟩
theorem glX8_205 : FL RX8 205 8 8 := ⟨RX8, TX8, 9, rfl, inlX8, by decide, wd_372⟩
theorem plX8_205 : FP RX8 205 8 8 .int := ⟨RX8, TX8, 9, rfl, inlX8, by decide, wd_372, rfl, by decide +kernel, tyX8, tyX8_ok, nmX8⟩
theorem glX8_218 : FL RX8 218 6 2 := ⟨RX6, TX6, 15, rfl, inlX6, by decide, wd_216⟩
theorem mlX8_221 : LV RX8 221 yX8_asks cX8_asks 8 (some .boolean) 4 := ⟨wd_881, wd_883, wp_17, wd_7, wd_884, ⟨by decide, by decide, by decide +kernel⟩⟩
theorem mlX8_225 : LV RX8 225 yX8_jam cX8_jam 2 none 1 := ⟨wd_943, wd_945, wp_21, wd_7, wd_946, ⟨by decide, by decide, by decide +kernel⟩⟩
theorem mlX8_228 : LV RX8 228 yX8_sell cX8_sell 5 none 1 := ⟨wd_947, wd_949, wp_22, wd_7, wd_950, ⟨by decide, by decide, by decide +kernel⟩⟩
theorem mlX8_240 : LV RX8 240 yX8_take cX8_take 3 none 2 := ⟨wd_956, wd_958, wp_24, wd_7, wd_959, ⟨by decide, by decide, by decide +kernel⟩⟩
theorem plX8_96 : FP RX8 96 6 0 .int := ⟨RX6, TX6, 15, rfl, inlX6, by decide, wd_208, rfl, by decide +kernel, tyX6, tyX6_ok, nmX6⟩
theorem glX8_208 : FL RX8 208 6 6 := ⟨RX6, TX6, 15, rfl, inlX6, by decide, wd_226⟩
theorem mlX8_211 : LV RX8 211 yX8_passVillage cX8_passVillage 5 none 2 := ⟨wd_952, wd_954, wp_23, wd_7, wd_955, ⟨by decide, by decide, by decide +kernel⟩⟩
theorem glX8_198 : FL RX8 198 6 12 := ⟨RX6, TX6, 15, rfl, inlX6, by decide, wd_245⟩
theorem mlX8_201 : LV RX8 201 yX8_passLog cX8_passLog 3 none 1 := ⟨wd_939, wd_941, wp_20, wd_7, wd_942, ⟨by decide, by decide, by decide +kernel⟩⟩
theorem glX8_33 : FL RX8 33 8 6 := ⟨RX8, TX8, 9, rfl, inlX8, by decide, wd_370⟩
theorem glX8_36 : FL RX8 36 8 7 := ⟨RX8, TX8, 9, rfl, inlX8, by decide, wd_371⟩
theorem plX8_195 : FP RX8 195 6 1 .int := ⟨RX6, TX6, 15, rfl, inlX6, by decide, wd_212, rfl, by decide +kernel, tyX6, tyX6_ok, nmX6⟩
theorem mlX8_51 : LT RX8 51 yJ7_fill_53178 cJ7_fill_53178 4 none 2 := ⟨wd_880, wd_481, wd_12, wd_482, ⟨by decide, by decide, by decide +kernel⟩⟩
theorem mlX8_250 : LV RX8 250 yX8_goesAhead cX8_goesAhead 3 (some .boolean) 2 := ⟨wd_902, wd_904, wp_19, wd_7, wd_905, ⟨by decide, by decide, by decide +kernel⟩⟩
theorem sX0_3 {b : Nat} (h : isX0 b) : SF b 0 3 (b + 2) := by rcases h with rfl | rfl | rfl | rfl | rfl | rfl <;> exact ⟨by decide, rfl, rfl, by decide, rfl, rfl⟩
theorem aX0_3 {b : Nat} (h : isX0 b) : AI (b + 2) 36 (-2147483648) 2147483647 := by rcases h with rfl | rfl | rfl | rfl | rfl | rfl <;> exact ⟨by decide, rfl, rfl, fun _ => ⟨rfl, rfl⟩⟩
theorem sX0_4 {b : Nat} (h : isX0 b) : SI b 0 4 0 20 := by rcases h with rfl | rfl | rfl | rfl | rfl | rfl <;> exact ⟨by decide, rfl, rfl, by decide, rfl, rfl, rfl⟩
theorem sX0_5 {b : Nat} (h : isX0 b) : SF b 0 5 (b + 3) := by rcases h with rfl | rfl | rfl | rfl | rfl | rfl <;> exact ⟨by decide, rfl, rfl, by decide, rfl, rfl⟩
theorem aX0_5 {b : Nat} (h : isX0 b) : AI (b + 3) 20 (-2147483648) 2147483647 := by rcases h with rfl | rfl | rfl | rfl | rfl | rfl <;> exact ⟨by decide, rfl, rfl, fun _ => ⟨rfl, rfl⟩⟩
theorem sX0_11 {b : Nat} (h : isX0 b) : SI b 0 11 0 12 := by rcases h with rfl | rfl | rfl | rfl | rfl | rfl <;> exact ⟨by decide, rfl, rfl, by decide, rfl, rfl, rfl⟩
theorem sX0_12 {b : Nat} (h : isX0 b) : SF b 0 12 (b + 8) := by rcases h with rfl | rfl | rfl | rfl | rfl | rfl <;> exact ⟨by decide, rfl, rfl, by decide, rfl, rfl⟩
theorem aX0_12 {b : Nat} (h : isX0 b) : AI (b + 8) 12 0 11 := by rcases h with rfl | rfl | rfl | rfl | rfl | rfl <;> exact ⟨by decide, rfl, rfl, fun _ => ⟨rfl, rfl⟩⟩
theorem sX0_13 {b : Nat} (h : isX0 b) : SF b 0 13 (b + 9) := by rcases h with rfl | rfl | rfl | rfl | rfl | rfl <;> exact ⟨by decide, rfl, rfl, by decide, rfl, rfl⟩
theorem aX0_13 {b : Nat} (h : isX0 b) : AI (b + 9) 12 0 5 := by rcases h with rfl | rfl | rfl | rfl | rfl | rfl <;> exact ⟨by decide, rfl, rfl, fun _ => ⟨rfl, rfl⟩⟩
theorem sX0_14 {b : Nat} (h : isX0 b) : SF b 0 14 (b + 10) := by rcases h with rfl | rfl | rfl | rfl | rfl | rfl <;> exact ⟨by decide, rfl, rfl, by decide, rfl, rfl⟩
theorem aX0_14 {b : Nat} (h : isX0 b) : AI (b + 10) 12 (-2147483648) 2147483647 := by rcases h with rfl | rfl | rfl | rfl | rfl | rfl <;> exact ⟨by decide, rfl, rfl, fun _ => ⟨rfl, rfl⟩⟩
theorem sX0_15 {b : Nat} (h : isX0 b) : SF b 0 15 (b + 11) := by rcases h with rfl | rfl | rfl | rfl | rfl | rfl <;> exact ⟨by decide, rfl, rfl, by decide, rfl, rfl⟩
theorem aX0_15 {b : Nat} (h : isX0 b) : AI (b + 11) 12 (-1) 5 := by rcases h with rfl | rfl | rfl | rfl | rfl | rfl <;> exact ⟨by decide, rfl, rfl, fun _ => ⟨rfl, rfl⟩⟩
theorem sX0_7 {b : Nat} (h : isX0 b) : SF b 0 7 (b + 4) := by rcases h with rfl | rfl | rfl | rfl | rfl | rfl <;> exact ⟨by decide, rfl, rfl, by decide, rfl, rfl⟩
theorem aX0_7 {b : Nat} (h : isX0 b) : AI (b + 4) 20 (-2147483648) 2147483647 := by rcases h with rfl | rfl | rfl | rfl | rfl | rfl <;> exact ⟨by decide, rfl, rfl, fun _ => ⟨rfl, rfl⟩⟩
theorem sX0_8 {b : Nat} (h : isX0 b) : SF b 0 8 (b + 5) := by rcases h with rfl | rfl | rfl | rfl | rfl | rfl <;> exact ⟨by decide, rfl, rfl, by decide, rfl, rfl⟩
theorem aX0_8 {b : Nat} (h : isX0 b) : AI (b + 5) 20 (-2147483648) 2147483647 := by rcases h with rfl | rfl | rfl | rfl | rfl | rfl <;> exact ⟨by decide, rfl, rfl, fun _ => ⟨rfl, rfl⟩⟩
theorem sX0_6 {b : Nat} (h : isX0 b) : SI b 0 6 0 20 := by rcases h with rfl | rfl | rfl | rfl | rfl | rfl <;> exact ⟨by decide, rfl, rfl, by decide, rfl, rfl, rfl⟩
theorem obX0 {b : Nat} (h : isX0 b) : OB b RX0 := by rcases h with rfl | rfl | rfl | rfl | rfl | rfl <;> exact ⟨by decide, rfl, _, _, rfl⟩
theorem sX0_9 {b : Nat} (h : isX0 b) : SF b 0 9 (b + 6) := by rcases h with rfl | rfl | rfl | rfl | rfl | rfl <;> exact ⟨by decide, rfl, rfl, by decide, rfl, rfl⟩
theorem aX0_9 {b : Nat} (h : isX0 b) : AI (b + 6) 20 (-2147483648) 2147483647 := by rcases h with rfl | rfl | rfl | rfl | rfl | rfl <;> exact ⟨by decide, rfl, rfl, fun _ => ⟨rfl, rfl⟩⟩
theorem sX8_3 {b : Nat} (h : isX8 b) : SF b 8 3 (b + 24) := by rcases h with rfl | rfl <;> exact ⟨by decide, rfl, rfl, by decide, rfl, rfl⟩
theorem aX8_3 {b : Nat} (h : isX8 b) : AI (b + 24) 6 (-2147483648) 2147483647 := by rcases h with rfl | rfl <;> exact ⟨by decide, rfl, rfl, fun _ => ⟨rfl, rfl⟩⟩
theorem sX6_11 {b : Nat} (h : isX6 b) : SF b 6 11 (b + 6) := by rcases h with rfl | rfl | rfl | rfl | rfl | rfl <;> exact ⟨by decide, rfl, rfl, by decide, rfl, rfl⟩
theorem aX6_11 {b : Nat} (h : isX6 b) : AI (b + 6) 12 (-2147483648) 2147483647 := by rcases h with rfl | rfl | rfl | rfl | rfl | rfl <;> exact ⟨by decide, rfl, rfl, fun _ => ⟨rfl, rfl⟩⟩
theorem sX0_2 {b : Nat} (h : isX0 b) : SF b 0 2 (b + 1) := by rcases h with rfl | rfl | rfl | rfl | rfl | rfl <;> exact ⟨by decide, rfl, rfl, by decide, rfl, rfl⟩
theorem aX0_2 {b : Nat} (h : isX0 b) : AI (b + 1) 6 (-2147483648) 2147483647 := by rcases h with rfl | rfl | rfl | rfl | rfl | rfl <;> exact ⟨by decide, rfl, rfl, fun _ => ⟨rfl, rfl⟩⟩
theorem sX0_1 {b : Nat} (h : isX0 b) : SI b 0 1 (-2147483648) 2147483647 := by rcases h with rfl | rfl | rfl | rfl | rfl | rfl <;> exact ⟨by decide, rfl, rfl, by decide, rfl, rfl, rfl⟩
theorem sX8_8 {b : Nat} (h : isX8 b) : SI b 8 8 (-2147483648) 2147483647 := by rcases h with rfl | rfl <;> exact ⟨by decide, rfl, rfl, by decide, rfl, rfl, rfl⟩
theorem sX6_2 {b : Nat} (h : isX6 b) : SI b 6 2 (-1) 5 := by rcases h with rfl | rfl | rfl | rfl | rfl | rfl <;> exact ⟨by decide, rfl, rfl, by decide, rfl, rfl, rfl⟩
theorem sX6_6 {b : Nat} (h : isX6 b) : SF b 6 6 (b + 1) := by rcases h with rfl | rfl | rfl | rfl | rfl | rfl <;> exact ⟨by decide, rfl, rfl, by decide, rfl, rfl⟩
theorem aX6_6 {b : Nat} (h : isX6 b) : AI (b + 1) 6 (-1) 5 := by rcases h with rfl | rfl | rfl | rfl | rfl | rfl <;> exact ⟨by decide, rfl, rfl, fun _ => ⟨rfl, rfl⟩⟩
theorem sX8_6 {b : Nat} (h : isX8 b) : SF b 8 6 (b + 26) := by rcases h with rfl | rfl <;> exact ⟨by decide, rfl, rfl, by decide, rfl, rfl⟩
theorem aX8_6 {b : Nat} (h : isX8 b) : AI (b + 26) 12 (-2147483648) 2147483647 := by rcases h with rfl | rfl <;> exact ⟨by decide, rfl, rfl, fun _ => ⟨rfl, rfl⟩⟩
theorem sX8_7 {b : Nat} (h : isX8 b) : SF b 8 7 (b + 27) := by rcases h with rfl | rfl <;> exact ⟨by decide, rfl, rfl, by decide, rfl, rfl⟩
theorem aX8_7 {b : Nat} (h : isX8 b) : AK (b + 27) 1 12 := by rcases h with rfl | rfl <;> exact ⟨by decide, rfl, rfl⟩
