theorem inlX0 : ∀ w ∈ wsX00, w ∈ wsB := in_T [322, 324, 326, 328, 330, 332, 334, 336, 338, 340, 342, 344, 346, 348, 350, 352, 354] (by decide +kernel) (by decide +kernel)
theorem inlX1 : ∀ w ∈ wsX10, w ∈ wsB := in_T [410, 412, 414, 416] (by decide +kernel) (by decide +kernel)
theorem inlX2 : ∀ w ∈ wsX20, w ∈ wsB := in_T [116, 118, 120, 122, 124, 126, 128, 130, 132, 134, 136, 138] (by decide +kernel) (by decide +kernel)
theorem inlX3 : ∀ w ∈ wsX30, w ∈ wsB := in_T [145, 147, 149] (by decide +kernel) (by decide +kernel)
theorem inlX4 : ∀ w ∈ wsX40, w ∈ wsB := in_T [179, 181, 183, 185, 187, 189] (by decide +kernel) (by decide +kernel)
theorem inlX5 : ∀ w ∈ wsX50, w ∈ wsB := in_T [160, 162] (by decide +kernel) (by decide +kernel)
theorem inlX6 : ∀ w ∈ wsX60, w ∈ wsB := in_T [252, 254, 256, 258, 260, 262, 264, 266, 268, 270, 272, 274, 276, 278, 280] (by decide +kernel) (by decide +kernel)
theorem inlX7 : ∀ w ∈ wsX70, w ∈ wsB := in_T [45, 47, 49, 51, 53, 55] (by decide +kernel) (by decide +kernel)
theorem inlX8 : ∀ w ∈ wsX80, w ∈ wsB := in_T [373, 375, 377, 379, 381, 383, 385, 387, 389] (by decide +kernel) (by decide +kernel)
theorem inlX9 : ∀ w ∈ wsX90, w ∈ wsB := in_T [431, 433, 435, 437, 439, 441, 443, 445, 447, 449, 451, 453] (by decide +kernel) (by decide +kernel)
theorem inlX10 : ∀ w ∈ wsX100, w ∈ wsB := in_T [1215, 1217, 1219, 1221, 1223, 1225, 1227, 1229, 1231, 1233, 1235, 1237, 1239, 1241, 1243, 1245, 1247, 1249, 1251, 1253, 1255, 1257, 1259, 1261, 1263, 1265, 1267, 1269, 1271, 1273, 1275, 1277, 1279, 1281, 1283, 1285, 1287, 1289, 1291, 1293, 1295, 1297, 1299, 1301, 1303, 1305, 1307, 1309, 1311, 1313, 1315, 1317, 1319, 1321, 1323, 1325, 1327, 1329, 1331, 1333, 1335, 1337, 1339, 1341, 1343, 1345, 1347, 1349, 1351, 1353, 1355, 1357, 1359, 1361, 1363, 1365, 1367, 1369, 1371, 1373] (by decide +kernel) (by decide +kernel)
theorem wdq {L : List (Nat × Cond)} (h : ∀ q ∈ L, tables_1[q.1]? = some q.2 ∧ goodWord q.2 = true) (k : Nat) {i : Nat} {w : Cond} (e : L[k]? = some (i, w)) : w ∈ wsB := wdT i (h _ (List.mem_of_getElem? e)).1 (h _ (List.mem_of_getElem? e)).2
theorem wpq {L : List (Nat × Cond)} (h : ∀ q ∈ L, (k2_sels lw_privs)[q.1]? = some q.2 ∧ goodWord q.2 = true) (k : Nat) {i : Nat} {w : Cond} (e : L[k]? = some (i, w)) : w ∈ wsB := wdP i (h _ (List.mem_of_getElem? e)).1 (h _ (List.mem_of_getElem? e)).2
theorem wt1 {w : Cond} (h : w ∈ tables_1_1) (g : goodWord w = true) : w ∈ wsB := List.mem_filter.mpr ⟨List.mem_append_right _ (show w ∈ tables_1 from (List.mem_append_left _ h)), g⟩
theorem wt2 {w : Cond} (h : w ∈ tables_1_2) (g : goodWord w = true) : w ∈ wsB := List.mem_filter.mpr ⟨List.mem_append_right _ (show w ∈ tables_1 from (List.mem_append_right _ (List.mem_append_left _ h))), g⟩
theorem wt3 {w : Cond} (h : w ∈ tables_1_3) (g : goodWord w = true) : w ∈ wsB := List.mem_filter.mpr ⟨List.mem_append_right _ (show w ∈ tables_1 from (List.mem_append_right _ (List.mem_append_right _ (List.mem_append_left _ h)))), g⟩
theorem wt4 {w : Cond} (h : w ∈ tables_1_4) (g : goodWord w = true) : w ∈ wsB := List.mem_filter.mpr ⟨List.mem_append_right _ (show w ∈ tables_1 from (List.mem_append_right _ (List.mem_append_right _ (List.mem_append_right _ (List.mem_append_left _ h))))), g⟩
theorem wt5 {w : Cond} (h : w ∈ tables_1_5) (g : goodWord w = true) : w ∈ wsB := List.mem_filter.mpr ⟨List.mem_append_right _ (show w ∈ tables_1 from (List.mem_append_right _ (List.mem_append_right _ (List.mem_append_right _ (List.mem_append_right _ (List.mem_append_left _ h)))))), g⟩
theorem wt6 {w : Cond} (h : w ∈ tables_1_6) (g : goodWord w = true) : w ∈ wsB := List.mem_filter.mpr ⟨List.mem_append_right _ (show w ∈ tables_1 from (List.mem_append_right _ (List.mem_append_right _ (List.mem_append_right _ (List.mem_append_right _ (List.mem_append_right _ (List.mem_append_left _ h))))))), g⟩
theorem wt7 {w : Cond} (h : w ∈ tables_1_7) (g : goodWord w = true) : w ∈ wsB := List.mem_filter.mpr ⟨List.mem_append_right _ (show w ∈ tables_1 from (List.mem_append_right _ (List.mem_append_right _ (List.mem_append_right _ (List.mem_append_right _ (List.mem_append_right _ (List.mem_append_right _ (List.mem_append_left _ h)))))))), g⟩
theorem wt8 {w : Cond} (h : w ∈ tables_1_8) (g : goodWord w = true) : w ∈ wsB := List.mem_filter.mpr ⟨List.mem_append_right _ (show w ∈ tables_1 from (List.mem_append_right _ (List.mem_append_right _ (List.mem_append_right _ (List.mem_append_right _ (List.mem_append_right _ (List.mem_append_right _ (List.mem_append_right _ (List.mem_append_left _ h))))))))), g⟩
theorem wt9 {w : Cond} (h : w ∈ tables_1_9) (g : goodWord w = true) : w ∈ wsB := List.mem_filter.mpr ⟨List.mem_append_right _ (show w ∈ tables_1 from (List.mem_append_right _ (List.mem_append_right _ (List.mem_append_right _ (List.mem_append_right _ (List.mem_append_right _ (List.mem_append_right _ (List.mem_append_right _ (List.mem_append_right _ h))))))))), g⟩
theorem wd_7 : (Cond.initialized RX8 : Cond) ∈ wsB := wt1 (List.mem_of_getElem? (i := 7) rfl) rfl
theorem wd_17 : (Cond.initialized RJ9 : Cond) ∈ wsB := wt1 (List.mem_of_getElem? (i := 17) rfl) rfl
theorem wd_19 : (Cond.initialized RJ6 : Cond) ∈ wsB := wt1 (List.mem_of_getElem? (i := 19) rfl) rfl
theorem wd_72 : (Cond.fieldLink RX8 65 "RaftForest$River" "bends" "I" : Cond) ∈ wsB := wt1 (List.mem_of_getElem? (i := 72) rfl) rfl
theorem wd_77 : (Cond.fieldLink RX8 93 "RaftForest$River" "villages" "I" : Cond) ∈ wsB := wt1 (List.mem_of_getElem? (i := 77) rfl) rfl
theorem wd_85 : (Cond.fieldLink RX8 69 "RaftForest$River" "logs" "I" : Cond) ∈ wsB := wt1 (List.mem_of_getElem? (i := 85) rfl) rfl
theorem wd_89 : (Cond.fieldLink RX8 162 "RaftForest$River" "toll" "I" : Cond) ∈ wsB := wt1 (List.mem_of_getElem? (i := 89) rfl) rfl
theorem wd_92 : (Cond.fieldLink RX8 60 "RaftForest$River" "villageBends" "[I" : Cond) ∈ wsB := wt1 (List.mem_of_getElem? (i := 92) rfl) rfl
theorem wd_97 : (Cond.fieldLink RX8 72 "RaftForest$River" "widths" "[I" : Cond) ∈ wsB := wt1 (List.mem_of_getElem? (i := 97) rfl) rfl
theorem wd_101 : (Cond.fieldLink RX8 156 "RaftForest$River" "woodPrices" "[I" : Cond) ∈ wsB := wt1 (List.mem_of_getElem? (i := 101) rfl) rfl
theorem wd_105 : (Cond.fieldLink RX8 159 "RaftForest$River" "logWoods" "[I" : Cond) ∈ wsB := wt1 (List.mem_of_getElem? (i := 105) rfl) rfl
theorem wd_208 : (Cond.fieldLink RX8 96 "RaftForest$State" "day" "I" : Cond) ∈ wsB := wt1 (List.mem_of_getElem? (i := 208) rfl) rfl
theorem wd_223 : (Cond.fieldLink RX6 60 "RaftForest$State" "logs" "I" : Cond) ∈ wsB := wt1 (List.mem_of_getElem? (i := 223) rfl) rfl
theorem wd_228 : (Cond.fieldLink RX8 75 "RaftForest$State" "dams" "[I" : Cond) ∈ wsB := wt1 (List.mem_of_getElem? (i := 228) rfl) rfl
theorem wd_230 : (Cond.fieldLink RX6 22 "RaftForest$State" "places" "[I" : Cond) ∈ wsB := wt1 (List.mem_of_getElem? (i := 230) rfl) rfl
theorem wd_231 : (Cond.fieldLink RX8 57 "RaftForest$State" "places" "[I" : Cond) ∈ wsB := wt1 (List.mem_of_getElem? (i := 231) rfl) rfl
theorem wd_236 : (Cond.fieldLink RX8 153 "RaftForest$State" "lengths" "[I" : Cond) ∈ wsB := wt1 (List.mem_of_getElem? (i := 236) rfl) rfl
theorem wd_237 : (Cond.fieldLink RX6 28 "RaftForest$State" "jams" "[I" : Cond) ∈ wsB := wt1 (List.mem_of_getElem? (i := 237) rfl) rfl
theorem wd_243 : (Cond.fieldLink RX6 34 "RaftForest$State" "order" "[I" : Cond) ∈ wsB := wt2 (List.mem_of_getElem? (i := 3) rfl) rfl
theorem wd_246 : (Cond.fieldLink RX6 37 "RaftForest$State" "notchCounts" "[I" : Cond) ∈ wsB := wt2 (List.mem_of_getElem? (i := 6) rfl) rfl
theorem wd_247 : (Cond.fieldLink RX8 114 "RaftForest$State" "notchCounts" "[I" : Cond) ∈ wsB := wt2 (List.mem_of_getElem? (i := 7) rfl) rfl
theorem wd_249 : (Cond.fieldLink RX6 40 "RaftForest$State" "notches" "[I" : Cond) ∈ wsB := wt2 (List.mem_of_getElem? (i := 9) rfl) rfl
theorem wd_250 : (Cond.fieldLink RX8 143 "RaftForest$State" "notches" "[I" : Cond) ∈ wsB := wt2 (List.mem_of_getElem? (i := 10) rfl) rfl
theorem wd_357 : (Cond.fieldLink RX8 39 "RaftForest$World" "river" "LRaftForest$River;" : Cond) ∈ wsB := wt2 (List.mem_of_getElem? (i := 117) rfl) rfl
theorem wd_360 : (Cond.fieldLink RX8 12 "RaftForest$World" "state" "LRaftForest$State;" : Cond) ∈ wsB := wt2 (List.mem_of_getElem? (i := 120) rfl) rfl
theorem wd_577 : (Cond.static Lib.Math.min.name : Cond) ∈ wsB := wt3 (List.mem_of_getElem? (i := 97) rfl) rfl
theorem wd_578 : (Cond.code Lib.Math.min.name Lib.Math.min.code 2 (some .int) : Cond) ∈ wsB := wt3 (List.mem_of_getElem? (i := 98) rfl) rfl
theorem wd_592 : (Cond.methodLink RX6 81 Lib.Math.min.name : Cond) ∈ wsB := wt3 (List.mem_of_getElem? (i := 112) rfl) rfl
theorem wd_702 : (Cond.instanceMethod yX8_logsAt : Cond) ∈ wsB := wt3 (List.mem_of_getElem? (i := 222) rfl) rfl
theorem wd_703 : (Cond.selects RX8 yX8_logsAt yX8_logsAt : Cond) ∈ wsB := wt3 (List.mem_of_getElem? (i := 223) rfl) rfl
theorem wd_704 : (Cond.code yX8_logsAt cX8_logsAt 4 (some .int) : Cond) ∈ wsB := wt3 (List.mem_of_getElem? (i := 224) rfl) rfl
theorem wd_709 : (Cond.methodLink RX8 78 yX8_logsAt : Cond) ∈ wsB := wt3 (List.mem_of_getElem? (i := 229) rfl) rfl
theorem wd_710 : (Cond.methodLink RX8 82 yJ6_bitCount_0f7a4 : Cond) ∈ wsB := wt3 (List.mem_of_getElem? (i := 230) rfl) rfl
theorem wd_711 : (Cond.static yJ6_bitCount_0f7a4 : Cond) ∈ wsB := wt3 (List.mem_of_getElem? (i := 231) rfl) rfl
theorem wd_712 : (Cond.code yJ6_bitCount_0f7a4 cJ6_bitCount_0f7a4 1 (some .int) : Cond) ∈ wsB := wt3 (List.mem_of_getElem? (i := 232) rfl) rfl
theorem wd_713 : (Cond.constant RJ6 265 (1431655765) : Cond) ∈ wsB := wt3 (List.mem_of_getElem? (i := 233) rfl) rfl
theorem wd_714 : (Cond.constant RJ6 266 (858993459) : Cond) ∈ wsB := wt3 (List.mem_of_getElem? (i := 234) rfl) rfl
theorem wd_715 : (Cond.constant RJ6 267 (252645135) : Cond) ∈ wsB := wt3 (List.mem_of_getElem? (i := 235) rfl) rfl
theorem wd_716 : (Cond.methodLink RX8 87 Lib.Math.max.name : Cond) ∈ wsB := wt3 (List.mem_of_getElem? (i := 236) rfl) rfl
theorem wd_717 : (Cond.static Lib.Math.max.name : Cond) ∈ wsB := wt3 (List.mem_of_getElem? (i := 237) rfl) rfl
theorem wd_718 : (Cond.code Lib.Math.max.name Lib.Math.max.code 2 (some .int) : Cond) ∈ wsB := wt3 (List.mem_of_getElem? (i := 238) rfl) rfl
theorem wd_748 : (Cond.methodLink RX8 165 yX8_bendOf : Cond) ∈ wsB := wt4 (List.mem_of_getElem? (i := 28) rfl) rfl
theorem wd_749 : (Cond.instanceMethod yX8_bendOf : Cond) ∈ wsB := wt4 (List.mem_of_getElem? (i := 29) rfl) rfl
theorem wd_750 : (Cond.selects RX8 yX8_bendOf yX8_bendOf : Cond) ∈ wsB := wt4 (List.mem_of_getElem? (i := 30) rfl) rfl
theorem wd_751 : (Cond.code yX8_bendOf cX8_bendOf 3 (some .int) : Cond) ∈ wsB := wt4 (List.mem_of_getElem? (i := 31) rfl) rfl
theorem wd_775 : (Cond.instanceMethod yX8_priceOf : Cond) ∈ wsB := wt4 (List.mem_of_getElem? (i := 55) rfl) rfl
theorem wd_776 : (Cond.selects RX8 yX8_priceOf yX8_priceOf : Cond) ∈ wsB := wt4 (List.mem_of_getElem? (i := 56) rfl) rfl
theorem wd_777 : (Cond.code yX8_priceOf cX8_priceOf 3 (some .int) : Cond) ∈ wsB := wt4 (List.mem_of_getElem? (i := 57) rfl) rfl
theorem wd_879 : (Cond.methodLink RX8 99 Lib.Math.min.name : Cond) ∈ wsB := wt4 (List.mem_of_getElem? (i := 159) rfl) rfl
theorem wd_951 : (Cond.methodLink RX8 168 yX8_priceOf : Cond) ∈ wsB := wt4 (List.mem_of_getElem? (i := 231) rfl) rfl
theorem glX6_22 : FL RX6 22 6 8 := ⟨RX6, TX6, 15, rfl, inlX6, by decide, wd_230⟩
theorem glX6_60 : FL RX6 60 6 5 := ⟨RX6, TX6, 15, rfl, inlX6, by decide, wd_223⟩
theorem glX6_28 : FL RX6 28 6 10 := ⟨RX6, TX6, 15, rfl, inlX6, by decide, wd_237⟩
theorem glX6_34 : FL RX6 34 6 12 := ⟨RX6, TX6, 15, rfl, inlX6, by decide, wd_243⟩
theorem glX6_37 : FL RX6 37 6 13 := ⟨RX6, TX6, 15, rfl, inlX6, by decide, wd_246⟩
theorem glX6_40 : FL RX6 40 6 14 := ⟨RX6, TX6, 15, rfl, inlX6, by decide, wd_249⟩
theorem glX8_12 : FL RX8 12 8 1 := ⟨RX8, TX8, 9, rfl, inlX8, by decide, wd_360⟩
theorem glX8_96 : FL RX8 96 6 0 := ⟨RX6, TX6, 15, rfl, inlX6, by decide, wd_208⟩
theorem glX8_39 : FL RX8 39 8 0 := ⟨RX8, TX8, 9, rfl, inlX8, by decide, wd_357⟩
theorem glX8_69 : FL RX8 69 2 3 := ⟨RX2, TX2, 12, rfl, inlX2, by decide, wd_85⟩
theorem glX8_57 : FL RX8 57 6 8 := ⟨RX6, TX6, 15, rfl, inlX6, by decide, wd_231⟩
theorem glX8_72 : FL RX8 72 2 6 := ⟨RX2, TX2, 12, rfl, inlX2, by decide, wd_97⟩
theorem glX8_75 : FL RX8 75 6 7 := ⟨RX6, TX6, 15, rfl, inlX6, by decide, wd_228⟩
theorem mlX8_78 : LV RX8 78 yX8_logsAt cX8_logsAt 4 (some .int) 1 := ⟨wd_709, wd_702, wd_703, wd_7, wd_704, ⟨by decide, by decide, by decide +kernel⟩⟩
theorem mlX8_82 : LT RX8 82 yJ6_bitCount_0f7a4 cJ6_bitCount_0f7a4 1 (some .int) 1 := ⟨wd_710, wd_711, wd_19, wd_712, ⟨by decide, by decide, by decide +kernel⟩⟩
theorem glX8_60 : FL RX8 60 2 5 := ⟨RX2, TX2, 12, rfl, inlX2, by decide, wd_92⟩
theorem glX8_93 : FL RX8 93 2 1 := ⟨RX2, TX2, 12, rfl, inlX2, by decide, wd_77⟩
theorem glX8_65 : FL RX8 65 2 0 := ⟨RX2, TX2, 12, rfl, inlX2, by decide, wd_72⟩
theorem glX8_114 : FL RX8 114 6 13 := ⟨RX6, TX6, 15, rfl, inlX6, by decide, wd_247⟩
theorem glX8_143 : FL RX8 143 6 14 := ⟨RX6, TX6, 15, rfl, inlX6, by decide, wd_250⟩
theorem glX8_153 : FL RX8 153 6 9 := ⟨RX6, TX6, 15, rfl, inlX6, by decide, wd_236⟩
theorem glX8_156 : FL RX8 156 2 7 := ⟨RX2, TX2, 12, rfl, inlX2, by decide, wd_101⟩
theorem glX8_159 : FL RX8 159 2 8 := ⟨RX2, TX2, 12, rfl, inlX2, by decide, wd_105⟩
theorem glX8_162 : FL RX8 162 2 4 := ⟨RX2, TX2, 12, rfl, inlX2, by decide, wd_89⟩
theorem mlX8_165 : LV RX8 165 yX8_bendOf cX8_bendOf 3 (some .int) 1 := ⟨wd_748, wd_749, wd_750, wd_7, wd_751, ⟨by decide, by decide, by decide +kernel⟩⟩
theorem mlX8_168 : LV RX8 168 yX8_priceOf cX8_priceOf 3 (some .int) 1 := ⟨wd_951, wd_775, wd_776, wd_7, wd_777, ⟨by decide, by decide, by decide +kernel⟩⟩
theorem iX8_1 {b : Nat} (h : isX8 b) : isX6 (b + 1) := by rcases h with rfl | rfl <;> decide
theorem sX6_8 {b : Nat} (h : isX6 b) : SF b 6 8 (b + 3) := by rcases h with rfl | rfl | rfl | rfl | rfl | rfl <;> exact ⟨by decide, rfl, rfl, by decide, rfl, rfl⟩
theorem aX6_8 {b : Nat} (h : isX6 b) : AI (b + 3) 12 0 41 := by rcases h with rfl | rfl | rfl | rfl | rfl | rfl <;> exact ⟨by decide, rfl, rfl, fun _ => ⟨rfl, rfl⟩⟩
theorem sX6_5 {b : Nat} (h : isX6 b) : SI b 6 5 0 12 := by rcases h with rfl | rfl | rfl | rfl | rfl | rfl <;> exact ⟨by decide, rfl, rfl, by decide, rfl, rfl, rfl⟩
theorem sX6_10 {b : Nat} (h : isX6 b) : SF b 6 10 (b + 5) := by rcases h with rfl | rfl | rfl | rfl | rfl | rfl <;> exact ⟨by decide, rfl, rfl, by decide, rfl, rfl⟩
theorem aX6_10 {b : Nat} (h : isX6 b) : AI (b + 5) 12 (-2147483648) 2147483647 := by rcases h with rfl | rfl | rfl | rfl | rfl | rfl <;> exact ⟨by decide, rfl, rfl, fun _ => ⟨rfl, rfl⟩⟩
theorem sX6_12 {b : Nat} (h : isX6 b) : SF b 6 12 (b + 7) := by rcases h with rfl | rfl | rfl | rfl | rfl | rfl <;> exact ⟨by decide, rfl, rfl, by decide, rfl, rfl⟩
theorem aX6_12 {b : Nat} (h : isX6 b) : AI (b + 7) 12 0 11 := by rcases h with rfl | rfl | rfl | rfl | rfl | rfl <;> exact ⟨by decide, rfl, rfl, fun _ => ⟨rfl, rfl⟩⟩
theorem sX6_13 {b : Nat} (h : isX6 b) : SF b 6 13 (b + 8) := by rcases h with rfl | rfl | rfl | rfl | rfl | rfl <;> exact ⟨by decide, rfl, rfl, by decide, rfl, rfl⟩
theorem aX6_13 {b : Nat} (h : isX6 b) : AI (b + 8) 12 0 6 := by rcases h with rfl | rfl | rfl | rfl | rfl | rfl <;> exact ⟨by decide, rfl, rfl, fun _ => ⟨rfl, rfl⟩⟩
theorem sX6_14 {b : Nat} (h : isX6 b) : SF b 6 14 (b + 9) := by rcases h with rfl | rfl | rfl | rfl | rfl | rfl <;> exact ⟨by decide, rfl, rfl, by decide, rfl, rfl⟩
theorem aX6_14 {b : Nat} (h : isX6 b) : AI (b + 9) 72 0 5 := by rcases h with rfl | rfl | rfl | rfl | rfl | rfl <;> exact ⟨by decide, rfl, rfl, fun _ => ⟨rfl, rfl⟩⟩
theorem sX8_1 {b : Nat} (h : isX8 b) : SF b 8 1 (b + 1) := by rcases h with rfl | rfl <;> exact ⟨by decide, rfl, rfl, by decide, rfl, rfl⟩
theorem sX6_0 {b : Nat} (h : isX6 b) : SI b 6 0 0 9999 := by rcases h with rfl | rfl | rfl | rfl | rfl | rfl <;> exact ⟨by decide, rfl, rfl, by decide, rfl, rfl, rfl⟩
theorem sX8_0 {b : Nat} (h : isX8 b) : SF b 8 0 (37) := by rcases h with rfl | rfl <;> exact ⟨by decide, rfl, rfl, by decide, rfl, rfl⟩
theorem sX2_3 {b : Nat} (h : isX2 b) : SI b 2 3 0 12 := by rcases h with rfl | rfl | rfl | rfl | rfl | rfl <;> exact ⟨by decide, rfl, rfl, by decide, rfl, rfl, rfl⟩
theorem sX2_6 {b : Nat} (h : isX2 b) : SF b 2 6 (b + 2) := by rcases h with rfl | rfl | rfl | rfl | rfl | rfl <;> exact ⟨by decide, rfl, rfl, by decide, rfl, rfl⟩
theorem aX2_6 {b : Nat} (h : isX2 b) : AI (b + 2) 9 (-1) 9 := by rcases h with rfl | rfl | rfl | rfl | rfl | rfl <;> exact ⟨by decide, rfl, rfl, fun _ => ⟨rfl, rfl⟩⟩
theorem sX6_7 {b : Nat} (h : isX6 b) : SF b 6 7 (b + 2) := by rcases h with rfl | rfl | rfl | rfl | rfl | rfl <;> exact ⟨by decide, rfl, rfl, by decide, rfl, rfl⟩
theorem aX6_7 {b : Nat} (h : isX6 b) : AI (b + 2) 9 (-2147483648) 2147483647 := by rcases h with rfl | rfl | rfl | rfl | rfl | rfl <;> exact ⟨by decide, rfl, rfl, fun _ => ⟨rfl, rfl⟩⟩
theorem obX8 {b : Nat} (h : isX8 b) : OB b RX8 := by rcases h with rfl | rfl <;> exact ⟨by decide, rfl, _, _, rfl⟩
theorem sX2_5 {b : Nat} (h : isX2 b) : SF b 2 5 (b + 1) := by rcases h with rfl | rfl | rfl | rfl | rfl | rfl <;> exact ⟨by decide, rfl, rfl, by decide, rfl, rfl⟩
theorem aX2_5 {b : Nat} (h : isX2 b) : AI (b + 1) 6 (-1) 8 := by rcases h with rfl | rfl | rfl | rfl | rfl | rfl <;> exact ⟨by decide, rfl, rfl, fun _ => ⟨rfl, rfl⟩⟩
theorem sX2_1 {b : Nat} (h : isX2 b) : SI b 2 1 0 6 := by rcases h with rfl | rfl | rfl | rfl | rfl | rfl <;> exact ⟨by decide, rfl, rfl, by decide, rfl, rfl, rfl⟩
theorem sX2_0 {b : Nat} (h : isX2 b) : SI b 2 0 (-1) 9 := by rcases h with rfl | rfl | rfl | rfl | rfl | rfl <;> exact ⟨by decide, rfl, rfl, by decide, rfl, rfl, rfl⟩
theorem sX6_9 {b : Nat} (h : isX6 b) : SF b 6 9 (b + 4) := by rcases h with rfl | rfl | rfl | rfl | rfl | rfl <;> exact ⟨by decide, rfl, rfl, by decide, rfl, rfl⟩
theorem aX6_9 {b : Nat} (h : isX6 b) : AI (b + 4) 12 (-2147483648) 2147483647 := by rcases h with rfl | rfl | rfl | rfl | rfl | rfl <;> exact ⟨by decide, rfl, rfl, fun _ => ⟨rfl, rfl⟩⟩
theorem sX2_7 {b : Nat} (h : isX2 b) : SF b 2 7 (b + 3) := by rcases h with rfl | rfl | rfl | rfl | rfl | rfl <;> exact ⟨by decide, rfl, rfl, by decide, rfl, rfl⟩
theorem aX2_7 {b : Nat} (h : isX2 b) : AI (b + 3) 4 (-1) 99 := by rcases h with rfl | rfl | rfl | rfl | rfl | rfl <;> exact ⟨by decide, rfl, rfl, fun _ => ⟨rfl, rfl⟩⟩
theorem sX2_8 {b : Nat} (h : isX2 b) : SF b 2 8 (b + 4) := by rcases h with rfl | rfl | rfl | rfl | rfl | rfl <;> exact ⟨by decide, rfl, rfl, by decide, rfl, rfl⟩
theorem aX2_8 {b : Nat} (h : isX2 b) : AI (b + 4) 12 (-1) 3 := by rcases h with rfl | rfl | rfl | rfl | rfl | rfl <;> exact ⟨by decide, rfl, rfl, fun _ => ⟨rfl, rfl⟩⟩
theorem sX2_4 {b : Nat} (h : isX2 b) : SI b 2 4 (-1) 9 := by rcases h with rfl | rfl | rfl | rfl | rfl | rfl <;> exact ⟨by decide, rfl, rfl, by decide, rfl, rfl, rfl⟩
