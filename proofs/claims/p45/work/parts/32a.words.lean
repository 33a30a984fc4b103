theorem wd_1150 : (Cond.fieldLink RX10 52 "RaftForestModel" "onEnd" "[I" : Cond) ∈ wsB := wt5 (List.mem_of_getElem? (i := 190) rfl) rfl
theorem wd_1151 : (Cond.fieldLink RX10 55 "RaftForestModel" "weddings" "[I" : Cond) ∈ wsB := wt5 (List.mem_of_getElem? (i := 191) rfl) rfl
theorem wd_1155 : (Cond.fieldLink RX10 67 "RaftForestModel" "sightLog" "[I" : Cond) ∈ wsB := wt5 (List.mem_of_getElem? (i := 195) rfl) rfl
theorem wd_1156 : (Cond.fieldLink RX10 70 "RaftForestModel" "sightPlace" "[I" : Cond) ∈ wsB := wt5 (List.mem_of_getElem? (i := 196) rfl) rfl
theorem wd_1157 : (Cond.fieldLink RX10 73 "RaftForestModel" "sightWhose" "[I" : Cond) ∈ wsB := wt5 (List.mem_of_getElem? (i := 197) rfl) rfl
theorem wd_1158 : (Cond.fieldLink RX10 76 "RaftForestModel" "sightDay" "[I" : Cond) ∈ wsB := wt5 (List.mem_of_getElem? (i := 198) rfl) rfl
theorem wd_1159 : (Cond.fieldLink RX10 79 "RaftForestModel" "cutLog" "[I" : Cond) ∈ wsB := wt5 (List.mem_of_getElem? (i := 199) rfl) rfl
theorem wd_1160 : (Cond.fieldLink RX10 82 "RaftForestModel" "cutPlace" "[I" : Cond) ∈ wsB := wt5 (List.mem_of_getElem? (i := 200) rfl) rfl
theorem wd_1161 : (Cond.fieldLink RX10 85 "RaftForestModel" "cutBy" "[I" : Cond) ∈ wsB := wt5 (List.mem_of_getElem? (i := 201) rfl) rfl
theorem wd_1162 : (Cond.fieldLink RX10 88 "RaftForestModel" "cutWas" "[I" : Cond) ∈ wsB := wt5 (List.mem_of_getElem? (i := 202) rfl) rfl
theorem wd_1163 : (Cond.fieldLink RX10 91 "RaftForestModel" "past" "[I" : Cond) ∈ wsB := wt5 (List.mem_of_getElem? (i := 203) rfl) rfl
theorem wd_1172 : (Cond.fieldLink RX10 216 "RaftForestModel" "taped" "I" : Cond) ∈ wsB := wt5 (List.mem_of_getElem? (i := 212) rfl) rfl
theorem wd_1176 : (Cond.fieldLink RX10 405 "RaftForestModel" "rules" "I" : Cond) ∈ wsB := wt5 (List.mem_of_getElem? (i := 216) rfl) rfl
theorem wd_1210 : (Cond.fieldLink RX10 178 "RaftForestModel" "groupsOf" "[I" : Cond) ∈ wsB := wt6 (List.mem_of_getElem? (i := 10) rfl) rfl
theorem wd_1554 : (Cond.methodLink RX10 413 yX10_isRiver : Cond) ∈ wsB := wt7 (List.mem_of_getElem? (i := 114) rfl) rfl
theorem wd_1556 : (Cond.instanceMethod yX10_isRiver : Cond) ∈ wsB := wt7 (List.mem_of_getElem? (i := 116) rfl) rfl
theorem wd_1557 : (Cond.code yX10_isRiver cX10_isRiver 1 (some .boolean) : Cond) ∈ wsB := wt7 (List.mem_of_getElem? (i := 117) rfl) rfl
theorem wd_1575 : (Cond.constantLong RX10 422 (3) : Cond) ∈ wsB := wt7 (List.mem_of_getElem? (i := 135) rfl) rfl
theorem wd_1604 : (Cond.methodLink RX10 473 yX10_isThere : Cond) ∈ wsB := wt7 (List.mem_of_getElem? (i := 164) rfl) rfl
theorem wd_1606 : (Cond.instanceMethod yX10_isThere : Cond) ∈ wsB := wt7 (List.mem_of_getElem? (i := 166) rfl) rfl
theorem wd_1607 : (Cond.code yX10_isThere cX10_isThere 2 (some .boolean) : Cond) ∈ wsB := wt7 (List.mem_of_getElem? (i := 167) rfl) rfl
theorem wd_1671 : (Cond.methodLink RX10 480 yX10_netOf : Cond) ∈ wsB := wt7 (List.mem_of_getElem? (i := 231) rfl) rfl
theorem wd_1673 : (Cond.instanceMethod yX10_netOf : Cond) ∈ wsB := wt7 (List.mem_of_getElem? (i := 233) rfl) rfl
theorem wd_1674 : (Cond.code yX10_netOf cX10_netOf 4 (some .int) : Cond) ∈ wsB := wt7 (List.mem_of_getElem? (i := 234) rfl) rfl
theorem wd_1699 : (Cond.methodLink RX10 492 yX10_mayCut : Cond) ∈ wsB := wt8 (List.mem_of_getElem? (i := 19) rfl) rfl
theorem wd_1701 : (Cond.instanceMethod yX10_mayCut : Cond) ∈ wsB := wt8 (List.mem_of_getElem? (i := 21) rfl) rfl
theorem wd_1702 : (Cond.code yX10_mayCut cX10_mayCut 3 (some .boolean) : Cond) ∈ wsB := wt8 (List.mem_of_getElem? (i := 22) rfl) rfl
theorem wd_1703 : (Cond.methodLink RX10 495 yX10_keepsCut : Cond) ∈ wsB := wt8 (List.mem_of_getElem? (i := 23) rfl) rfl
theorem wd_1705 : (Cond.instanceMethod yX10_keepsCut : Cond) ∈ wsB := wt8 (List.mem_of_getElem? (i := 25) rfl) rfl
theorem wd_1706 : (Cond.code yX10_keepsCut cX10_keepsCut 6 none : Cond) ∈ wsB := wt8 (List.mem_of_getElem? (i := 26) rfl) rfl
theorem wd_1800 : (Cond.constantLong RX10 523 (99999) : Cond) ∈ wsB := wt8 (List.mem_of_getElem? (i := 120) rfl) rfl
theorem wd_1850 : (Cond.constantLong RX10 581 (5) : Cond) ∈ wsB := wt8 (List.mem_of_getElem? (i := 170) rfl) rfl
theorem wd_1884 : (Cond.methodLink RX10 606 yX10_stepOfKin : Cond) ∈ wsB := wt8 (List.mem_of_getElem? (i := 204) rfl) rfl
theorem wd_1886 : (Cond.instanceMethod yX10_stepOfKin : Cond) ∈ wsB := wt8 (List.mem_of_getElem? (i := 206) rfl) rfl
theorem wd_1887 : (Cond.code yX10_stepOfKin cX10_stepOfKin 4 (some .int) : Cond) ∈ wsB := wt8 (List.mem_of_getElem? (i := 207) rfl) rfl
theorem wd_1900 : (Cond.methodLink RX10 612 yX10_wereAtIn : Cond) ∈ wsB := wt8 (List.mem_of_getElem? (i := 220) rfl) rfl
theorem wd_1902 : (Cond.instanceMethod yX10_wereAtIn : Cond) ∈ wsB := wt8 (List.mem_of_getElem? (i := 222) rfl) rfl
theorem wd_1903 : (Cond.code yX10_wereAtIn cX10_wereAtIn 6 (some .int) : Cond) ∈ wsB := wt8 (List.mem_of_getElem? (i := 223) rfl) rfl
theorem wd_1904 : (Cond.methodLink RX10 609 yX10_atAgo : Cond) ∈ wsB := wt8 (List.mem_of_getElem? (i := 224) rfl) rfl
theorem wd_1906 : (Cond.instanceMethod yX10_atAgo : Cond) ∈ wsB := wt8 (List.mem_of_getElem? (i := 226) rfl) rfl
theorem wd_1907 : (Cond.code yX10_atAgo cX10_atAgo 6 (some .int) : Cond) ∈ wsB := wt8 (List.mem_of_getElem? (i := 227) rfl) rfl
theorem wd_1923 : (Cond.methodLink RX10 619 yX10_whoCould : Cond) ∈ wsB := wt9 (List.mem_of_getElem? (i := 3) rfl) rfl
theorem wd_1925 : (Cond.instanceMethod yX10_whoCould : Cond) ∈ wsB := wt9 (List.mem_of_getElem? (i := 5) rfl) rfl
theorem wd_1926 : (Cond.code yX10_whoCould cX10_whoCould 6 (some .int) : Cond) ∈ wsB := wt9 (List.mem_of_getElem? (i := 6) rfl) rfl
theorem wd_1954 : (Cond.constantLong RX10 622 (1103515245) : Cond) ∈ wsB := wt9 (List.mem_of_getElem? (i := 34) rfl) rfl
theorem wd_1955 : (Cond.constantLong RX10 624 (12345) : Cond) ∈ wsB := wt9 (List.mem_of_getElem? (i := 35) rfl) rfl
theorem wd_1956 : (Cond.constantLong RX10 626 (2147483648) : Cond) ∈ wsB := wt9 (List.mem_of_getElem? (i := 36) rfl) rfl
theorem wd_1957 : (Cond.constant RX10 628 (65536) : Cond) ∈ wsB := wt9 (List.mem_of_getElem? (i := 37) rfl) rfl
theorem wd_1962 : (Cond.methodLink RX10 638 yX10_countOf : Cond) ∈ wsB := wt9 (List.mem_of_getElem? (i := 42) rfl) rfl
theorem wd_1964 : (Cond.instanceMethod yX10_countOf : Cond) ∈ wsB := wt9 (List.mem_of_getElem? (i := 44) rfl) rfl
theorem wd_1965 : (Cond.code yX10_countOf cX10_countOf 5 (some .int) : Cond) ∈ wsB := wt9 (List.mem_of_getElem? (i := 45) rfl) rfl
def Lwp_56 : List (Nat × Cond) := [(56, Cond.selects RX10 yX10_isRiver yX10_isRiver), (63, Cond.selects RX10 yX10_isThere yX10_isThere), (77, Cond.selects RX10 yX10_netOf yX10_netOf), (81, Cond.selects RX10 yX10_mayCut yX10_mayCut), (82, Cond.selects RX10 yX10_keepsCut yX10_keepsCut), (108, Cond.selects RX10 yX10_stepOfKin yX10_stepOfKin), (109, Cond.selects RX10 yX10_wereAtIn yX10_wereAtIn), (110, Cond.selects RX10 yX10_atAgo yX10_atAgo), (111, Cond.selects RX10 yX10_whoCould yX10_whoCould), (113, Cond.selects RX10 yX10_countOf yX10_countOf)]
set_option maxRecDepth 100000 in
theorem Lwp_56_ok : ∀ q ∈ Lwp_56, (k2_sels lw_privs)[q.1]? = some q.2 ∧ goodWord q.2 = true := by decide +kernel
theorem wp_56 : (Cond.selects RX10 yX10_isRiver yX10_isRiver : Cond) ∈ wsB := wpq Lwp_56_ok 0 rfl
theorem wp_63 : (Cond.selects RX10 yX10_isThere yX10_isThere : Cond) ∈ wsB := wpq Lwp_56_ok 1 rfl
theorem wp_77 : (Cond.selects RX10 yX10_netOf yX10_netOf : Cond) ∈ wsB := wpq Lwp_56_ok 2 rfl
theorem wp_81 : (Cond.selects RX10 yX10_mayCut yX10_mayCut : Cond) ∈ wsB := wpq Lwp_56_ok 3 rfl
theorem wp_82 : (Cond.selects RX10 yX10_keepsCut yX10_keepsCut : Cond) ∈ wsB := wpq Lwp_56_ok 4 rfl
theorem wp_108 : (Cond.selects RX10 yX10_stepOfKin yX10_stepOfKin : Cond) ∈ wsB := wpq Lwp_56_ok 5 rfl
theorem wp_109 : (Cond.selects RX10 yX10_wereAtIn yX10_wereAtIn : Cond) ∈ wsB := wpq Lwp_56_ok 6 rfl
theorem wp_110 : (Cond.selects RX10 yX10_atAgo yX10_atAgo : Cond) ∈ wsB := wpq Lwp_56_ok 7 rfl
theorem wp_111 : (Cond.selects RX10 yX10_whoCould yX10_whoCould : Cond) ∈ wsB := wpq Lwp_56_ok 8 rfl
theorem wp_113 : (Cond.selects RX10 yX10_countOf yX10_countOf : Cond) ∈ wsB := wpq Lwp_56_ok 9 rfl
theorem glX10_79 : FL RX10 79 10 24 := ⟨RX10, TX10, 80, rfl, inlX10, by decide, wd_1159⟩
theorem glX10_82 : FL RX10 82 10 25 := ⟨RX10, TX10, 80, rfl, inlX10, by decide, wd_1160⟩
theorem glX10_85 : FL RX10 85 10 26 := ⟨RX10, TX10, 80, rfl, inlX10, by decide, wd_1161⟩
theorem glX10_88 : FL RX10 88 10 27 := ⟨RX10, TX10, 80, rfl, inlX10, by decide, wd_1162⟩
theorem mlX10_492 : LV RX10 492 yX10_mayCut cX10_mayCut 3 (some .boolean) 2 := ⟨wd_1699, wd_1701, wp_81, wd_11, wd_1702, ⟨by decide, by decide, by decide +kernel⟩⟩
theorem mlX10_495 : LV RX10 495 yX10_keepsCut cX10_keepsCut 6 none 4 := ⟨wd_1703, wd_1705, wp_82, wd_11, wd_1706, ⟨by decide, by decide, by decide +kernel⟩⟩
theorem glX10_52 : FL RX10 52 10 15 := ⟨RX10, TX10, 80, rfl, inlX10, by decide, wd_1150⟩
theorem mlX10_473 : LV RX10 473 yX10_isThere cX10_isThere 2 (some .boolean) 1 := ⟨wd_1604, wd_1606, wp_63, wd_11, wd_1607, ⟨by decide, by decide, by decide +kernel⟩⟩
theorem mlX10_413 : LV RX10 413 yX10_isRiver cX10_isRiver 1 (some .boolean) 0 := ⟨wd_1554, wd_1556, wp_56, wd_11, wd_1557, ⟨by decide, by decide, by decide +kernel⟩⟩
theorem glX10_178 : FL RX10 178 10 75 := ⟨RX10, TX10, 80, rfl, inlX10, by decide, wd_1210⟩
theorem mlX10_480 : LV RX10 480 yX10_netOf cX10_netOf 4 (some .int) 1 := ⟨wd_1671, wd_1673, wp_77, wd_11, wd_1674, ⟨by decide, by decide, by decide +kernel⟩⟩
theorem mlX10_606 : LV RX10 606 yX10_stepOfKin cX10_stepOfKin 4 (some .int) 1 := ⟨wd_1884, wd_1886, wp_108, wd_11, wd_1887, ⟨by decide, by decide, by decide +kernel⟩⟩
theorem glX10_91 : FL RX10 91 10 28 := ⟨RX10, TX10, 80, rfl, inlX10, by decide, wd_1163⟩
theorem mlX10_609 : LV RX10 609 yX10_atAgo cX10_atAgo 6 (some .int) 2 := ⟨wd_1904, wd_1906, wp_110, wd_11, wd_1907, ⟨by decide, by decide, by decide +kernel⟩⟩
theorem mlX10_612 : LV RX10 612 yX10_wereAtIn cX10_wereAtIn 6 (some .int) 3 := ⟨wd_1900, wd_1902, wp_109, wd_11, wd_1903, ⟨by decide, by decide, by decide +kernel⟩⟩
theorem glX10_67 : FL RX10 67 10 20 := ⟨RX10, TX10, 80, rfl, inlX10, by decide, wd_1155⟩
theorem glX10_70 : FL RX10 70 10 21 := ⟨RX10, TX10, 80, rfl, inlX10, by decide, wd_1156⟩
theorem glX10_73 : FL RX10 73 10 22 := ⟨RX10, TX10, 80, rfl, inlX10, by decide, wd_1157⟩
theorem glX10_76 : FL RX10 76 10 23 := ⟨RX10, TX10, 80, rfl, inlX10, by decide, wd_1158⟩
theorem mlX10_619 : LV RX10 619 yX10_whoCould cX10_whoCould 6 (some .int) 3 := ⟨wd_1923, wd_1925, wp_111, wd_11, wd_1926, ⟨by decide, by decide, by decide +kernel⟩⟩
theorem glX10_405 : FL RX10 405 10 41 := ⟨RX10, TX10, 80, rfl, inlX10, by decide, wd_1176⟩
theorem mlX10_638 : LV RX10 638 yX10_countOf cX10_countOf 5 (some .int) 2 := ⟨wd_1962, wd_1964, wp_113, wd_11, wd_1965, ⟨by decide, by decide, by decide +kernel⟩⟩
theorem glX10_216 : FL RX10 216 10 37 := ⟨RX10, TX10, 80, rfl, inlX10, by decide, wd_1172⟩
theorem glX10_55 : FL RX10 55 10 16 := ⟨RX10, TX10, 80, rfl, inlX10, by decide, wd_1151⟩
theorem sX10_24 {b : Nat} (h : isX10 b) : SF b 10 24 (b + 24) := by rcases h with rfl <;> exact ⟨by decide, rfl, rfl, by decide, rfl, rfl⟩
theorem aX10_24 {b : Nat} (h : isX10 b) : AI (b + 24) 12 0 11 := by rcases h with rfl <;> exact ⟨by decide, rfl, rfl, fun _ => ⟨rfl, rfl⟩⟩
theorem sX10_25 {b : Nat} (h : isX10 b) : SF b 10 25 (b + 25) := by rcases h with rfl <;> exact ⟨by decide, rfl, rfl, by decide, rfl, rfl⟩
theorem aX10_25 {b : Nat} (h : isX10 b) : AI (b + 25) 12 0 5 := by rcases h with rfl <;> exact ⟨by decide, rfl, rfl, fun _ => ⟨rfl, rfl⟩⟩
theorem sX10_26 {b : Nat} (h : isX10 b) : SF b 10 26 (b + 26) := by rcases h with rfl <;> exact ⟨by decide, rfl, rfl, by decide, rfl, rfl⟩
theorem aX10_26 {b : Nat} (h : isX10 b) : AI (b + 26) 12 (-2147483648) 2147483647 := by rcases h with rfl <;> exact ⟨by decide, rfl, rfl, fun _ => ⟨rfl, rfl⟩⟩
theorem sX10_27 {b : Nat} (h : isX10 b) : SF b 10 27 (b + 27) := by rcases h with rfl <;> exact ⟨by decide, rfl, rfl, by decide, rfl, rfl⟩
theorem aX10_27 {b : Nat} (h : isX10 b) : AI (b + 27) 12 (-1) 5 := by rcases h with rfl <;> exact ⟨by decide, rfl, rfl, fun _ => ⟨rfl, rfl⟩⟩
theorem sX10_15 {b : Nat} (h : isX10 b) : SF b 10 15 (b + 15) := by rcases h with rfl <;> exact ⟨by decide, rfl, rfl, by decide, rfl, rfl⟩
theorem aX10_15 {b : Nat} (h : isX10 b) : AI (b + 15) 12 (-2147483648) 2147483647 := by rcases h with rfl <;> exact ⟨by decide, rfl, rfl, fun _ => ⟨rfl, rfl⟩⟩
theorem sX10_75 {b : Nat} (h : isX10 b) : SF b 10 75 (b + 55) := by rcases h with rfl <;> exact ⟨by decide, rfl, rfl, by decide, rfl, rfl⟩
theorem aX10_75 {b : Nat} (h : isX10 b) : AI (b + 55) 64 (-2147483648) 2147483647 := by rcases h with rfl <;> exact ⟨by decide, rfl, rfl, fun _ => ⟨rfl, rfl⟩⟩
theorem sX10_28 {b : Nat} (h : isX10 b) : SF b 10 28 (b + 28) := by rcases h with rfl <;> exact ⟨by decide, rfl, rfl, by decide, rfl, rfl⟩
theorem aX10_28 {b : Nat} (h : isX10 b) : AI (b + 28) 360 (-2147483648) 2147483647 := by rcases h with rfl <;> exact ⟨by decide, rfl, rfl, fun _ => ⟨rfl, rfl⟩⟩
theorem sX10_20 {b : Nat} (h : isX10 b) : SF b 10 20 (b + 20) := by rcases h with rfl <;> exact ⟨by decide, rfl, rfl, by decide, rfl, rfl⟩
theorem aX10_20 {b : Nat} (h : isX10 b) : AI (b + 20) 20 (-2147483648) 2147483647 := by rcases h with rfl <;> exact ⟨by decide, rfl, rfl, fun _ => ⟨rfl, rfl⟩⟩
theorem sX10_21 {b : Nat} (h : isX10 b) : SF b 10 21 (b + 21) := by rcases h with rfl <;> exact ⟨by decide, rfl, rfl, by decide, rfl, rfl⟩
theorem aX10_21 {b : Nat} (h : isX10 b) : AI (b + 21) 20 (-2147483648) 2147483647 := by rcases h with rfl <;> exact ⟨by decide, rfl, rfl, fun _ => ⟨rfl, rfl⟩⟩
theorem sX10_22 {b : Nat} (h : isX10 b) : SF b 10 22 (b + 22) := by rcases h with rfl <;> exact ⟨by decide, rfl, rfl, by decide, rfl, rfl⟩
theorem aX10_22 {b : Nat} (h : isX10 b) : AI (b + 22) 20 (-2147483648) 2147483647 := by rcases h with rfl <;> exact ⟨by decide, rfl, rfl, fun _ => ⟨rfl, rfl⟩⟩
theorem sX10_23 {b : Nat} (h : isX10 b) : SF b 10 23 (b + 23) := by rcases h with rfl <;> exact ⟨by decide, rfl, rfl, by decide, rfl, rfl⟩
theorem aX10_23 {b : Nat} (h : isX10 b) : AI (b + 23) 20 (-2147483648) 2147483647 := by rcases h with rfl <;> exact ⟨by decide, rfl, rfl, fun _ => ⟨rfl, rfl⟩⟩
theorem sX10_41 {b : Nat} (h : isX10 b) : SI b 10 41 0 6 := by rcases h with rfl <;> exact ⟨by decide, rfl, rfl, by decide, rfl, rfl, rfl⟩
theorem sX10_37 {b : Nat} (h : isX10 b) : SI b 10 37 0 400 := by rcases h with rfl <;> exact ⟨by decide, rfl, rfl, by decide, rfl, rfl, rfl⟩
theorem sX10_16 {b : Nat} (h : isX10 b) : SF b 10 16 (b + 16) := by rcases h with rfl <;> exact ⟨by decide, rfl, rfl, by decide, rfl, rfl⟩
theorem aX10_16 {b : Nat} (h : isX10 b) : AI (b + 16) 12 (-2147483648) 2147483647 := by rcases h with rfl <;> exact ⟨by decide, rfl, rfl, fun _ => ⟨rfl, rfl⟩⟩
