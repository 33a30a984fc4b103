theorem wd_1141 : (Cond.fieldLink RX10 25 "RaftForestModel" "villageRule" "[I" : Cond) ∈ wsB := wt5 (List.mem_of_getElem? (i := 181) rfl) rfl
theorem wd_1142 : (Cond.fieldLink RX10 28 "RaftForestModel" "villageCoins" "[I" : Cond) ∈ wsB := wt5 (List.mem_of_getElem? (i := 182) rfl) rfl
theorem wd_1149 : (Cond.fieldLink RX10 49 "RaftForestModel" "jams" "[I" : Cond) ∈ wsB := wt5 (List.mem_of_getElem? (i := 189) rfl) rfl
theorem wd_1152 : (Cond.fieldLink RX10 58 "RaftForestModel" "order" "[I" : Cond) ∈ wsB := wt5 (List.mem_of_getElem? (i := 192) rfl) rfl
theorem wd_1184 : (Cond.fieldLink RX10 126 "RaftForestModel" "sort" "[I" : Cond) ∈ wsB := wt5 (List.mem_of_getElem? (i := 224) rfl) rfl
theorem wd_1185 : (Cond.fieldLink RX10 129 "RaftForestModel" "number" "[I" : Cond) ∈ wsB := wt5 (List.mem_of_getElem? (i := 225) rfl) rfl
theorem wd_1186 : (Cond.fieldLink RX10 132 "RaftForestModel" "clauses" "[I" : Cond) ∈ wsB := wt5 (List.mem_of_getElem? (i := 226) rfl) rfl
theorem wd_1187 : (Cond.fieldLink RX10 135 "RaftForestModel" "actOf" "[I" : Cond) ∈ wsB := wt5 (List.mem_of_getElem? (i := 227) rfl) rfl
theorem wd_1188 : (Cond.fieldLink RX10 138 "RaftForestModel" "sumAt" "[I" : Cond) ∈ wsB := wt5 (List.mem_of_getElem? (i := 228) rfl) rfl
theorem wd_1189 : (Cond.fieldLink RX10 141 "RaftForestModel" "testAt" "[I" : Cond) ∈ wsB := wt5 (List.mem_of_getElem? (i := 229) rfl) rfl
theorem wd_1190 : (Cond.fieldLink RX10 144 "RaftForestModel" "endAt" "[I" : Cond) ∈ wsB := wt5 (List.mem_of_getElem? (i := 230) rfl) rfl
theorem wd_1193 : (Cond.fieldLink RX10 154 "RaftForestModel" "stack" "[J" : Cond) ∈ wsB := wt5 (List.mem_of_getElem? (i := 233) rfl) rfl
theorem wd_1599 : (Cond.constant RX10 476 (-1000000) : Cond) ∈ wsB := wt7 (List.mem_of_getElem? (i := 159) rfl) rfl
theorem wd_1600 : (Cond.methodLink RX10 477 yX10_ownedBy : Cond) ∈ wsB := wt7 (List.mem_of_getElem? (i := 160) rfl) rfl
theorem wd_1602 : (Cond.instanceMethod yX10_ownedBy : Cond) ∈ wsB := wt7 (List.mem_of_getElem? (i := 162) rfl) rfl
theorem wd_1603 : (Cond.code yX10_ownedBy cX10_ownedBy 4 (some .int) : Cond) ∈ wsB := wt7 (List.mem_of_getElem? (i := 163) rfl) rfl
theorem wd_1608 : (Cond.methodLink RX10 464 yX10_ownerOf : Cond) ∈ wsB := wt7 (List.mem_of_getElem? (i := 168) rfl) rfl
theorem wd_1610 : (Cond.instanceMethod yX10_ownerOf : Cond) ∈ wsB := wt7 (List.mem_of_getElem? (i := 170) rfl) rfl
theorem wd_1611 : (Cond.code yX10_ownerOf cX10_ownerOf 2 (some .int) : Cond) ∈ wsB := wt7 (List.mem_of_getElem? (i := 171) rfl) rfl
theorem wd_1620 : (Cond.methodLink RX10 458 yX10_byMost : Cond) ∈ wsB := wt7 (List.mem_of_getElem? (i := 180) rfl) rfl
theorem wd_1622 : (Cond.instanceMethod yX10_byMost : Cond) ∈ wsB := wt7 (List.mem_of_getElem? (i := 182) rfl) rfl
theorem wd_1623 : (Cond.code yX10_byMost cX10_byMost 4 (some .int) : Cond) ∈ wsB := wt7 (List.mem_of_getElem? (i := 183) rfl) rfl
theorem wd_1628 : (Cond.methodLink RX10 461 yX10_byRule : Cond) ∈ wsB := wt7 (List.mem_of_getElem? (i := 188) rfl) rfl
theorem wd_1630 : (Cond.instanceMethod yX10_byRule : Cond) ∈ wsB := wt7 (List.mem_of_getElem? (i := 190) rfl) rfl
theorem wd_1631 : (Cond.code yX10_byRule cX10_byRule 10 (some .int) : Cond) ∈ wsB := wt7 (List.mem_of_getElem? (i := 191) rfl) rfl
theorem wd_1632 : (Cond.methodLink RX10 451 yX10_asks : Cond) ∈ wsB := wt7 (List.mem_of_getElem? (i := 192) rfl) rfl
theorem wd_1634 : (Cond.instanceMethod yX10_asks : Cond) ∈ wsB := wt7 (List.mem_of_getElem? (i := 194) rfl) rfl
theorem wd_1635 : (Cond.code yX10_asks cX10_asks 5 none : Cond) ∈ wsB := wt7 (List.mem_of_getElem? (i := 195) rfl) rfl
theorem wd_1653 : (Cond.methodLink RX10 455 yX10_firstClause : Cond) ∈ wsB := wt7 (List.mem_of_getElem? (i := 213) rfl) rfl
theorem wd_1655 : (Cond.instanceMethod yX10_firstClause : Cond) ∈ wsB := wt7 (List.mem_of_getElem? (i := 215) rfl) rfl
theorem wd_1656 : (Cond.code yX10_firstClause cX10_firstClause 4 (some .int) : Cond) ∈ wsB := wt7 (List.mem_of_getElem? (i := 216) rfl) rfl
theorem wd_1657 : (Cond.methodLink RX10 437 yX10_holds : Cond) ∈ wsB := wt7 (List.mem_of_getElem? (i := 217) rfl) rfl
theorem wd_1659 : (Cond.instanceMethod yX10_holds : Cond) ∈ wsB := wt7 (List.mem_of_getElem? (i := 219) rfl) rfl
theorem wd_1660 : (Cond.code yX10_holds cX10_holds 3 (some .boolean) : Cond) ∈ wsB := wt7 (List.mem_of_getElem? (i := 220) rfl) rfl
theorem wd_1661 : (Cond.methodLink RX10 433 yX10_answer : Cond) ∈ wsB := wt7 (List.mem_of_getElem? (i := 221) rfl) rfl
theorem wd_1663 : (Cond.instanceMethod yX10_answer : Cond) ∈ wsB := wt7 (List.mem_of_getElem? (i := 223) rfl) rfl
theorem wd_1664 : (Cond.code yX10_answer cX10_answer 8 (some .long) : Cond) ∈ wsB := wt7 (List.mem_of_getElem? (i := 224) rfl) rfl
theorem wd_1665 : (Cond.methodLink RX10 444 yX10_both : Cond) ∈ wsB := wt7 (List.mem_of_getElem? (i := 225) rfl) rfl
theorem wd_1666 : (Cond.static yX10_both : Cond) ∈ wsB := wt7 (List.mem_of_getElem? (i := 226) rfl) rfl
theorem wd_1667 : (Cond.code yX10_both cX10_both 5 (some .long) : Cond) ∈ wsB := wt7 (List.mem_of_getElem? (i := 227) rfl) rfl
theorem wd_1683 : (Cond.methodLink RX10 486 yX10_priceOf : Cond) ∈ wsB := wt8 (List.mem_of_getElem? (i := 3) rfl) rfl
theorem wd_1685 : (Cond.instanceMethod yX10_priceOf : Cond) ∈ wsB := wt8 (List.mem_of_getElem? (i := 5) rfl) rfl
theorem wd_1686 : (Cond.code yX10_priceOf cX10_priceOf 3 (some .int) : Cond) ∈ wsB := wt8 (List.mem_of_getElem? (i := 6) rfl) rfl
theorem wd_1687 : (Cond.methodLink RX10 489 yX10_placeInOrder : Cond) ∈ wsB := wt8 (List.mem_of_getElem? (i := 7) rfl) rfl
theorem wd_1689 : (Cond.instanceMethod yX10_placeInOrder : Cond) ∈ wsB := wt8 (List.mem_of_getElem? (i := 9) rfl) rfl
theorem wd_1690 : (Cond.code yX10_placeInOrder cX10_placeInOrder 3 (some .int) : Cond) ∈ wsB := wt8 (List.mem_of_getElem? (i := 10) rfl) rfl
theorem wd_1727 : (Cond.methodLink RX10 498 yX10_owes1 : Cond) ∈ wsB := wt8 (List.mem_of_getElem? (i := 47) rfl) rfl
theorem wd_1729 : (Cond.instanceMethod yX10_owes1 : Cond) ∈ wsB := wt8 (List.mem_of_getElem? (i := 49) rfl) rfl
theorem wd_1730 : (Cond.code yX10_owes1 cX10_owes1 4 none : Cond) ∈ wsB := wt8 (List.mem_of_getElem? (i := 50) rfl) rfl
theorem wd_1747 : (Cond.methodLink RX10 502 yX10_votesOf : Cond) ∈ wsB := wt8 (List.mem_of_getElem? (i := 67) rfl) rfl
theorem wd_1749 : (Cond.instanceMethod yX10_votesOf : Cond) ∈ wsB := wt8 (List.mem_of_getElem? (i := 69) rfl) rfl
theorem wd_1750 : (Cond.code yX10_votesOf cX10_votesOf 7 (some .int) : Cond) ∈ wsB := wt8 (List.mem_of_getElem? (i := 70) rfl) rfl
def Lwp_62 : List (Nat × Cond) := [(62, Cond.selects RX10 yX10_ownedBy yX10_ownedBy), (64, Cond.selects RX10 yX10_ownerOf yX10_ownerOf), (67, Cond.selects RX10 yX10_byMost yX10_byMost), (69, Cond.selects RX10 yX10_byRule yX10_byRule), (70, Cond.selects RX10 yX10_asks yX10_asks), (74, Cond.selects RX10 yX10_firstClause yX10_firstClause), (75, Cond.selects RX10 yX10_holds yX10_holds), (76, Cond.selects RX10 yX10_answer yX10_answer), (79, Cond.selects RX10 yX10_priceOf yX10_priceOf), (80, Cond.selects RX10 yX10_placeInOrder yX10_placeInOrder), (83, Cond.selects RX10 yX10_owes1 yX10_owes1), (84, Cond.selects RX10 yX10_votesOf yX10_votesOf)]
set_option maxRecDepth 100000 in
theorem Lwp_62_ok : ∀ q ∈ Lwp_62, (k2_sels lw_privs)[q.1]? = some q.2 ∧ goodWord q.2 = true := by decide +kernel
theorem wp_62 : (Cond.selects RX10 yX10_ownedBy yX10_ownedBy : Cond) ∈ wsB := wpq Lwp_62_ok 0 rfl
theorem wp_64 : (Cond.selects RX10 yX10_ownerOf yX10_ownerOf : Cond) ∈ wsB := wpq Lwp_62_ok 1 rfl
theorem wp_67 : (Cond.selects RX10 yX10_byMost yX10_byMost : Cond) ∈ wsB := wpq Lwp_62_ok 2 rfl
theorem wp_69 : (Cond.selects RX10 yX10_byRule yX10_byRule : Cond) ∈ wsB := wpq Lwp_62_ok 3 rfl
theorem wp_70 : (Cond.selects RX10 yX10_asks yX10_asks : Cond) ∈ wsB := wpq Lwp_62_ok 4 rfl
theorem wp_74 : (Cond.selects RX10 yX10_firstClause yX10_firstClause : Cond) ∈ wsB := wpq Lwp_62_ok 5 rfl
theorem wp_75 : (Cond.selects RX10 yX10_holds yX10_holds : Cond) ∈ wsB := wpq Lwp_62_ok 6 rfl
theorem wp_76 : (Cond.selects RX10 yX10_answer yX10_answer : Cond) ∈ wsB := wpq Lwp_62_ok 7 rfl
theorem wp_79 : (Cond.selects RX10 yX10_priceOf yX10_priceOf : Cond) ∈ wsB := wpq Lwp_62_ok 8 rfl
theorem wp_80 : (Cond.selects RX10 yX10_placeInOrder yX10_placeInOrder : Cond) ∈ wsB := wpq Lwp_62_ok 9 rfl
theorem wp_83 : (Cond.selects RX10 yX10_owes1 yX10_owes1 : Cond) ∈ wsB := wpq Lwp_62_ok 10 rfl
theorem wp_84 : (Cond.selects RX10 yX10_votesOf yX10_votesOf : Cond) ∈ wsB := wpq Lwp_62_ok 11 rfl
theorem glX10_154 : FL RX10 154 10 58 := ⟨RX10, TX10, 80, rfl, inlX10, by decide, wd_1193⟩
theorem glX10_126 : FL RX10 126 10 49 := ⟨RX10, TX10, 80, rfl, inlX10, by decide, wd_1184⟩
theorem glX10_129 : FL RX10 129 10 50 := ⟨RX10, TX10, 80, rfl, inlX10, by decide, wd_1185⟩
theorem mlX10_444 : LT RX10 444 yX10_both cX10_both 5 (some .long) 3 := ⟨wd_1665, wd_1666, wd_11, wd_1667, ⟨by decide, by decide, by decide +kernel⟩⟩
theorem glX10_141 : FL RX10 141 10 54 := ⟨RX10, TX10, 80, rfl, inlX10, by decide, wd_1189⟩
theorem glX10_144 : FL RX10 144 10 55 := ⟨RX10, TX10, 80, rfl, inlX10, by decide, wd_1190⟩
theorem mlX10_433 : LV RX10 433 yX10_answer cX10_answer 8 (some .long) 3 := ⟨wd_1661, wd_1663, wp_76, wd_11, wd_1664, ⟨by decide, by decide, by decide +kernel⟩⟩
theorem glX10_132 : FL RX10 132 10 51 := ⟨RX10, TX10, 80, rfl, inlX10, by decide, wd_1186⟩
theorem glX10_135 : FL RX10 135 10 52 := ⟨RX10, TX10, 80, rfl, inlX10, by decide, wd_1187⟩
theorem mlX10_437 : LV RX10 437 yX10_holds cX10_holds 3 (some .boolean) 2 := ⟨wd_1657, wd_1659, wp_75, wd_11, wd_1660, ⟨by decide, by decide, by decide +kernel⟩⟩
theorem mlX10_451 : LV RX10 451 yX10_asks cX10_asks 5 none 4 := ⟨wd_1632, wd_1634, wp_70, wd_11, wd_1635, ⟨by decide, by decide, by decide +kernel⟩⟩
theorem mlX10_455 : LV RX10 455 yX10_firstClause cX10_firstClause 4 (some .int) 2 := ⟨wd_1653, wd_1655, wp_74, wd_11, wd_1656, ⟨by decide, by decide, by decide +kernel⟩⟩
theorem glX10_138 : FL RX10 138 10 53 := ⟨RX10, TX10, 80, rfl, inlX10, by decide, wd_1188⟩
theorem mlX10_458 : LV RX10 458 yX10_byMost cX10_byMost 4 (some .int) 1 := ⟨wd_1620, wd_1622, wp_67, wd_11, wd_1623, ⟨by decide, by decide, by decide +kernel⟩⟩
theorem mlX10_461 : LV RX10 461 yX10_byRule cX10_byRule 10 (some .int) 1 := ⟨wd_1628, wd_1630, wp_69, wd_11, wd_1631, ⟨by decide, by decide, by decide +kernel⟩⟩
theorem mlX10_464 : LV RX10 464 yX10_ownerOf cX10_ownerOf 2 (some .int) 1 := ⟨wd_1608, wd_1610, wp_64, wd_11, wd_1611, ⟨by decide, by decide, by decide +kernel⟩⟩
theorem glX10_25 : FL RX10 25 10 6 := ⟨RX10, TX10, 80, rfl, inlX10, by decide, wd_1141⟩
theorem glX10_28 : FL RX10 28 10 7 := ⟨RX10, TX10, 80, rfl, inlX10, by decide, wd_1142⟩
theorem mlX10_477 : LV RX10 477 yX10_ownedBy cX10_ownedBy 4 (some .int) 1 := ⟨wd_1600, wd_1602, wp_62, wd_11, wd_1603, ⟨by decide, by decide, by decide +kernel⟩⟩
theorem mlX10_502 : LV RX10 502 yX10_votesOf cX10_votesOf 7 (some .int) 2 := ⟨wd_1747, wd_1749, wp_84, wd_11, wd_1750, ⟨by decide, by decide, by decide +kernel⟩⟩
theorem mlX10_486 : LV RX10 486 yX10_priceOf cX10_priceOf 3 (some .int) 1 := ⟨wd_1683, wd_1685, wp_79, wd_11, wd_1686, ⟨by decide, by decide, by decide +kernel⟩⟩
theorem mlX10_498 : LV RX10 498 yX10_owes1 cX10_owes1 4 none 3 := ⟨wd_1727, wd_1729, wp_83, wd_11, wd_1730, ⟨by decide, by decide, by decide +kernel⟩⟩
theorem glX10_58 : FL RX10 58 10 17 := ⟨RX10, TX10, 80, rfl, inlX10, by decide, wd_1152⟩
theorem glX10_49 : FL RX10 49 10 14 := ⟨RX10, TX10, 80, rfl, inlX10, by decide, wd_1149⟩
theorem mlX10_489 : LV RX10 489 yX10_placeInOrder cX10_placeInOrder 3 (some .int) 1 := ⟨wd_1687, wd_1689, wp_80, wd_11, wd_1690, ⟨by decide, by decide, by decide +kernel⟩⟩
theorem sX10_58 {b : Nat} (h : isX10 b) : SF b 10 58 (b + 47) := by rcases h with rfl <;> exact ⟨by decide, rfl, rfl, by decide, rfl, rfl⟩
theorem aX10_58 {b : Nat} (h : isX10 b) : AK (b + 47) 1 300 := by rcases h with rfl <;> exact ⟨by decide, rfl, rfl⟩
theorem sX10_49 {b : Nat} (h : isX10 b) : SF b 10 49 (b + 38) := by rcases h with rfl <;> exact ⟨by decide, rfl, rfl, by decide, rfl, rfl⟩
theorem aX10_49 {b : Nat} (h : isX10 b) : AI (b + 38) 1800 (-2147483648) 2147483647 := by rcases h with rfl <;> exact ⟨by decide, rfl, rfl, fun _ => ⟨rfl, rfl⟩⟩
theorem sX10_50 {b : Nat} (h : isX10 b) : SF b 10 50 (b + 39) := by rcases h with rfl <;> exact ⟨by decide, rfl, rfl, by decide, rfl, rfl⟩
theorem aX10_50 {b : Nat} (h : isX10 b) : AI (b + 39) 1800 (-2147483648) 2147483647 := by rcases h with rfl <;> exact ⟨by decide, rfl, rfl, fun _ => ⟨rfl, rfl⟩⟩
theorem sX10_54 {b : Nat} (h : isX10 b) : SF b 10 54 (b + 43) := by rcases h with rfl <;> exact ⟨by decide, rfl, rfl, by decide, rfl, rfl⟩
theorem aX10_54 {b : Nat} (h : isX10 b) : AI (b + 43) 72 0 300 := by rcases h with rfl <;> exact ⟨by decide, rfl, rfl, fun _ => ⟨rfl, rfl⟩⟩
theorem sX10_55 {b : Nat} (h : isX10 b) : SF b 10 55 (b + 44) := by rcases h with rfl <;> exact ⟨by decide, rfl, rfl, by decide, rfl, rfl⟩
theorem aX10_55 {b : Nat} (h : isX10 b) : AI (b + 44) 72 0 300 := by rcases h with rfl <;> exact ⟨by decide, rfl, rfl, fun _ => ⟨rfl, rfl⟩⟩
theorem sX10_51 {b : Nat} (h : isX10 b) : SF b 10 51 (b + 40) := by rcases h with rfl <;> exact ⟨by decide, rfl, rfl, by decide, rfl, rfl⟩
theorem aX10_51 {b : Nat} (h : isX10 b) : AI (b + 40) 6 0 40 := by rcases h with rfl <;> exact ⟨by decide, rfl, rfl, fun _ => ⟨rfl, rfl⟩⟩
theorem sX10_52 {b : Nat} (h : isX10 b) : SF b 10 52 (b + 41) := by rcases h with rfl <;> exact ⟨by decide, rfl, rfl, by decide, rfl, rfl⟩
theorem aX10_52 {b : Nat} (h : isX10 b) : AI (b + 41) 72 (-2147483648) 2147483647 := by rcases h with rfl <;> exact ⟨by decide, rfl, rfl, fun _ => ⟨rfl, rfl⟩⟩
theorem sX10_53 {b : Nat} (h : isX10 b) : SF b 10 53 (b + 42) := by rcases h with rfl <;> exact ⟨by decide, rfl, rfl, by decide, rfl, rfl⟩
theorem aX10_53 {b : Nat} (h : isX10 b) : AI (b + 42) 72 0 300 := by rcases h with rfl <;> exact ⟨by decide, rfl, rfl, fun _ => ⟨rfl, rfl⟩⟩
theorem sX10_6 {b : Nat} (h : isX10 b) : SF b 10 6 (b + 6) := by rcases h with rfl <;> exact ⟨by decide, rfl, rfl, by decide, rfl, rfl⟩
theorem aX10_6 {b : Nat} (h : isX10 b) : AI (b + 6) 6 (-1) 5 := by rcases h with rfl <;> exact ⟨by decide, rfl, rfl, fun _ => ⟨rfl, rfl⟩⟩
theorem sX10_7 {b : Nat} (h : isX10 b) : SF b 10 7 (b + 7) := by rcases h with rfl <;> exact ⟨by decide, rfl, rfl, by decide, rfl, rfl⟩
theorem aX10_7 {b : Nat} (h : isX10 b) : AI (b + 7) 6 (-2147483648) 2147483647 := by rcases h with rfl <;> exact ⟨by decide, rfl, rfl, fun _ => ⟨rfl, rfl⟩⟩
theorem sX10_17 {b : Nat} (h : isX10 b) : SF b 10 17 (b + 17) := by rcases h with rfl <;> exact ⟨by decide, rfl, rfl, by decide, rfl, rfl⟩
theorem aX10_17 {b : Nat} (h : isX10 b) : AI (b + 17) 12 0 11 := by rcases h with rfl <;> exact ⟨by decide, rfl, rfl, fun _ => ⟨rfl, rfl⟩⟩
theorem sX10_14 {b : Nat} (h : isX10 b) : SF b 10 14 (b + 14) := by rcases h with rfl <;> exact ⟨by decide, rfl, rfl, by decide, rfl, rfl⟩
theorem aX10_14 {b : Nat} (h : isX10 b) : AI (b + 14) 12 (-2147483648) 2147483647 := by rcases h with rfl <;> exact ⟨by decide, rfl, rfl, fun _ => ⟨rfl, rfl⟩⟩
