theorem wd_1139 : (Cond.fieldLink RX10 19 "RaftForestModel" "price" "[I" : Cond) ∈ wsB := wt5 (List.mem_of_getElem? (i := 179) rfl) rfl
theorem wd_1140 : (Cond.fieldLink RX10 22 "RaftForestModel" "villageBend" "[I" : Cond) ∈ wsB := wt5 (List.mem_of_getElem? (i := 180) rfl) rfl
theorem wd_1144 : (Cond.fieldLink RX10 34 "RaftForestModel" "wood" "[I" : Cond) ∈ wsB := wt5 (List.mem_of_getElem? (i := 184) rfl) rfl
theorem wd_1145 : (Cond.fieldLink RX10 37 "RaftForestModel" "length" "[I" : Cond) ∈ wsB := wt5 (List.mem_of_getElem? (i := 185) rfl) rfl
theorem wd_1146 : (Cond.fieldLink RX10 40 "RaftForestModel" "logRings" "[I" : Cond) ∈ wsB := wt5 (List.mem_of_getElem? (i := 186) rfl) rfl
theorem wd_1192 : (Cond.fieldLink RX10 150 "RaftForestModel" "asked" "[J" : Cond) ∈ wsB := wt5 (List.mem_of_getElem? (i := 232) rfl) rfl
theorem wd_1567 : (Cond.methodLink RX10 419 yX10_isVillage : Cond) ∈ wsB := wt7 (List.mem_of_getElem? (i := 127) rfl) rfl
theorem wd_1569 : (Cond.instanceMethod yX10_isVillage : Cond) ∈ wsB := wt7 (List.mem_of_getElem? (i := 129) rfl) rfl
theorem wd_1570 : (Cond.code yX10_isVillage cX10_isVillage 2 (some .boolean) : Cond) ∈ wsB := wt7 (List.mem_of_getElem? (i := 130) rfl) rfl
theorem wd_1580 : (Cond.methodLink RX10 467 yX10_isBend : Cond) ∈ wsB := wt7 (List.mem_of_getElem? (i := 140) rfl) rfl
theorem wd_1582 : (Cond.instanceMethod yX10_isBend : Cond) ∈ wsB := wt7 (List.mem_of_getElem? (i := 142) rfl) rfl
theorem wd_1583 : (Cond.code yX10_isBend cX10_isBend 2 (some .boolean) : Cond) ∈ wsB := wt7 (List.mem_of_getElem? (i := 143) rfl) rfl
theorem wd_1588 : (Cond.methodLink RX10 470 yX10_roomAt : Cond) ∈ wsB := wt7 (List.mem_of_getElem? (i := 148) rfl) rfl
theorem wd_1590 : (Cond.instanceMethod yX10_roomAt : Cond) ∈ wsB := wt7 (List.mem_of_getElem? (i := 150) rfl) rfl
theorem wd_1591 : (Cond.code yX10_roomAt cX10_roomAt 3 (some .int) : Cond) ∈ wsB := wt7 (List.mem_of_getElem? (i := 151) rfl) rfl
theorem wd_1612 : (Cond.methodLink RX10 427 yX10_firstOf : Cond) ∈ wsB := wt7 (List.mem_of_getElem? (i := 172) rfl) rfl
theorem wd_1614 : (Cond.instanceMethod yX10_firstOf : Cond) ∈ wsB := wt7 (List.mem_of_getElem? (i := 174) rfl) rfl
theorem wd_1615 : (Cond.code yX10_firstOf cX10_firstOf 2 (some .int) : Cond) ∈ wsB := wt7 (List.mem_of_getElem? (i := 175) rfl) rfl
theorem wd_1616 : (Cond.methodLink RX10 430 yX10_lastOf : Cond) ∈ wsB := wt7 (List.mem_of_getElem? (i := 176) rfl) rfl
theorem wd_1618 : (Cond.instanceMethod yX10_lastOf : Cond) ∈ wsB := wt7 (List.mem_of_getElem? (i := 178) rfl) rfl
theorem wd_1619 : (Cond.code yX10_lastOf cX10_lastOf 2 (some .int) : Cond) ∈ wsB := wt7 (List.mem_of_getElem? (i := 179) rfl) rfl
theorem wd_1624 : (Cond.methodLink RX10 448 yX10_notchesOf : Cond) ∈ wsB := wt7 (List.mem_of_getElem? (i := 184) rfl) rfl
theorem wd_1626 : (Cond.instanceMethod yX10_notchesOf : Cond) ∈ wsB := wt7 (List.mem_of_getElem? (i := 186) rfl) rfl
theorem wd_1627 : (Cond.code yX10_notchesOf cX10_notchesOf 5 (some .int) : Cond) ∈ wsB := wt7 (List.mem_of_getElem? (i := 187) rfl) rfl
theorem wd_1636 : (Cond.methodLink RX10 213 yX10_bendOf : Cond) ∈ wsB := wt7 (List.mem_of_getElem? (i := 196) rfl) rfl
theorem wd_1638 : (Cond.instanceMethod yX10_bendOf : Cond) ∈ wsB := wt7 (List.mem_of_getElem? (i := 198) rfl) rfl
theorem wd_1639 : (Cond.code yX10_bendOf cX10_bendOf 2 (some .int) : Cond) ∈ wsB := wt7 (List.mem_of_getElem? (i := 199) rfl) rfl
theorem wd_1640 : (Cond.methodLink RX10 199 yX10_isInWater : Cond) ∈ wsB := wt7 (List.mem_of_getElem? (i := 200) rfl) rfl
theorem wd_1642 : (Cond.instanceMethod yX10_isInWater : Cond) ∈ wsB := wt7 (List.mem_of_getElem? (i := 202) rfl) rfl
theorem wd_1643 : (Cond.code yX10_isInWater cX10_isInWater 2 (some .boolean) : Cond) ∈ wsB := wt7 (List.mem_of_getElem? (i := 203) rfl) rfl
theorem wd_1644 : (Cond.methodLink RX10 203 yX10_isAshore : Cond) ∈ wsB := wt7 (List.mem_of_getElem? (i := 204) rfl) rfl
theorem wd_1646 : (Cond.instanceMethod yX10_isAshore : Cond) ∈ wsB := wt7 (List.mem_of_getElem? (i := 206) rfl) rfl
theorem wd_1647 : (Cond.code yX10_isAshore cX10_isAshore 2 (some .boolean) : Cond) ∈ wsB := wt7 (List.mem_of_getElem? (i := 207) rfl) rfl
theorem wd_1650 : (Cond.methodLink RX10 424 yX10_orNine : Cond) ∈ wsB := wt7 (List.mem_of_getElem? (i := 210) rfl) rfl
theorem wd_1651 : (Cond.static yX10_orNine : Cond) ∈ wsB := wt7 (List.mem_of_getElem? (i := 211) rfl) rfl
theorem wd_1652 : (Cond.code yX10_orNine cX10_orNine 1 (some .int) : Cond) ∈ wsB := wt7 (List.mem_of_getElem? (i := 212) rfl) rfl
theorem wd_1679 : (Cond.methodLink RX10 483 yX10_isLog : Cond) ∈ wsB := wt7 (List.mem_of_getElem? (i := 239) rfl) rfl
theorem wd_1681 : (Cond.instanceMethod yX10_isLog : Cond) ∈ wsB := wt8 (List.mem_of_getElem? (i := 1) rfl) rfl
theorem wd_1682 : (Cond.code yX10_isLog cX10_isLog 2 (some .boolean) : Cond) ∈ wsB := wt8 (List.mem_of_getElem? (i := 2) rfl) rfl
def Lwp_58 : List (Nat × Cond) := [(58, Cond.selects RX10 yX10_isVillage yX10_isVillage), (59, Cond.selects RX10 yX10_isBend yX10_isBend), (61, Cond.selects RX10 yX10_roomAt yX10_roomAt), (65, Cond.selects RX10 yX10_firstOf yX10_firstOf), (66, Cond.selects RX10 yX10_lastOf yX10_lastOf), (68, Cond.selects RX10 yX10_notchesOf yX10_notchesOf), (71, Cond.selects RX10 yX10_bendOf yX10_bendOf), (72, Cond.selects RX10 yX10_isInWater yX10_isInWater), (73, Cond.selects RX10 yX10_isAshore yX10_isAshore), (78, Cond.selects RX10 yX10_isLog yX10_isLog)]
set_option maxRecDepth 100000 in
theorem Lwp_58_ok : ∀ q ∈ Lwp_58, (k2_sels lw_privs)[q.1]? = some q.2 ∧ goodWord q.2 = true := by decide +kernel
theorem wp_58 : (Cond.selects RX10 yX10_isVillage yX10_isVillage : Cond) ∈ wsB := wpq Lwp_58_ok 0 rfl
theorem wp_59 : (Cond.selects RX10 yX10_isBend yX10_isBend : Cond) ∈ wsB := wpq Lwp_58_ok 1 rfl
theorem wp_61 : (Cond.selects RX10 yX10_roomAt yX10_roomAt : Cond) ∈ wsB := wpq Lwp_58_ok 2 rfl
theorem wp_65 : (Cond.selects RX10 yX10_firstOf yX10_firstOf : Cond) ∈ wsB := wpq Lwp_58_ok 3 rfl
theorem wp_66 : (Cond.selects RX10 yX10_lastOf yX10_lastOf : Cond) ∈ wsB := wpq Lwp_58_ok 4 rfl
theorem wp_68 : (Cond.selects RX10 yX10_notchesOf yX10_notchesOf : Cond) ∈ wsB := wpq Lwp_58_ok 5 rfl
theorem wp_71 : (Cond.selects RX10 yX10_bendOf yX10_bendOf : Cond) ∈ wsB := wpq Lwp_58_ok 6 rfl
theorem wp_72 : (Cond.selects RX10 yX10_isInWater yX10_isInWater : Cond) ∈ wsB := wpq Lwp_58_ok 7 rfl
theorem wp_73 : (Cond.selects RX10 yX10_isAshore yX10_isAshore : Cond) ∈ wsB := wpq Lwp_58_ok 8 rfl
theorem wp_78 : (Cond.selects RX10 yX10_isLog yX10_isLog : Cond) ∈ wsB := wpq Lwp_58_ok 9 rfl
theorem mlX10_199 : LV RX10 199 yX10_isInWater cX10_isInWater 2 (some .boolean) 1 := ⟨wd_1640, wd_1642, wp_72, wd_11, wd_1643, ⟨by decide, by decide, by decide +kernel⟩⟩
theorem mlX10_203 : LV RX10 203 yX10_isAshore cX10_isAshore 2 (some .boolean) 1 := ⟨wd_1644, wd_1646, wp_73, wd_11, wd_1647, ⟨by decide, by decide, by decide +kernel⟩⟩
theorem glX10_22 : FL RX10 22 10 5 := ⟨RX10, TX10, 80, rfl, inlX10, by decide, wd_1140⟩
theorem glX10_37 : FL RX10 37 10 10 := ⟨RX10, TX10, 80, rfl, inlX10, by decide, wd_1145⟩
theorem glX10_19 : FL RX10 19 10 4 := ⟨RX10, TX10, 80, rfl, inlX10, by decide, wd_1139⟩
theorem glX10_34 : FL RX10 34 10 9 := ⟨RX10, TX10, 80, rfl, inlX10, by decide, wd_1144⟩
theorem mlX10_213 : LV RX10 213 yX10_bendOf cX10_bendOf 2 (some .int) 1 := ⟨wd_1636, wd_1638, wp_71, wd_11, wd_1639, ⟨by decide, by decide, by decide +kernel⟩⟩
theorem mlX10_467 : LV RX10 467 yX10_isBend cX10_isBend 2 (some .boolean) 1 := ⟨wd_1580, wd_1582, wp_59, wd_11, wd_1583, ⟨by decide, by decide, by decide +kernel⟩⟩
theorem mlX10_470 : LV RX10 470 yX10_roomAt cX10_roomAt 3 (some .int) 1 := ⟨wd_1588, wd_1590, wp_61, wd_11, wd_1591, ⟨by decide, by decide, by decide +kernel⟩⟩
theorem mlX10_448 : LV RX10 448 yX10_notchesOf cX10_notchesOf 5 (some .int) 2 := ⟨wd_1624, wd_1626, wp_68, wd_11, wd_1627, ⟨by decide, by decide, by decide +kernel⟩⟩
theorem glX10_150 : FL RX10 150 10 57 := ⟨RX10, TX10, 80, rfl, inlX10, by decide, wd_1192⟩
theorem glX10_40 : FL RX10 40 10 11 := ⟨RX10, TX10, 80, rfl, inlX10, by decide, wd_1146⟩
theorem mlX10_424 : LT RX10 424 yX10_orNine cX10_orNine 1 (some .int) 1 := ⟨wd_1650, wd_1651, wd_11, wd_1652, ⟨by decide, by decide, by decide +kernel⟩⟩
theorem mlX10_427 : LV RX10 427 yX10_firstOf cX10_firstOf 2 (some .int) 1 := ⟨wd_1612, wd_1614, wp_65, wd_11, wd_1615, ⟨by decide, by decide, by decide +kernel⟩⟩
theorem mlX10_430 : LV RX10 430 yX10_lastOf cX10_lastOf 2 (some .int) 1 := ⟨wd_1616, wd_1618, wp_66, wd_11, wd_1619, ⟨by decide, by decide, by decide +kernel⟩⟩
theorem mlX10_483 : LV RX10 483 yX10_isLog cX10_isLog 2 (some .boolean) 1 := ⟨wd_1679, wd_1681, wp_78, wd_11, wd_1682, ⟨by decide, by decide, by decide +kernel⟩⟩
theorem mlX10_419 : LV RX10 419 yX10_isVillage cX10_isVillage 2 (some .boolean) 1 := ⟨wd_1567, wd_1569, wp_58, wd_11, wd_1570, ⟨by decide, by decide, by decide +kernel⟩⟩
theorem sX10_5 {b : Nat} (h : isX10 b) : SF b 10 5 (b + 5) := by rcases h with rfl <;> exact ⟨by decide, rfl, rfl, by decide, rfl, rfl⟩
theorem aX10_5 {b : Nat} (h : isX10 b) : AI (b + 5) 6 (-2147483648) 2147483647 := by rcases h with rfl <;> exact ⟨by decide, rfl, rfl, fun _ => ⟨rfl, rfl⟩⟩
theorem sX10_10 {b : Nat} (h : isX10 b) : SF b 10 10 (b + 10) := by rcases h with rfl <;> exact ⟨by decide, rfl, rfl, by decide, rfl, rfl⟩
theorem aX10_10 {b : Nat} (h : isX10 b) : AI (b + 10) 12 (-2147483648) 2147483647 := by rcases h with rfl <;> exact ⟨by decide, rfl, rfl, fun _ => ⟨rfl, rfl⟩⟩
theorem sX10_4 {b : Nat} (h : isX10 b) : SF b 10 4 (b + 4) := by rcases h with rfl <;> exact ⟨by decide, rfl, rfl, by decide, rfl, rfl⟩
theorem aX10_4 {b : Nat} (h : isX10 b) : AI (b + 4) 4 (-2147483648) 2147483647 := by rcases h with rfl <;> exact ⟨by decide, rfl, rfl, fun _ => ⟨rfl, rfl⟩⟩
theorem sX10_9 {b : Nat} (h : isX10 b) : SF b 10 9 (b + 9) := by rcases h with rfl <;> exact ⟨by decide, rfl, rfl, by decide, rfl, rfl⟩
theorem aX10_9 {b : Nat} (h : isX10 b) : AI (b + 9) 12 (-2147483648) 2147483647 := by rcases h with rfl <;> exact ⟨by decide, rfl, rfl, fun _ => ⟨rfl, rfl⟩⟩
theorem sX10_57 {b : Nat} (h : isX10 b) : SF b 10 57 (b + 46) := by rcases h with rfl <;> exact ⟨by decide, rfl, rfl, by decide, rfl, rfl⟩
theorem aX10_57 {b : Nat} (h : isX10 b) : AK (b + 46) 1 13 := by rcases h with rfl <;> exact ⟨by decide, rfl, rfl⟩
theorem sX10_11 {b : Nat} (h : isX10 b) : SF b 10 11 (b + 11) := by rcases h with rfl <;> exact ⟨by decide, rfl, rfl, by decide, rfl, rfl⟩
theorem aX10_11 {b : Nat} (h : isX10 b) : AI (b + 11) 12 (-2147483648) 2147483647 := by rcases h with rfl <;> exact ⟨by decide, rfl, rfl, fun _ => ⟨rfl, rfl⟩⟩
