theorem wd_6 : (Cond.initialized RX4 : Cond) ∈ wsB := wt1 (List.mem_of_getElem? (i := 6) rfl) rfl
theorem wd_8 : (Cond.initialized RX6 : Cond) ∈ wsB := wt1 (List.mem_of_getElem? (i := 8) rfl) rfl
theorem wd_18 : (Cond.initialized RJ10 : Cond) ∈ wsB := wt1 (List.mem_of_getElem? (i := 18) rfl) rfl
theorem wd_112 : (Cond.fieldLink RX8 190 "RaftForest$River" "logRings" "[I" : Cond) ∈ wsB := wt1 (List.mem_of_getElem? (i := 112) rfl) rfl
theorem wd_172 : (Cond.fieldLink RX4 9 "RaftForest$Rule" "steps" "[I" : Cond) ∈ wsB := wt1 (List.mem_of_getElem? (i := 172) rfl) rfl
theorem wd_173 : (Cond.fieldLink RX4 19 "RaftForest$Rule" "size" "I" : Cond) ∈ wsB := wt1 (List.mem_of_getElem? (i := 173) rfl) rfl
theorem wd_174 : (Cond.fieldLink RX4 23 "RaftForest$Rule" "kinds" "I" : Cond) ∈ wsB := wt1 (List.mem_of_getElem? (i := 174) rfl) rfl
theorem wd_175 : (Cond.fieldLink RX4 26 "RaftForest$Rule" "words" "I" : Cond) ∈ wsB := wt1 (List.mem_of_getElem? (i := 175) rfl) rfl
theorem wd_176 : (Cond.fieldLink RX4 15 "RaftForest$Rule" "stack" "[J" : Cond) ∈ wsB := wt1 (List.mem_of_getElem? (i := 176) rfl) rfl
theorem wd_177 : (Cond.fieldLink RX4 35 "RaftForest$Rule" "sum" "J" : Cond) ∈ wsB := wt1 (List.mem_of_getElem? (i := 177) rfl) rfl
theorem wd_178 : (Cond.fieldLink RX8 139 "RaftForest$Rule" "sum" "J" : Cond) ∈ wsB := wt1 (List.mem_of_getElem? (i := 178) rfl) rfl
theorem wd_212 : (Cond.fieldLink RX8 195 "RaftForest$State" "water" "I" : Cond) ∈ wsB := wt1 (List.mem_of_getElem? (i := 212) rfl) rfl
theorem wd_219 : (Cond.fieldLink RX8 117 "RaftForest$State" "law" "I" : Cond) ∈ wsB := wt1 (List.mem_of_getElem? (i := 219) rfl) rfl
theorem wd_222 : (Cond.fieldLink RX8 126 "RaftForest$State" "lawRule" "I" : Cond) ∈ wsB := wt1 (List.mem_of_getElem? (i := 222) rfl) rfl
theorem wd_321 : (Cond.fieldLink RX8 102 "RaftForest$Books" "keptPlaces" "[I" : Cond) ∈ wsB := wt2 (List.mem_of_getElem? (i := 81) rfl) rfl
theorem wd_363 : (Cond.fieldLink RX8 21 "RaftForest$World" "books" "LRaftForest$Books;" : Cond) ∈ wsB := wt2 (List.mem_of_getElem? (i := 123) rfl) rfl
theorem wd_368 : (Cond.fieldLink RX8 43 "RaftForest$World" "rules" "[LRaftForest$Rule;" : Cond) ∈ wsB := wt2 (List.mem_of_getElem? (i := 128) rfl) rfl
theorem wd_369 : (Cond.fieldLink RX8 29 "RaftForest$World" "words" "[J" : Cond) ∈ wsB := wt2 (List.mem_of_getElem? (i := 129) rfl) rfl
theorem wd_576 : (Cond.methodLink RX9 370 Lib.Math.min.name : Cond) ∈ wsB := wt3 (List.mem_of_getElem? (i := 96) rfl) rfl
theorem wd_579 : (Cond.methodLink RX9 315 arraycopyName : Cond) ∈ wsB := wt3 (List.mem_of_getElem? (i := 99) rfl) rfl
theorem wd_580 : (Cond.static arraycopyName : Cond) ∈ wsB := wt3 (List.mem_of_getElem? (i := 100) rfl) rfl
theorem wd_581 : (Cond.native arraycopyName : Cond) ∈ wsB := wt3 (List.mem_of_getElem? (i := 101) rfl) rfl
theorem wd_706 : (Cond.instanceMethod yX8_roomAt : Cond) ∈ wsB := wt3 (List.mem_of_getElem? (i := 226) rfl) rfl
theorem wd_707 : (Cond.selects RX8 yX8_roomAt yX8_roomAt : Cond) ∈ wsB := wt3 (List.mem_of_getElem? (i := 227) rfl) rfl
theorem wd_708 : (Cond.code yX8_roomAt cX8_roomAt 2 (some .int) : Cond) ∈ wsB := wt3 (List.mem_of_getElem? (i := 228) rfl) rfl
theorem wd_728 : (Cond.methodLink RX8 146 yX6_isGone : Cond) ∈ wsB := wt4 (List.mem_of_getElem? (i := 8) rfl) rfl
theorem wd_729 : (Cond.instanceMethod yX6_isGone : Cond) ∈ wsB := wt4 (List.mem_of_getElem? (i := 9) rfl) rfl
theorem wd_730 : (Cond.selects RX6 yX6_isGone yX6_isGone : Cond) ∈ wsB := wt4 (List.mem_of_getElem? (i := 10) rfl) rfl
theorem wd_731 : (Cond.code yX6_isGone cX6_isGone 2 (some .boolean) : Cond) ∈ wsB := wt4 (List.mem_of_getElem? (i := 11) rfl) rfl
theorem wd_732 : (Cond.methodLink RX8 150 yX8_ownerOf : Cond) ∈ wsB := wt4 (List.mem_of_getElem? (i := 12) rfl) rfl
theorem wd_733 : (Cond.instanceMethod yX8_ownerOf : Cond) ∈ wsB := wt4 (List.mem_of_getElem? (i := 13) rfl) rfl
theorem wd_734 : (Cond.selects RX8 yX8_ownerOf yX8_ownerOf : Cond) ∈ wsB := wt4 (List.mem_of_getElem? (i := 14) rfl) rfl
theorem wd_735 : (Cond.code yX8_ownerOf cX8_ownerOf 10 (some .int) : Cond) ∈ wsB := wt4 (List.mem_of_getElem? (i := 15) rfl) rfl
theorem wd_736 : (Cond.methodLink RX8 120 yX6_notchAt : Cond) ∈ wsB := wt4 (List.mem_of_getElem? (i := 16) rfl) rfl
theorem wd_737 : (Cond.instanceMethod yX6_notchAt : Cond) ∈ wsB := wt4 (List.mem_of_getElem? (i := 17) rfl) rfl
theorem wd_738 : (Cond.selects RX6 yX6_notchAt yX6_notchAt : Cond) ∈ wsB := wt4 (List.mem_of_getElem? (i := 18) rfl) rfl
theorem wd_739 : (Cond.code yX6_notchAt cX6_notchAt 3 (some .int) : Cond) ∈ wsB := wt4 (List.mem_of_getElem? (i := 19) rfl) rfl
theorem wd_740 : (Cond.methodLink RX8 123 yX8_notchesOf : Cond) ∈ wsB := wt4 (List.mem_of_getElem? (i := 20) rfl) rfl
theorem wd_742 : (Cond.instanceMethod yX8_notchesOf : Cond) ∈ wsB := wt4 (List.mem_of_getElem? (i := 22) rfl) rfl
theorem wd_743 : (Cond.code yX8_notchesOf cX8_notchesOf 5 (some .int) : Cond) ∈ wsB := wt4 (List.mem_of_getElem? (i := 23) rfl) rfl
theorem wd_744 : (Cond.methodLink RX8 129 yX8_tellWords : Cond) ∈ wsB := wt4 (List.mem_of_getElem? (i := 24) rfl) rfl
theorem wd_746 : (Cond.instanceMethod yX8_tellWords : Cond) ∈ wsB := wt4 (List.mem_of_getElem? (i := 26) rfl) rfl
theorem wd_747 : (Cond.code yX8_tellWords cX8_tellWords 6 none : Cond) ∈ wsB := wt4 (List.mem_of_getElem? (i := 27) rfl) rfl
theorem wd_752 : (Cond.constantLong RX8 193 (9) : Cond) ∈ wsB := wt4 (List.mem_of_getElem? (i := 32) rfl) rfl
theorem wd_753 : (Cond.methodLink RX8 133 yX4_finds : Cond) ∈ wsB := wt4 (List.mem_of_getElem? (i := 33) rfl) rfl
theorem wd_754 : (Cond.instanceMethod yX4_finds : Cond) ∈ wsB := wt4 (List.mem_of_getElem? (i := 34) rfl) rfl
theorem wd_755 : (Cond.selects RX4 yX4_finds yX4_finds : Cond) ∈ wsB := wt4 (List.mem_of_getElem? (i := 35) rfl) rfl
theorem wd_756 : (Cond.code yX4_finds cX4_finds 7 (some .boolean) : Cond) ∈ wsB := wt4 (List.mem_of_getElem? (i := 36) rfl) rfl
theorem wd_757 : (Cond.constantLong RX4 33 (-1) : Cond) ∈ wsB := wt4 (List.mem_of_getElem? (i := 37) rfl) rfl
theorem wd_758 : (Cond.methodLink RX4 39 yX4_joined : Cond) ∈ wsB := wt4 (List.mem_of_getElem? (i := 38) rfl) rfl
theorem wd_759 : (Cond.static yX4_joined : Cond) ∈ wsB := wt4 (List.mem_of_getElem? (i := 39) rfl) rfl
theorem wd_760 : (Cond.code yX4_joined cX4_joined 5 (some .long) : Cond) ∈ wsB := wt4 (List.mem_of_getElem? (i := 40) rfl) rfl
theorem wd_858 : (Cond.methodLink RX8 171 yX8_ownersBetween : Cond) ∈ wsB := wt4 (List.mem_of_getElem? (i := 138) rfl) rfl
theorem wd_860 : (Cond.instanceMethod yX8_ownersBetween : Cond) ∈ wsB := wt4 (List.mem_of_getElem? (i := 140) rfl) rfl
theorem wd_861 : (Cond.code yX8_ownersBetween cX8_ownersBetween 6 (some .int) : Cond) ∈ wsB := wt4 (List.mem_of_getElem? (i := 141) rfl) rfl
theorem wd_885 : (Cond.methodLink RX8 174 yX4_hasKind : Cond) ∈ wsB := wt4 (List.mem_of_getElem? (i := 165) rfl) rfl
theorem wd_886 : (Cond.instanceMethod yX4_hasKind : Cond) ∈ wsB := wt4 (List.mem_of_getElem? (i := 166) rfl) rfl
theorem wd_887 : (Cond.selects RX4 yX4_hasKind yX4_hasKind : Cond) ∈ wsB := wt4 (List.mem_of_getElem? (i := 167) rfl) rfl
theorem wd_888 : (Cond.code yX4_hasKind cX4_hasKind 2 (some .boolean) : Cond) ∈ wsB := wt4 (List.mem_of_getElem? (i := 168) rfl) rfl
theorem wd_889 : (Cond.methodLink RX8 177 yX4_hasWord : Cond) ∈ wsB := wt4 (List.mem_of_getElem? (i := 169) rfl) rfl
theorem wd_890 : (Cond.instanceMethod yX4_hasWord : Cond) ∈ wsB := wt4 (List.mem_of_getElem? (i := 170) rfl) rfl
theorem wd_891 : (Cond.selects RX4 yX4_hasWord yX4_hasWord : Cond) ∈ wsB := wt4 (List.mem_of_getElem? (i := 171) rfl) rfl
theorem wd_892 : (Cond.code yX4_hasWord cX4_hasWord 2 (some .boolean) : Cond) ∈ wsB := wt4 (List.mem_of_getElem? (i := 172) rfl) rfl
theorem wd_893 : (Cond.methodLink RX8 180 yX8_roomFor : Cond) ∈ wsB := wt4 (List.mem_of_getElem? (i := 173) rfl) rfl
theorem wd_895 : (Cond.instanceMethod yX8_roomFor : Cond) ∈ wsB := wt4 (List.mem_of_getElem? (i := 175) rfl) rfl
theorem wd_896 : (Cond.code yX8_roomFor cX8_roomFor 5 (some .int) : Cond) ∈ wsB := wt4 (List.mem_of_getElem? (i := 176) rfl) rfl
theorem wd_897 : (Cond.methodLink RX8 184 yX8_roomAt : Cond) ∈ wsB := wt4 (List.mem_of_getElem? (i := 177) rfl) rfl
theorem wd_898 : (Cond.methodLink RX8 187 yX6_isInWater : Cond) ∈ wsB := wt4 (List.mem_of_getElem? (i := 178) rfl) rfl
theorem wd_899 : (Cond.instanceMethod yX6_isInWater : Cond) ∈ wsB := wt4 (List.mem_of_getElem? (i := 179) rfl) rfl
theorem wd_900 : (Cond.selects RX6 yX6_isInWater yX6_isInWater : Cond) ∈ wsB := wt4 (List.mem_of_getElem? (i := 180) rfl) rfl
theorem wd_901 : (Cond.code yX6_isInWater cX6_isInWater 2 (some .boolean) : Cond) ∈ wsB := wt4 (List.mem_of_getElem? (i := 181) rfl) rfl
theorem wd_1007 : (Cond.instanceMethod yX8_placeAgo : Cond) ∈ wsB := wt5 (List.mem_of_getElem? (i := 47) rfl) rfl
theorem wd_1008 : (Cond.selects RX8 yX8_placeAgo yX8_placeAgo : Cond) ∈ wsB := wt5 (List.mem_of_getElem? (i := 48) rfl) rfl
theorem wd_1009 : (Cond.code yX8_placeAgo cX8_placeAgo 3 (some .int) : Cond) ∈ wsB := wt5 (List.mem_of_getElem? (i := 49) rfl) rfl
theorem wd_1010 : (Cond.methodLink RX8 105 yJ9_floorMod_7cf53 : Cond) ∈ wsB := wt5 (List.mem_of_getElem? (i := 50) rfl) rfl
theorem wd_1011 : (Cond.static yJ9_floorMod_7cf53 : Cond) ∈ wsB := wt5 (List.mem_of_getElem? (i := 51) rfl) rfl
theorem wd_1012 : (Cond.code yJ9_floorMod_7cf53 cJ9_floorMod_7cf53 3 (some .int) : Cond) ∈ wsB := wt5 (List.mem_of_getElem? (i := 52) rfl) rfl
theorem wd_1025 : (Cond.methodLink RX8 108 yX8_placeAgo : Cond) ∈ wsB := wt5 (List.mem_of_getElem? (i := 65) rfl) rfl
theorem wd_1026 : (Cond.methodLink RX8 111 yX8_villagesAt : Cond) ∈ wsB := wt5 (List.mem_of_getElem? (i := 66) rfl) rfl
theorem wd_1027 : (Cond.instanceMethod yX8_villagesAt : Cond) ∈ wsB := wt5 (List.mem_of_getElem? (i := 67) rfl) rfl
theorem wd_1028 : (Cond.selects RX8 yX8_villagesAt yX8_villagesAt : Cond) ∈ wsB := wt5 (List.mem_of_getElem? (i := 68) rfl) rfl
theorem wd_1029 : (Cond.code yX8_villagesAt cX8_villagesAt 4 (some .int) : Cond) ∈ wsB := wt5 (List.mem_of_getElem? (i := 69) rfl) rfl
def Lwp_13 : List (Nat × Cond) := [(13, Cond.selects RX8 yX8_notchesOf yX8_notchesOf), (14, Cond.selects RX8 yX8_tellWords yX8_tellWords), (16, Cond.selects RX8 yX8_ownersBetween yX8_ownersBetween), (18, Cond.selects RX8 yX8_roomFor yX8_roomFor)]
set_option maxRecDepth 100000 in
theorem Lwp_13_ok : ∀ q ∈ Lwp_13, (k2_sels lw_privs)[q.1]? = some q.2 ∧ goodWord q.2 = true := by decide +kernel
theorem wp_13 : (Cond.selects RX8 yX8_notchesOf yX8_notchesOf : Cond) ∈ wsB := wpq Lwp_13_ok 0 rfl
theorem wp_14 : (Cond.selects RX8 yX8_tellWords yX8_tellWords : Cond) ∈ wsB := wpq Lwp_13_ok 1 rfl
theorem wp_16 : (Cond.selects RX8 yX8_ownersBetween yX8_ownersBetween : Cond) ∈ wsB := wpq Lwp_13_ok 2 rfl
theorem wp_18 : (Cond.selects RX8 yX8_roomFor yX8_roomFor : Cond) ∈ wsB := wpq Lwp_13_ok 3 rfl
theorem glX8_21 : FL RX8 21 8 2 := ⟨RX8, TX8, 9, rfl, inlX8, by decide, wd_363⟩
theorem glX8_102 : FL RX8 102 0 16 := ⟨RX0, TX0, 17, rfl, inlX0, by decide, wd_321⟩
theorem mlX8_105 : LT RX8 105 yJ9_floorMod_7cf53 cJ9_floorMod_7cf53 3 (some .int) 2 := ⟨wd_1010, wd_1011, wd_17, wd_1012, ⟨by decide, by decide, by decide +kernel⟩⟩
theorem mlX8_108 : LV RX8 108 yX8_placeAgo cX8_placeAgo 3 (some .int) 2 := ⟨wd_1025, wd_1007, wd_1008, wd_7, wd_1009, ⟨by decide, by decide, by decide +kernel⟩⟩
theorem mlX8_111 : LV RX8 111 yX8_villagesAt cX8_villagesAt 4 (some .int) 1 := ⟨wd_1026, wd_1027, wd_1028, wd_7, wd_1029, ⟨by decide, by decide, by decide +kernel⟩⟩
theorem glX4_23 : FL RX4 23 4 2 := ⟨RX4, TX4, 6, rfl, inlX4, by decide, wd_174⟩
theorem glX4_26 : FL RX4 26 4 3 := ⟨RX4, TX4, 6, rfl, inlX4, by decide, wd_175⟩
theorem glX4_19 : FL RX4 19 4 1 := ⟨RX4, TX4, 6, rfl, inlX4, by decide, wd_173⟩
theorem glX4_9 : FL RX4 9 4 0 := ⟨RX4, TX4, 6, rfl, inlX4, by decide, wd_172⟩
theorem glX4_15 : FL RX4 15 4 4 := ⟨RX4, TX4, 6, rfl, inlX4, by decide, wd_176⟩
theorem plX4_35 : FP RX4 35 4 5 .long := ⟨RX4, TX4, 6, rfl, inlX4, by decide, wd_177, rfl, by decide +kernel, tyX4, tyX4_ok, nmX4⟩
theorem mlX4_39 : LT RX4 39 yX4_joined cX4_joined 5 (some .long) 3 := ⟨wd_758, wd_759, wd_6, wd_760, ⟨by decide, by decide, by decide +kernel⟩⟩
theorem mlX8_187 : LV RX8 187 yX6_isInWater cX6_isInWater 2 (some .boolean) 1 := ⟨wd_898, wd_899, wd_900, wd_8, wd_901, ⟨by decide, by decide, by decide +kernel⟩⟩
theorem mlX8_184 : LV RX8 184 yX8_roomAt cX8_roomAt 2 (some .int) 1 := ⟨wd_897, wd_706, wd_707, wd_7, wd_708, ⟨by decide, by decide, by decide +kernel⟩⟩
theorem glX8_29 : FL RX8 29 8 5 := ⟨RX8, TX8, 9, rfl, inlX8, by decide, wd_369⟩
theorem glX8_190 : FL RX8 190 2 10 := ⟨RX2, TX2, 12, rfl, inlX2, by decide, wd_112⟩
theorem glX8_195 : FL RX8 195 6 1 := ⟨RX6, TX6, 15, rfl, inlX6, by decide, wd_212⟩
theorem glX8_117 : FL RX8 117 6 3 := ⟨RX6, TX6, 15, rfl, inlX6, by decide, wd_219⟩
theorem mlX8_120 : LV RX8 120 yX6_notchAt cX6_notchAt 3 (some .int) 2 := ⟨wd_736, wd_737, wd_738, wd_8, wd_739, ⟨by decide, by decide, by decide +kernel⟩⟩
theorem mlX8_123 : LV RX8 123 yX8_notchesOf cX8_notchesOf 5 (some .int) 2 := ⟨wd_740, wd_742, wp_13, wd_7, wd_743, ⟨by decide, by decide, by decide +kernel⟩⟩
theorem glX8_43 : FL RX8 43 8 4 := ⟨RX8, TX8, 9, rfl, inlX8, by decide, wd_368⟩
theorem glX8_126 : FL RX8 126 6 4 := ⟨RX6, TX6, 15, rfl, inlX6, by decide, wd_222⟩
theorem mlX8_129 : LV RX8 129 yX8_tellWords cX8_tellWords 6 none 4 := ⟨wd_744, wd_746, wp_14, wd_7, wd_747, ⟨by decide, by decide, by decide +kernel⟩⟩
theorem mlX8_133 : LV RX8 133 yX4_finds cX4_finds 7 (some .boolean) 2 := ⟨wd_753, wd_754, wd_755, wd_6, wd_756, ⟨by decide, by decide, by decide +kernel⟩⟩
theorem glX8_139 : FL RX8 139 4 5 := ⟨RX4, TX4, 6, rfl, inlX4, by decide, wd_178⟩
theorem mlX8_146 : LV RX8 146 yX6_isGone cX6_isGone 2 (some .boolean) 1 := ⟨wd_728, wd_729, wd_730, wd_8, wd_731, ⟨by decide, by decide, by decide +kernel⟩⟩
theorem mlX8_150 : LV RX8 150 yX8_ownerOf cX8_ownerOf 10 (some .int) 1 := ⟨wd_732, wd_733, wd_734, wd_7, wd_735, ⟨by decide, by decide, by decide +kernel⟩⟩
theorem mlX8_171 : LV RX8 171 yX8_ownersBetween cX8_ownersBetween 6 (some .int) 2 := ⟨wd_858, wd_860, wp_16, wd_7, wd_861, ⟨by decide, by decide, by decide +kernel⟩⟩
theorem mlX8_174 : LV RX8 174 yX4_hasKind cX4_hasKind 2 (some .boolean) 1 := ⟨wd_885, wd_886, wd_887, wd_6, wd_888, ⟨by decide, by decide, by decide +kernel⟩⟩
theorem mlX8_177 : LV RX8 177 yX4_hasWord cX4_hasWord 2 (some .boolean) 1 := ⟨wd_889, wd_890, wd_891, wd_6, wd_892, ⟨by decide, by decide, by decide +kernel⟩⟩
theorem mlX8_180 : LV RX8 180 yX8_roomFor cX8_roomFor 5 (some .int) 3 := ⟨wd_893, wd_895, wp_18, wd_7, wd_896, ⟨by decide, by decide, by decide +kernel⟩⟩
theorem iX8_2 {b : Nat} (h : isX8 b) : isX0 (b + 11) := by rcases h with rfl | rfl <;> decide
theorem sX8_2 {b : Nat} (h : isX8 b) : SF b 8 2 (b + 11) := by rcases h with rfl | rfl <;> exact ⟨by decide, rfl, rfl, by decide, rfl, rfl⟩
theorem sX0_16 {b : Nat} (h : isX0 b) : SF b 0 16 (b + 12) := by rcases h with rfl | rfl | rfl | rfl | rfl | rfl <;> exact ⟨by decide, rfl, rfl, by decide, rfl, rfl⟩
theorem aX0_16 {b : Nat} (h : isX0 b) : AI (b + 12) 360 (-2147483648) 2147483647 := by rcases h with rfl | rfl | rfl | rfl | rfl | rfl <;> exact ⟨by decide, rfl, rfl, fun _ => ⟨rfl, rfl⟩⟩
theorem sX4_2 {b : Nat} (h : isX4 b) : SI b 4 2 (-2147483648) 2147483647 := by rcases h with rfl | rfl | rfl | rfl | rfl | rfl <;> exact ⟨by decide, rfl, rfl, by decide, rfl, rfl, rfl⟩
theorem sX4_3 {b : Nat} (h : isX4 b) : SI b 4 3 (-2147483648) 2147483647 := by rcases h with rfl | rfl | rfl | rfl | rfl | rfl <;> exact ⟨by decide, rfl, rfl, by decide, rfl, rfl, rfl⟩
theorem sX4_1 {b : Nat} (h : isX4 b) : SI b 4 1 0 400 := by rcases h with rfl | rfl | rfl | rfl | rfl | rfl <;> exact ⟨by decide, rfl, rfl, by decide, rfl, rfl, rfl⟩
theorem sX4_0 {b : Nat} (h : isX4 b) : SF b 4 0 (b + 1) := by rcases h with rfl | rfl | rfl | rfl | rfl | rfl <;> exact ⟨by decide, rfl, rfl, by decide, rfl, rfl⟩
theorem aX4_0 {b : Nat} (h : isX4 b) : AI (b + 1) 400 (-2147483648) 2147483647 := by rcases h with rfl | rfl | rfl | rfl | rfl | rfl <;> exact ⟨by decide, rfl, rfl, fun _ => ⟨rfl, rfl⟩⟩
theorem sX4_4 {b : Nat} (h : isX4 b) : SF b 4 4 (b + 2) := by rcases h with rfl | rfl | rfl | rfl | rfl | rfl <;> exact ⟨by decide, rfl, rfl, by decide, rfl, rfl⟩
theorem aX4_4 {b : Nat} (h : isX4 b) : AK (b + 2) 1 60 := by rcases h with rfl | rfl | rfl | rfl | rfl | rfl <;> exact ⟨by decide, rfl, rfl⟩
theorem sX4_5 {b : Nat} (h : isX4 b) : SJ b 4 5 := by rcases h with rfl | rfl | rfl | rfl | rfl | rfl <;> exact ⟨by decide, rfl, rfl, by decide, rfl⟩
theorem obX6 {b : Nat} (h : isX6 b) : OB b RX6 := by rcases h with rfl | rfl | rfl | rfl | rfl | rfl <;> exact ⟨by decide, rfl, _, _, rfl⟩
theorem sX8_5 {b : Nat} (h : isX8 b) : SF b 8 5 (b + 25) := by rcases h with rfl | rfl <;> exact ⟨by decide, rfl, rfl, by decide, rfl, rfl⟩
theorem aX8_5 {b : Nat} (h : isX8 b) : AK (b + 25) 1 13 := by rcases h with rfl | rfl <;> exact ⟨by decide, rfl, rfl⟩
theorem sX2_10 {b : Nat} (h : isX2 b) : SF b 2 10 (b + 6) := by rcases h with rfl | rfl | rfl | rfl | rfl | rfl <;> exact ⟨by decide, rfl, rfl, by decide, rfl, rfl⟩
theorem aX2_10 {b : Nat} (h : isX2 b) : AI (b + 6) 12 (-1) 99 := by rcases h with rfl | rfl | rfl | rfl | rfl | rfl <;> exact ⟨by decide, rfl, rfl, fun _ => ⟨rfl, rfl⟩⟩
theorem sX6_1 {b : Nat} (h : isX6 b) : SI b 6 1 (-2147483648) 2147483647 := by rcases h with rfl | rfl | rfl | rfl | rfl | rfl <;> exact ⟨by decide, rfl, rfl, by decide, rfl, rfl, rfl⟩
theorem sX6_3 {b : Nat} (h : isX6 b) : SI b 6 3 0 3 := by rcases h with rfl | rfl | rfl | rfl | rfl | rfl <;> exact ⟨by decide, rfl, rfl, by decide, rfl, rfl, rfl⟩
theorem sX8_4 {b : Nat} (h : isX8 b) : SF b 8 4 (1) := by rcases h with rfl | rfl <;> exact ⟨by decide, rfl, rfl, by decide, rfl, rfl⟩
theorem aX8_4 {b : Nat} (h : isX8 b) : AK (1) 3 6 := by rcases h with rfl | rfl <;> exact ⟨by decide, rfl, rfl⟩
theorem sX6_4 {b : Nat} (h : isX6 b) : SI b 6 4 0 5 := by rcases h with rfl | rfl | rfl | rfl | rfl | rfl <;> exact ⟨by decide, rfl, rfl, by decide, rfl, rfl, rfl⟩
theorem obX4 {b : Nat} (h : isX4 b) : OB b RX4 := by rcases h with rfl | rfl | rfl | rfl | rfl | rfl <;> exact ⟨by decide, rfl, _, _, rfl⟩
