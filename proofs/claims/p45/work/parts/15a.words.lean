theorem wd_74 : (Cond.fieldLink RX9 400 "RaftForest$River" "bends" "I" : Cond) ∈ wsB := wt1 (List.mem_of_getElem? (i := 74) rfl) rfl
theorem wd_78 : (Cond.fieldLink RX9 378 "RaftForest$River" "villages" "I" : Cond) ∈ wsB := wt1 (List.mem_of_getElem? (i := 78) rfl) rfl
theorem wd_86 : (Cond.fieldLink RX9 117 "RaftForest$River" "logs" "I" : Cond) ∈ wsB := wt1 (List.mem_of_getElem? (i := 86) rfl) rfl
theorem wd_94 : (Cond.fieldLink RX9 168 "RaftForest$River" "villageBends" "[I" : Cond) ∈ wsB := wt1 (List.mem_of_getElem? (i := 94) rfl) rfl
theorem wd_98 : (Cond.fieldLink RX9 154 "RaftForest$River" "widths" "[I" : Cond) ∈ wsB := wt1 (List.mem_of_getElem? (i := 98) rfl) rfl
theorem wd_104 : (Cond.fieldLink RX9 183 "RaftForest$River" "logWoods" "[I" : Cond) ∈ wsB := wt1 (List.mem_of_getElem? (i := 104) rfl) rfl
theorem wd_111 : (Cond.fieldLink RX9 189 "RaftForest$River" "logRings" "[I" : Cond) ∈ wsB := wt1 (List.mem_of_getElem? (i := 111) rfl) rfl
theorem wd_225 : (Cond.fieldLink RX9 139 "RaftForest$State" "villageRules" "[I" : Cond) ∈ wsB := wt1 (List.mem_of_getElem? (i := 225) rfl) rfl
theorem wd_229 : (Cond.fieldLink RX9 157 "RaftForest$State" "dams" "[I" : Cond) ∈ wsB := wt1 (List.mem_of_getElem? (i := 229) rfl) rfl
theorem wd_232 : (Cond.fieldLink RX9 192 "RaftForest$State" "places" "[I" : Cond) ∈ wsB := wt1 (List.mem_of_getElem? (i := 232) rfl) rfl
theorem wd_235 : (Cond.fieldLink RX9 186 "RaftForest$State" "lengths" "[I" : Cond) ∈ wsB := wt1 (List.mem_of_getElem? (i := 235) rfl) rfl
theorem wd_238 : (Cond.fieldLink RX9 204 "RaftForest$State" "jams" "[I" : Cond) ∈ wsB := wt1 (List.mem_of_getElem? (i := 238) rfl) rfl
theorem wd_241 : (Cond.fieldLink RX9 207 "RaftForest$State" "jamDays" "[I" : Cond) ∈ wsB := wt2 (List.mem_of_getElem? (i := 1) rfl) rfl
theorem wd_244 : (Cond.fieldLink RX9 263 "RaftForest$State" "order" "[I" : Cond) ∈ wsB := wt2 (List.mem_of_getElem? (i := 4) rfl) rfl
theorem wd_248 : (Cond.fieldLink RX9 195 "RaftForest$State" "notchCounts" "[I" : Cond) ∈ wsB := wt2 (List.mem_of_getElem? (i := 8) rfl) rfl
theorem wd_251 : (Cond.fieldLink RX9 232 "RaftForest$State" "notches" "[I" : Cond) ∈ wsB := wt2 (List.mem_of_getElem? (i := 11) rfl) rfl
theorem wd_295 : (Cond.fieldLink RX9 171 "RaftForest$Books" "coins" "[I" : Cond) ∈ wsB := wt2 (List.mem_of_getElem? (i := 55) rfl) rfl
theorem wd_300 : (Cond.fieldLink RX9 287 "RaftForest$Books" "weddings" "I" : Cond) ∈ wsB := wt2 (List.mem_of_getElem? (i := 60) rfl) rfl
theorem wd_302 : (Cond.fieldLink RX9 290 "RaftForest$Books" "beams" "[I" : Cond) ∈ wsB := wt2 (List.mem_of_getElem? (i := 62) rfl) rfl
theorem wd_311 : (Cond.fieldLink RX9 235 "RaftForest$Books" "cutCount" "I" : Cond) ∈ wsB := wt2 (List.mem_of_getElem? (i := 71) rfl) rfl
theorem wd_313 : (Cond.fieldLink RX9 238 "RaftForest$Books" "cutLogs" "[I" : Cond) ∈ wsB := wt2 (List.mem_of_getElem? (i := 73) rfl) rfl
theorem wd_315 : (Cond.fieldLink RX9 241 "RaftForest$Books" "cutPlaces" "[I" : Cond) ∈ wsB := wt2 (List.mem_of_getElem? (i := 75) rfl) rfl
theorem wd_317 : (Cond.fieldLink RX9 247 "RaftForest$Books" "cutVillages" "[I" : Cond) ∈ wsB := wt2 (List.mem_of_getElem? (i := 77) rfl) rfl
theorem wd_319 : (Cond.fieldLink RX9 244 "RaftForest$Books" "cutBefore" "[I" : Cond) ∈ wsB := wt2 (List.mem_of_getElem? (i := 79) rfl) rfl
theorem wd_358 : (Cond.fieldLink RX9 51 "RaftForest$World" "river" "LRaftForest$River;" : Cond) ∈ wsB := wt2 (List.mem_of_getElem? (i := 118) rfl) rfl
theorem wd_362 : (Cond.fieldLink RX9 100 "RaftForest$World" "state" "LRaftForest$State;" : Cond) ∈ wsB := wt2 (List.mem_of_getElem? (i := 122) rfl) rfl
theorem wd_365 : (Cond.fieldLink RX9 109 "RaftForest$World" "books" "LRaftForest$Books;" : Cond) ∈ wsB := wt2 (List.mem_of_getElem? (i := 125) rfl) rfl
theorem wd_367 : (Cond.fieldLink RX9 307 "RaftForest$World" "tally" "[I" : Cond) ∈ wsB := wt2 (List.mem_of_getElem? (i := 127) rfl) rfl
theorem wd_424 : (Cond.fieldLink RX9 47 "RaftForest" "now" "LRaftForest$World;" : Cond) ∈ wsB := wt2 (List.mem_of_getElem? (i := 184) rfl) rfl
theorem wd_425 : (Cond.fieldLink RX9 55 "RaftForest" "trial" "LRaftForest$World;" : Cond) ∈ wsB := wt2 (List.mem_of_getElem? (i := 185) rfl) rfl
theorem wd_669 : (Cond.methodLink RX9 126 yX9_hasRiver : Cond) ∈ wsB := wt3 (List.mem_of_getElem? (i := 189) rfl) rfl
theorem wd_671 : (Cond.instanceMethod yX9_hasRiver : Cond) ∈ wsB := wt3 (List.mem_of_getElem? (i := 191) rfl) rfl
theorem wd_672 : (Cond.code yX9_hasRiver cX9_hasRiver 1 (some .boolean) : Cond) ∈ wsB := wt3 (List.mem_of_getElem? (i := 192) rfl) rfl
theorem wd_685 : (Cond.methodLink RX9 136 yX9_isVillage : Cond) ∈ wsB := wt3 (List.mem_of_getElem? (i := 205) rfl) rfl
theorem wd_687 : (Cond.instanceMethod yX9_isVillage : Cond) ∈ wsB := wt3 (List.mem_of_getElem? (i := 207) rfl) rfl
theorem wd_688 : (Cond.code yX9_isVillage cX9_isVillage 2 (some .boolean) : Cond) ∈ wsB := wt3 (List.mem_of_getElem? (i := 208) rfl) rfl
theorem wd_697 : (Cond.methodLink RX9 151 yX9_isBend : Cond) ∈ wsB := wt3 (List.mem_of_getElem? (i := 217) rfl) rfl
theorem wd_699 : (Cond.instanceMethod yX9_isBend : Cond) ∈ wsB := wt3 (List.mem_of_getElem? (i := 219) rfl) rfl
theorem wd_700 : (Cond.code yX9_isBend cX9_isBend 2 (some .boolean) : Cond) ∈ wsB := wt3 (List.mem_of_getElem? (i := 220) rfl) rfl
theorem wd_701 : (Cond.methodLink RX9 160 yX8_logsAt : Cond) ∈ wsB := wt3 (List.mem_of_getElem? (i := 221) rfl) rfl
theorem wd_705 : (Cond.methodLink RX9 164 yX8_roomAt : Cond) ∈ wsB := wt3 (List.mem_of_getElem? (i := 225) rfl) rfl
theorem wd_723 : (Cond.constant RX9 167 (-1000000) : Cond) ∈ wsB := wt4 (List.mem_of_getElem? (i := 3) rfl) rfl
theorem wd_724 : (Cond.methodLink RX9 174 yX8_logsOf : Cond) ∈ wsB := wt4 (List.mem_of_getElem? (i := 4) rfl) rfl
theorem wd_725 : (Cond.instanceMethod yX8_logsOf : Cond) ∈ wsB := wt4 (List.mem_of_getElem? (i := 5) rfl) rfl
theorem wd_726 : (Cond.selects RX8 yX8_logsOf yX8_logsOf : Cond) ∈ wsB := wt4 (List.mem_of_getElem? (i := 6) rfl) rfl
theorem wd_727 : (Cond.code yX8_logsOf cX8_logsOf 4 (some .int) : Cond) ∈ wsB := wt4 (List.mem_of_getElem? (i := 7) rfl) rfl
theorem wd_761 : (Cond.methodLink RX9 177 yX0_net : Cond) ∈ wsB := wt4 (List.mem_of_getElem? (i := 41) rfl) rfl
theorem wd_762 : (Cond.instanceMethod yX0_net : Cond) ∈ wsB := wt4 (List.mem_of_getElem? (i := 42) rfl) rfl
theorem wd_763 : (Cond.selects RX0 yX0_net yX0_net : Cond) ∈ wsB := wt4 (List.mem_of_getElem? (i := 43) rfl) rfl
theorem wd_764 : (Cond.code yX0_net cX0_net 4 (some .int) : Cond) ∈ wsB := wt4 (List.mem_of_getElem? (i := 44) rfl) rfl
theorem wd_769 : (Cond.methodLink RX9 180 yX9_isLog : Cond) ∈ wsB := wt4 (List.mem_of_getElem? (i := 49) rfl) rfl
theorem wd_771 : (Cond.instanceMethod yX9_isLog : Cond) ∈ wsB := wt4 (List.mem_of_getElem? (i := 51) rfl) rfl
theorem wd_772 : (Cond.code yX9_isLog cX9_isLog 2 (some .boolean) : Cond) ∈ wsB := wt4 (List.mem_of_getElem? (i := 52) rfl) rfl
theorem wd_773 : (Cond.methodLink RX9 198 yX8_ownerOf : Cond) ∈ wsB := wt4 (List.mem_of_getElem? (i := 53) rfl) rfl
theorem wd_774 : (Cond.methodLink RX9 201 yX8_priceOf : Cond) ∈ wsB := wt4 (List.mem_of_getElem? (i := 54) rfl) rfl
theorem wd_778 : (Cond.methodLink RX9 210 yX6_placeInOrder : Cond) ∈ wsB := wt4 (List.mem_of_getElem? (i := 58) rfl) rfl
theorem wd_779 : (Cond.instanceMethod yX6_placeInOrder : Cond) ∈ wsB := wt4 (List.mem_of_getElem? (i := 59) rfl) rfl
theorem wd_780 : (Cond.selects RX6 yX6_placeInOrder yX6_placeInOrder : Cond) ∈ wsB := wt4 (List.mem_of_getElem? (i := 60) rfl) rfl
theorem wd_781 : (Cond.code yX6_placeInOrder cX6_placeInOrder 3 (some .int) : Cond) ∈ wsB := wt4 (List.mem_of_getElem? (i := 61) rfl) rfl
theorem wd_782 : (Cond.methodLink RX9 213 yX0_weddingsOf : Cond) ∈ wsB := wt4 (List.mem_of_getElem? (i := 62) rfl) rfl
theorem wd_783 : (Cond.instanceMethod yX0_weddingsOf : Cond) ∈ wsB := wt4 (List.mem_of_getElem? (i := 63) rfl) rfl
theorem wd_784 : (Cond.selects RX0 yX0_weddingsOf yX0_weddingsOf : Cond) ∈ wsB := wt4 (List.mem_of_getElem? (i := 64) rfl) rfl
theorem wd_785 : (Cond.code yX0_weddingsOf cX0_weddingsOf 4 (some .int) : Cond) ∈ wsB := wt4 (List.mem_of_getElem? (i := 65) rfl) rfl
theorem wd_790 : (Cond.methodLink RX9 216 yX6_notchAt : Cond) ∈ wsB := wt4 (List.mem_of_getElem? (i := 70) rfl) rfl
theorem wd_795 : (Cond.methodLink RX9 220 yX8_reaches : Cond) ∈ wsB := wt4 (List.mem_of_getElem? (i := 75) rfl) rfl
theorem wd_796 : (Cond.instanceMethod yX8_reaches : Cond) ∈ wsB := wt4 (List.mem_of_getElem? (i := 76) rfl) rfl
theorem wd_797 : (Cond.selects RX8 yX8_reaches yX8_reaches : Cond) ∈ wsB := wt4 (List.mem_of_getElem? (i := 77) rfl) rfl
theorem wd_798 : (Cond.code yX8_reaches cX8_reaches 4 (some .boolean) : Cond) ∈ wsB := wt4 (List.mem_of_getElem? (i := 78) rfl) rfl
theorem wd_799 : (Cond.methodLink RX9 224 yX6_notchBehind : Cond) ∈ wsB := wt4 (List.mem_of_getElem? (i := 79) rfl) rfl
theorem wd_800 : (Cond.methodLink RX9 228 yX0_keepCut : Cond) ∈ wsB := wt4 (List.mem_of_getElem? (i := 80) rfl) rfl
theorem wd_801 : (Cond.instanceMethod yX0_keepCut : Cond) ∈ wsB := wt4 (List.mem_of_getElem? (i := 81) rfl) rfl
theorem wd_802 : (Cond.selects RX0 yX0_keepCut yX0_keepCut : Cond) ∈ wsB := wt4 (List.mem_of_getElem? (i := 82) rfl) rfl
theorem wd_803 : (Cond.code yX0_keepCut cX0_keepCut 5 none : Cond) ∈ wsB := wt4 (List.mem_of_getElem? (i := 83) rfl) rfl
theorem wd_820 : (Cond.methodLink RX9 250 yX6_isAshore : Cond) ∈ wsB := wt4 (List.mem_of_getElem? (i := 100) rfl) rfl
theorem wd_821 : (Cond.instanceMethod yX6_isAshore : Cond) ∈ wsB := wt4 (List.mem_of_getElem? (i := 101) rfl) rfl
theorem wd_822 : (Cond.selects RX6 yX6_isAshore yX6_isAshore : Cond) ∈ wsB := wt4 (List.mem_of_getElem? (i := 102) rfl) rfl
theorem wd_823 : (Cond.code yX6_isAshore cX6_isAshore 2 (some .boolean) : Cond) ∈ wsB := wt4 (List.mem_of_getElem? (i := 103) rfl) rfl
theorem wd_824 : (Cond.methodLink RX9 253 yX8_bendOf : Cond) ∈ wsB := wt4 (List.mem_of_getElem? (i := 104) rfl) rfl
theorem wd_833 : (Cond.methodLink RX9 256 yX0_owe : Cond) ∈ wsB := wt4 (List.mem_of_getElem? (i := 113) rfl) rfl
theorem wd_841 : (Cond.methodLink RX9 260 yX6_isGone : Cond) ∈ wsB := wt4 (List.mem_of_getElem? (i := 121) rfl) rfl
theorem wd_854 : (Cond.methodLink RX9 266 yX8_tearing : Cond) ∈ wsB := wt4 (List.mem_of_getElem? (i := 134) rfl) rfl
theorem wd_855 : (Cond.instanceMethod yX8_tearing : Cond) ∈ wsB := wt4 (List.mem_of_getElem? (i := 135) rfl) rfl
theorem wd_856 : (Cond.selects RX8 yX8_tearing yX8_tearing : Cond) ∈ wsB := wt4 (List.mem_of_getElem? (i := 136) rfl) rfl
theorem wd_857 : (Cond.code yX8_tearing cX8_tearing 2 (some .int) : Cond) ∈ wsB := wt4 (List.mem_of_getElem? (i := 137) rfl) rfl
theorem wd_862 : (Cond.methodLink RX9 269 yJ6_bitCount_0f7a4 : Cond) ∈ wsB := wt4 (List.mem_of_getElem? (i := 142) rfl) rfl
theorem wd_863 : (Cond.methodLink RX9 274 yX8_keeping : Cond) ∈ wsB := wt4 (List.mem_of_getElem? (i := 143) rfl) rfl
theorem wd_864 : (Cond.instanceMethod yX8_keeping : Cond) ∈ wsB := wt4 (List.mem_of_getElem? (i := 144) rfl) rfl
theorem wd_865 : (Cond.selects RX8 yX8_keeping yX8_keeping : Cond) ∈ wsB := wt4 (List.mem_of_getElem? (i := 145) rfl) rfl
theorem wd_866 : (Cond.code yX8_keeping cX8_keeping 2 (some .int) : Cond) ∈ wsB := wt4 (List.mem_of_getElem? (i := 146) rfl) rfl
theorem wd_875 : (Cond.methodLink RX9 277 yX8_rise : Cond) ∈ wsB := wt4 (List.mem_of_getElem? (i := 155) rfl) rfl
theorem wd_876 : (Cond.instanceMethod yX8_rise : Cond) ∈ wsB := wt4 (List.mem_of_getElem? (i := 156) rfl) rfl
theorem wd_877 : (Cond.selects RX8 yX8_rise yX8_rise : Cond) ∈ wsB := wt4 (List.mem_of_getElem? (i := 157) rfl) rfl
theorem wd_878 : (Cond.code yX8_rise cX8_rise 4 none : Cond) ∈ wsB := wt4 (List.mem_of_getElem? (i := 158) rfl) rfl
theorem wd_910 : (Cond.methodLink RX9 283 yX8_begin : Cond) ∈ wsB := wt4 (List.mem_of_getElem? (i := 190) rfl) rfl
theorem wd_911 : (Cond.instanceMethod yX8_begin : Cond) ∈ wsB := wt4 (List.mem_of_getElem? (i := 191) rfl) rfl
theorem wd_912 : (Cond.selects RX8 yX8_begin yX8_begin : Cond) ∈ wsB := wt4 (List.mem_of_getElem? (i := 192) rfl) rfl
theorem wd_913 : (Cond.code yX8_begin cX8_begin 2 none : Cond) ∈ wsB := wt4 (List.mem_of_getElem? (i := 193) rfl) rfl
theorem wd_914 : (Cond.methodLink RX8 47 yX6_copy : Cond) ∈ wsB := wt4 (List.mem_of_getElem? (i := 194) rfl) rfl
theorem wd_915 : (Cond.instanceMethod yX6_copy : Cond) ∈ wsB := wt4 (List.mem_of_getElem? (i := 195) rfl) rfl
theorem wd_916 : (Cond.selects RX6 yX6_copy yX6_copy : Cond) ∈ wsB := wt4 (List.mem_of_getElem? (i := 196) rfl) rfl
theorem wd_917 : (Cond.code yX6_copy cX6_copy 2 none : Cond) ∈ wsB := wt4 (List.mem_of_getElem? (i := 197) rfl) rfl
theorem wd_926 : (Cond.constant RX9 293 (99999) : Cond) ∈ wsB := wt4 (List.mem_of_getElem? (i := 206) rfl) rfl
theorem wd_927 : (Cond.methodLink RX9 294 yX0_writeOff : Cond) ∈ wsB := wt4 (List.mem_of_getElem? (i := 207) rfl) rfl
theorem wd_928 : (Cond.instanceMethod yX0_writeOff : Cond) ∈ wsB := wt4 (List.mem_of_getElem? (i := 208) rfl) rfl
theorem wd_929 : (Cond.selects RX0 yX0_writeOff yX0_writeOff : Cond) ∈ wsB := wt4 (List.mem_of_getElem? (i := 209) rfl) rfl
theorem wd_930 : (Cond.code yX0_writeOff cX0_writeOff 4 (some .int) : Cond) ∈ wsB := wt4 (List.mem_of_getElem? (i := 210) rfl) rfl
theorem wd_935 : (Cond.methodLink RX9 300 yX8_passDay : Cond) ∈ wsB := wt4 (List.mem_of_getElem? (i := 215) rfl) rfl
theorem wd_936 : (Cond.instanceMethod yX8_passDay : Cond) ∈ wsB := wt4 (List.mem_of_getElem? (i := 216) rfl) rfl
theorem wd_937 : (Cond.selects RX8 yX8_passDay yX8_passDay : Cond) ∈ wsB := wt4 (List.mem_of_getElem? (i := 217) rfl) rfl
theorem wd_938 : (Cond.code yX8_passDay cX8_passDay 2 none : Cond) ∈ wsB := wt4 (List.mem_of_getElem? (i := 218) rfl) rfl
def Lwp_8 : List (Nat × Cond) := [(8, Cond.selects RX9 yX9_hasRiver yX9_hasRiver), (11, Cond.selects RX9 yX9_isVillage yX9_isVillage), (12, Cond.selects RX9 yX9_isBend yX9_isBend), (15, Cond.selects RX9 yX9_isLog yX9_isLog)]
set_option maxRecDepth 100000 in
theorem Lwp_8_ok : ∀ q ∈ Lwp_8, (k2_sels lw_privs)[q.1]? = some q.2 ∧ goodWord q.2 = true := by decide +kernel
theorem wp_8 : (Cond.selects RX9 yX9_hasRiver yX9_hasRiver : Cond) ∈ wsB := wpq Lwp_8_ok 0 rfl
theorem wp_11 : (Cond.selects RX9 yX9_isVillage yX9_isVillage : Cond) ∈ wsB := wpq Lwp_8_ok 1 rfl
theorem wp_12 : (Cond.selects RX9 yX9_isBend yX9_isBend : Cond) ∈ wsB := wpq Lwp_8_ok 2 rfl
theorem wp_15 : (Cond.selects RX9 yX9_isLog yX9_isLog : Cond) ∈ wsB := wpq Lwp_8_ok 3 rfl
theorem mlX8_47 : LV RX8 47 yX6_copy cX6_copy 2 none 1 := ⟨wd_914, wd_915, wd_916, wd_8, wd_917, ⟨by decide, by decide, by decide +kernel⟩⟩
theorem glX9_47 : FL RX9 47 9 5 := ⟨RX9, TX9, 12, rfl, inlX9, by decide, wd_424⟩
theorem glX9_51 : FL RX9 51 8 0 := ⟨RX8, TX8, 9, rfl, inlX8, by decide, wd_358⟩
theorem glX9_400 : FL RX9 400 2 0 := ⟨RX2, TX2, 12, rfl, inlX2, by decide, wd_74⟩
theorem glX9_378 : FL RX9 378 2 1 := ⟨RX2, TX2, 12, rfl, inlX2, by decide, wd_78⟩
theorem glX9_117 : FL RX9 117 2 3 := ⟨RX2, TX2, 12, rfl, inlX2, by decide, wd_86⟩
theorem mlX9_151 : LV RX9 151 yX9_isBend cX9_isBend 2 (some .boolean) 1 := ⟨wd_697, wd_699, wp_12, wd_1, wd_700, ⟨by decide, by decide, by decide +kernel⟩⟩
theorem glX9_154 : FL RX9 154 2 6 := ⟨RX2, TX2, 12, rfl, inlX2, by decide, wd_98⟩
theorem glX9_100 : FL RX9 100 8 1 := ⟨RX8, TX8, 9, rfl, inlX8, by decide, wd_362⟩
theorem glX9_157 : FL RX9 157 6 7 := ⟨RX6, TX6, 15, rfl, inlX6, by decide, wd_229⟩
theorem mlX9_160 : LV RX9 160 yX8_logsAt cX8_logsAt 4 (some .int) 1 := ⟨wd_701, wd_702, wd_703, wd_7, wd_704, ⟨by decide, by decide, by decide +kernel⟩⟩
theorem mlX9_164 : LV RX9 164 yX8_roomAt cX8_roomAt 2 (some .int) 1 := ⟨wd_705, wd_706, wd_707, wd_7, wd_708, ⟨by decide, by decide, by decide +kernel⟩⟩
theorem mlX9_136 : LV RX9 136 yX9_isVillage cX9_isVillage 2 (some .boolean) 1 := ⟨wd_685, wd_687, wp_11, wd_1, wd_688, ⟨by decide, by decide, by decide +kernel⟩⟩
theorem glX9_168 : FL RX9 168 2 5 := ⟨RX2, TX2, 12, rfl, inlX2, by decide, wd_94⟩
theorem glX9_139 : FL RX9 139 6 6 := ⟨RX6, TX6, 15, rfl, inlX6, by decide, wd_225⟩
theorem glX9_109 : FL RX9 109 8 2 := ⟨RX8, TX8, 9, rfl, inlX8, by decide, wd_365⟩
theorem glX9_171 : FL RX9 171 0 2 := ⟨RX0, TX0, 17, rfl, inlX0, by decide, wd_295⟩
theorem mlX9_174 : LV RX9 174 yX8_logsOf cX8_logsOf 4 (some .int) 1 := ⟨wd_724, wd_725, wd_726, wd_7, wd_727, ⟨by decide, by decide, by decide +kernel⟩⟩
theorem mlX9_177 : LV RX9 177 yX0_net cX0_net 4 (some .int) 1 := ⟨wd_761, wd_762, wd_763, wd_9, wd_764, ⟨by decide, by decide, by decide +kernel⟩⟩
theorem mlX9_180 : LV RX9 180 yX9_isLog cX9_isLog 2 (some .boolean) 1 := ⟨wd_769, wd_771, wp_15, wd_1, wd_772, ⟨by decide, by decide, by decide +kernel⟩⟩
theorem glX9_183 : FL RX9 183 2 8 := ⟨RX2, TX2, 12, rfl, inlX2, by decide, wd_104⟩
theorem glX9_186 : FL RX9 186 6 9 := ⟨RX6, TX6, 15, rfl, inlX6, by decide, wd_235⟩
theorem glX9_189 : FL RX9 189 2 10 := ⟨RX2, TX2, 12, rfl, inlX2, by decide, wd_111⟩
theorem glX9_192 : FL RX9 192 6 8 := ⟨RX6, TX6, 15, rfl, inlX6, by decide, wd_232⟩
theorem glX9_195 : FL RX9 195 6 13 := ⟨RX6, TX6, 15, rfl, inlX6, by decide, wd_248⟩
theorem mlX9_198 : LV RX9 198 yX8_ownerOf cX8_ownerOf 10 (some .int) 1 := ⟨wd_773, wd_733, wd_734, wd_7, wd_735, ⟨by decide, by decide, by decide +kernel⟩⟩
theorem mlX9_201 : LV RX9 201 yX8_priceOf cX8_priceOf 3 (some .int) 1 := ⟨wd_774, wd_775, wd_776, wd_7, wd_777, ⟨by decide, by decide, by decide +kernel⟩⟩
theorem glX9_204 : FL RX9 204 6 10 := ⟨RX6, TX6, 15, rfl, inlX6, by decide, wd_238⟩
theorem glX9_207 : FL RX9 207 6 11 := ⟨RX6, TX6, 15, rfl, inlX6, by decide, wd_241⟩
theorem mlX9_210 : LV RX9 210 yX6_placeInOrder cX6_placeInOrder 3 (some .int) 1 := ⟨wd_778, wd_779, wd_780, wd_8, wd_781, ⟨by decide, by decide, by decide +kernel⟩⟩
theorem mlX9_213 : LV RX9 213 yX0_weddingsOf cX0_weddingsOf 4 (some .int) 1 := ⟨wd_782, wd_783, wd_784, wd_9, wd_785, ⟨by decide, by decide, by decide +kernel⟩⟩
theorem mlX9_216 : LV RX9 216 yX6_notchAt cX6_notchAt 3 (some .int) 2 := ⟨wd_790, wd_737, wd_738, wd_8, wd_739, ⟨by decide, by decide, by decide +kernel⟩⟩
theorem mlX9_220 : LV RX9 220 yX8_reaches cX8_reaches 4 (some .boolean) 2 := ⟨wd_795, wd_796, wd_797, wd_7, wd_798, ⟨by decide, by decide, by decide +kernel⟩⟩
theorem mlX9_224 : LV RX9 224 yX6_notchBehind cX6_notchBehind 4 none 2 := ⟨wd_799, wd_589, wd_590, wd_8, wd_591, ⟨by decide, by decide, by decide +kernel⟩⟩
theorem mlX9_228 : LV RX9 228 yX0_keepCut cX0_keepCut 5 none 4 := ⟨wd_800, wd_801, wd_802, wd_9, wd_803, ⟨by decide, by decide, by decide +kernel⟩⟩
theorem glX9_232 : FL RX9 232 6 14 := ⟨RX6, TX6, 15, rfl, inlX6, by decide, wd_251⟩
theorem glX9_235 : FL RX9 235 0 11 := ⟨RX0, TX0, 17, rfl, inlX0, by decide, wd_311⟩
theorem glX9_238 : FL RX9 238 0 12 := ⟨RX0, TX0, 17, rfl, inlX0, by decide, wd_313⟩
theorem glX9_241 : FL RX9 241 0 13 := ⟨RX0, TX0, 17, rfl, inlX0, by decide, wd_315⟩
theorem glX9_244 : FL RX9 244 0 15 := ⟨RX0, TX0, 17, rfl, inlX0, by decide, wd_319⟩
theorem glX9_247 : FL RX9 247 0 14 := ⟨RX0, TX0, 17, rfl, inlX0, by decide, wd_317⟩
theorem plX9_235 : FP RX9 235 0 11 .int := ⟨RX0, TX0, 17, rfl, inlX0, by decide, wd_311, rfl, by decide +kernel, tyX0, tyX0_ok, nmX0⟩
theorem mlX9_250 : LV RX9 250 yX6_isAshore cX6_isAshore 2 (some .boolean) 1 := ⟨wd_820, wd_821, wd_822, wd_8, wd_823, ⟨by decide, by decide, by decide +kernel⟩⟩
theorem mlX9_253 : LV RX9 253 yX8_bendOf cX8_bendOf 3 (some .int) 1 := ⟨wd_824, wd_749, wd_750, wd_7, wd_751, ⟨by decide, by decide, by decide +kernel⟩⟩
theorem mlX9_256 : LV RX9 256 yX0_owe cX0_owe 4 none 3 := ⟨wd_833, wd_834, wd_835, wd_9, wd_836, ⟨by decide, by decide, by decide +kernel⟩⟩
theorem mlX9_260 : LV RX9 260 yX6_isGone cX6_isGone 2 (some .boolean) 1 := ⟨wd_841, wd_729, wd_730, wd_8, wd_731, ⟨by decide, by decide, by decide +kernel⟩⟩
theorem glX9_263 : FL RX9 263 6 12 := ⟨RX6, TX6, 15, rfl, inlX6, by decide, wd_244⟩
theorem mlX9_266 : LV RX9 266 yX8_tearing cX8_tearing 2 (some .int) 1 := ⟨wd_854, wd_855, wd_856, wd_7, wd_857, ⟨by decide, by decide, by decide +kernel⟩⟩
theorem mlX9_269 : LT RX9 269 yJ6_bitCount_0f7a4 cJ6_bitCount_0f7a4 1 (some .int) 1 := ⟨wd_862, wd_711, wd_19, wd_712, ⟨by decide, by decide, by decide +kernel⟩⟩
theorem mlX9_274 : LV RX9 274 yX8_keeping cX8_keeping 2 (some .int) 1 := ⟨wd_863, wd_864, wd_865, wd_7, wd_866, ⟨by decide, by decide, by decide +kernel⟩⟩
theorem glX9_55 : FL RX9 55 9 6 := ⟨RX9, TX9, 12, rfl, inlX9, by decide, wd_425⟩
theorem mlX9_283 : LV RX9 283 yX8_begin cX8_begin 2 none 1 := ⟨wd_910, wd_911, wd_912, wd_7, wd_913, ⟨by decide, by decide, by decide +kernel⟩⟩
theorem mlX9_277 : LV RX9 277 yX8_rise cX8_rise 4 none 1 := ⟨wd_875, wd_876, wd_877, wd_7, wd_878, ⟨by decide, by decide, by decide +kernel⟩⟩
theorem glX9_287 : FL RX9 287 0 4 := ⟨RX0, TX0, 17, rfl, inlX0, by decide, wd_300⟩
theorem glX9_290 : FL RX9 290 0 5 := ⟨RX0, TX0, 17, rfl, inlX0, by decide, wd_302⟩
theorem plX9_287 : FP RX9 287 0 4 .int := ⟨RX0, TX0, 17, rfl, inlX0, by decide, wd_300, rfl, by decide +kernel, tyX0, tyX0_ok, nmX0⟩
theorem mlX9_126 : LV RX9 126 yX9_hasRiver cX9_hasRiver 1 (some .boolean) 0 := ⟨wd_669, wd_671, wp_8, wd_1, wd_672, ⟨by decide, by decide, by decide +kernel⟩⟩
theorem mlX9_294 : LV RX9 294 yX0_writeOff cX0_writeOff 4 (some .int) 1 := ⟨wd_927, wd_928, wd_929, wd_9, wd_930, ⟨by decide, by decide, by decide +kernel⟩⟩
theorem glX9_307 : FL RX9 307 8 3 := ⟨RX8, TX8, 9, rfl, inlX8, by decide, wd_367⟩
theorem mlX9_300 : LV RX9 300 yX8_passDay cX8_passDay 2 none 0 := ⟨wd_935, wd_936, wd_937, wd_7, wd_938, ⟨by decide, by decide, by decide +kernel⟩⟩
theorem iX1_1 {b : Nat} (h : isX1 b) : isX2 (b + 1) := by rcases h with rfl | rfl | rfl | rfl <;> decide
theorem sX9_5 {b : Nat} (h : isX9 b) : SF b 9 5 (45) := by rcases h with rfl <;> exact ⟨by decide, rfl, rfl, by decide, rfl, rfl⟩
theorem obX9 {b : Nat} (h : isX9 b) : OB b RX9 := by rcases h with rfl <;> exact ⟨by decide, rfl, _, _, rfl⟩
theorem sX9_6 {b : Nat} (h : isX9 b) : SF b 9 6 (73) := by rcases h with rfl <;> exact ⟨by decide, rfl, rfl, by decide, rfl, rfl⟩
