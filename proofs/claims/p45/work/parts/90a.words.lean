theorem wd_20 : (Cond.classLink RL 7 RX9 : Cond) ∈ wsB := wt1 (List.mem_of_getElem? (i := 20) rfl) rfl
theorem wd_21 : (Cond.instantiable RX9 12 : Cond) ∈ wsB := wt1 (List.mem_of_getElem? (i := 21) rfl) rfl
theorem wd_22 : (Cond.methodLink RL 9 yX9_init : Cond) ∈ wsB := wt1 (List.mem_of_getElem? (i := 22) rfl) rfl
theorem wd_23 : (Cond.instanceMethod yX9_init : Cond) ∈ wsB := wt1 (List.mem_of_getElem? (i := 23) rfl) rfl
theorem wd_24 : (Cond.code yX9_init cX9_init 2 none : Cond) ∈ wsB := wt1 (List.mem_of_getElem? (i := 24) rfl) rfl
theorem wd_25 : (Cond.methodLink RX9 1 objectInit : Cond) ∈ wsB := wt1 (List.mem_of_getElem? (i := 25) rfl) rfl
theorem wd_26 : (Cond.instanceMethod objectInit : Cond) ∈ wsB := wt1 (List.mem_of_getElem? (i := 26) rfl) rfl
theorem wd_27 : (Cond.code objectInit ⟨#[0xb1]⟩ 1 none : Cond) ∈ wsB := wt1 (List.mem_of_getElem? (i := 27) rfl) rfl
theorem wd_28 : (Cond.classLink RX9 7 RX7 : Cond) ∈ wsB := wt1 (List.mem_of_getElem? (i := 28) rfl) rfl
theorem wd_29 : (Cond.instantiable RX7 6 : Cond) ∈ wsB := wt1 (List.mem_of_getElem? (i := 29) rfl) rfl
theorem wd_31 : (Cond.instanceMethod yX7_init : Cond) ∈ wsB := wt1 (List.mem_of_getElem? (i := 31) rfl) rfl
theorem wd_32 : (Cond.code yX7_init cX7_init 1 none : Cond) ∈ wsB := wt1 (List.mem_of_getElem? (i := 32) rfl) rfl
theorem wd_33 : (Cond.methodLink RX7 3 objectInit : Cond) ∈ wsB := wt1 (List.mem_of_getElem? (i := 33) rfl) rfl
theorem wd_58 : (Cond.arrayClass .int : Cond) ∈ wsB := wt1 (List.mem_of_getElem? (i := 58) rfl) rfl
theorem wd_59 : (Cond.classLink RX9 16 RX3 : Cond) ∈ wsB := wt1 (List.mem_of_getElem? (i := 59) rfl) rfl
theorem wd_60 : (Cond.instantiable RX3 3 : Cond) ∈ wsB := wt1 (List.mem_of_getElem? (i := 60) rfl) rfl
theorem wd_61 : (Cond.methodLink RX9 18 yX3_init : Cond) ∈ wsB := wt1 (List.mem_of_getElem? (i := 61) rfl) rfl
theorem wd_62 : (Cond.instanceMethod yX3_init : Cond) ∈ wsB := wt1 (List.mem_of_getElem? (i := 62) rfl) rfl
theorem wd_63 : (Cond.code yX3_init cX3_init 2 none : Cond) ∈ wsB := wt1 (List.mem_of_getElem? (i := 63) rfl) rfl
theorem wd_64 : (Cond.methodLink RX3 3 objectInit : Cond) ∈ wsB := wt1 (List.mem_of_getElem? (i := 64) rfl) rfl
theorem wd_65 : (Cond.classLink RX3 9 RX2 : Cond) ∈ wsB := wt1 (List.mem_of_getElem? (i := 65) rfl) rfl
theorem wd_66 : (Cond.instantiable RX2 12 : Cond) ∈ wsB := wt1 (List.mem_of_getElem? (i := 66) rfl) rfl
theorem wd_68 : (Cond.instanceMethod yX2_init : Cond) ∈ wsB := wt1 (List.mem_of_getElem? (i := 68) rfl) rfl
theorem wd_69 : (Cond.code yX2_init cX2_init 1 none : Cond) ∈ wsB := wt1 (List.mem_of_getElem? (i := 69) rfl) rfl
theorem wd_70 : (Cond.methodLink RX2 3 objectInit : Cond) ∈ wsB := wt1 (List.mem_of_getElem? (i := 70) rfl) rfl
theorem wd_152 : (Cond.classLink RX9 25 RX5 : Cond) ∈ wsB := wt1 (List.mem_of_getElem? (i := 152) rfl) rfl
theorem wd_153 : (Cond.instantiable RX5 2 : Cond) ∈ wsB := wt1 (List.mem_of_getElem? (i := 153) rfl) rfl
theorem wd_154 : (Cond.methodLink RX9 27 yX5_init : Cond) ∈ wsB := wt1 (List.mem_of_getElem? (i := 154) rfl) rfl
theorem wd_155 : (Cond.instanceMethod yX5_init : Cond) ∈ wsB := wt1 (List.mem_of_getElem? (i := 155) rfl) rfl
theorem wd_156 : (Cond.code yX5_init cX5_init 2 none : Cond) ∈ wsB := wt1 (List.mem_of_getElem? (i := 156) rfl) rfl
theorem wd_157 : (Cond.methodLink RX5 3 objectInit : Cond) ∈ wsB := wt1 (List.mem_of_getElem? (i := 157) rfl) rfl
theorem wd_165 : (Cond.classLink RX9 32 RX4 : Cond) ∈ wsB := wt1 (List.mem_of_getElem? (i := 165) rfl) rfl
theorem wd_167 : (Cond.instantiable RX4 6 : Cond) ∈ wsB := wt1 (List.mem_of_getElem? (i := 167) rfl) rfl
theorem wd_169 : (Cond.instanceMethod yX4_init : Cond) ∈ wsB := wt1 (List.mem_of_getElem? (i := 169) rfl) rfl
theorem wd_170 : (Cond.code yX4_init cX4_init 1 none : Cond) ∈ wsB := wt1 (List.mem_of_getElem? (i := 170) rfl) rfl
theorem wd_171 : (Cond.methodLink RX4 3 objectInit : Cond) ∈ wsB := wt1 (List.mem_of_getElem? (i := 171) rfl) rfl
theorem wd_192 : (Cond.arrayClass .long : Cond) ∈ wsB := wt1 (List.mem_of_getElem? (i := 192) rfl) rfl
theorem wd_193 : (Cond.classLink RX9 39 RX8 : Cond) ∈ wsB := wt1 (List.mem_of_getElem? (i := 193) rfl) rfl
theorem wd_194 : (Cond.instantiable RX8 9 : Cond) ∈ wsB := wt1 (List.mem_of_getElem? (i := 194) rfl) rfl
theorem wd_195 : (Cond.classLink RX9 41 RX2 : Cond) ∈ wsB := wt1 (List.mem_of_getElem? (i := 195) rfl) rfl
theorem wd_197 : (Cond.methodLink RX9 44 yX8_init : Cond) ∈ wsB := wt1 (List.mem_of_getElem? (i := 197) rfl) rfl
theorem wd_198 : (Cond.instanceMethod yX8_init : Cond) ∈ wsB := wt1 (List.mem_of_getElem? (i := 198) rfl) rfl
theorem wd_199 : (Cond.code yX8_init cX8_init 3 none : Cond) ∈ wsB := wt1 (List.mem_of_getElem? (i := 199) rfl) rfl
theorem wd_200 : (Cond.methodLink RX8 3 objectInit : Cond) ∈ wsB := wt1 (List.mem_of_getElem? (i := 200) rfl) rfl
theorem wd_201 : (Cond.classLink RX8 9 RX6 : Cond) ∈ wsB := wt1 (List.mem_of_getElem? (i := 201) rfl) rfl
theorem wd_202 : (Cond.instantiable RX6 15 : Cond) ∈ wsB := wt1 (List.mem_of_getElem? (i := 202) rfl) rfl
theorem wd_204 : (Cond.instanceMethod yX6_init : Cond) ∈ wsB := wt1 (List.mem_of_getElem? (i := 204) rfl) rfl
theorem wd_205 : (Cond.code yX6_init cX6_init 1 none : Cond) ∈ wsB := wt1 (List.mem_of_getElem? (i := 205) rfl) rfl
theorem wd_206 : (Cond.methodLink RX6 3 objectInit : Cond) ∈ wsB := wt1 (List.mem_of_getElem? (i := 206) rfl) rfl
theorem wd_283 : (Cond.classLink RX8 18 RX0 : Cond) ∈ wsB := wt2 (List.mem_of_getElem? (i := 43) rfl) rfl
theorem wd_284 : (Cond.instantiable RX0 17 : Cond) ∈ wsB := wt2 (List.mem_of_getElem? (i := 44) rfl) rfl
theorem wd_286 : (Cond.instanceMethod yX0_init : Cond) ∈ wsB := wt2 (List.mem_of_getElem? (i := 46) rfl) rfl
theorem wd_287 : (Cond.code yX0_init cX0_init 1 none : Cond) ∈ wsB := wt2 (List.mem_of_getElem? (i := 47) rfl) rfl
theorem wd_288 : (Cond.methodLink RX0 3 objectInit : Cond) ∈ wsB := wt2 (List.mem_of_getElem? (i := 48) rfl) rfl
theorem wd_392 : (Cond.classLink RX9 58 RX1 : Cond) ∈ wsB := wt2 (List.mem_of_getElem? (i := 152) rfl) rfl
theorem wd_394 : (Cond.instantiable RX1 4 : Cond) ∈ wsB := wt2 (List.mem_of_getElem? (i := 154) rfl) rfl
theorem wd_396 : (Cond.instanceMethod yX1_init : Cond) ∈ wsB := wt2 (List.mem_of_getElem? (i := 156) rfl) rfl
theorem wd_397 : (Cond.code yX1_init cX1_init 1 none : Cond) ∈ wsB := wt2 (List.mem_of_getElem? (i := 157) rfl) rfl
theorem wd_398 : (Cond.methodLink RX1 1 objectInit : Cond) ∈ wsB := wt2 (List.mem_of_getElem? (i := 158) rfl) rfl
theorem wd_399 : (Cond.classLink RX1 7 RX2 : Cond) ∈ wsB := wt2 (List.mem_of_getElem? (i := 159) rfl) rfl
theorem wd_401 : (Cond.classLink RX1 16 RX6 : Cond) ∈ wsB := wt2 (List.mem_of_getElem? (i := 161) rfl) rfl
theorem wd_403 : (Cond.classLink RX1 23 RX0 : Cond) ∈ wsB := wt2 (List.mem_of_getElem? (i := 163) rfl) rfl
theorem wd_456 : (Cond.methodLink RL 13 yX9_feed : Cond) ∈ wsB := wt2 (List.mem_of_getElem? (i := 216) rfl) rfl
theorem wd_457 : (Cond.instanceMethod yX9_feed : Cond) ∈ wsB := wt2 (List.mem_of_getElem? (i := 217) rfl) rfl
theorem wd_458 : (Cond.selects RX9 yX9_feed yX9_feed : Cond) ∈ wsB := wt2 (List.mem_of_getElem? (i := 218) rfl) rfl
theorem wd_459 : (Cond.code yX9_feed cX9_feed 6 (some .int) : Cond) ∈ wsB := wt2 (List.mem_of_getElem? (i := 219) rfl) rfl
theorem wd_464 : (Cond.methodLink RL 18 yX9_end : Cond) ∈ wsB := wt2 (List.mem_of_getElem? (i := 224) rfl) rfl
theorem wd_465 : (Cond.instanceMethod yX9_end : Cond) ∈ wsB := wt2 (List.mem_of_getElem? (i := 225) rfl) rfl
theorem wd_466 : (Cond.selects RX9 yX9_end yX9_end : Cond) ∈ wsB := wt2 (List.mem_of_getElem? (i := 226) rfl) rfl
theorem wd_467 : (Cond.code yX9_end cX9_end 2 (some .int) : Cond) ∈ wsB := wt2 (List.mem_of_getElem? (i := 227) rfl) rfl
theorem wd_468 : (Cond.methodLink RL 23 yX9_river : Cond) ∈ wsB := wt2 (List.mem_of_getElem? (i := 228) rfl) rfl
theorem wd_469 : (Cond.instanceMethod yX9_river : Cond) ∈ wsB := wt2 (List.mem_of_getElem? (i := 229) rfl) rfl
theorem wd_470 : (Cond.selects RX9 yX9_river yX9_river : Cond) ∈ wsB := wt2 (List.mem_of_getElem? (i := 230) rfl) rfl
theorem wd_471 : (Cond.code yX9_river cX9_river 2 (some .int) : Cond) ∈ wsB := wt2 (List.mem_of_getElem? (i := 231) rfl) rfl
theorem wd_598 : (Cond.arrayClass .byte : Cond) ∈ wsB := wt3 (List.mem_of_getElem? (i := 118) rfl) rfl
theorem wd_599 : (Cond.methodLink RL 28 yX9_rule : Cond) ∈ wsB := wt3 (List.mem_of_getElem? (i := 119) rfl) rfl
theorem wd_600 : (Cond.instanceMethod yX9_rule : Cond) ∈ wsB := wt3 (List.mem_of_getElem? (i := 120) rfl) rfl
theorem wd_601 : (Cond.selects RX9 yX9_rule yX9_rule : Cond) ∈ wsB := wt3 (List.mem_of_getElem? (i := 121) rfl) rfl
theorem wd_602 : (Cond.code yX9_rule cX9_rule 2 (some .int) : Cond) ∈ wsB := wt3 (List.mem_of_getElem? (i := 122) rfl) rfl
theorem wd_665 : (Cond.methodLink RL 32 yX9_force : Cond) ∈ wsB := wt3 (List.mem_of_getElem? (i := 185) rfl) rfl
theorem wd_666 : (Cond.instanceMethod yX9_force : Cond) ∈ wsB := wt3 (List.mem_of_getElem? (i := 186) rfl) rfl
theorem wd_667 : (Cond.selects RX9 yX9_force yX9_force : Cond) ∈ wsB := wt3 (List.mem_of_getElem? (i := 187) rfl) rfl
theorem wd_668 : (Cond.code yX9_force cX9_force 3 (some .int) : Cond) ∈ wsB := wt3 (List.mem_of_getElem? (i := 188) rfl) rfl
theorem wd_681 : (Cond.methodLink RL 36 yX9_bind : Cond) ∈ wsB := wt3 (List.mem_of_getElem? (i := 201) rfl) rfl
theorem wd_682 : (Cond.instanceMethod yX9_bind : Cond) ∈ wsB := wt3 (List.mem_of_getElem? (i := 202) rfl) rfl
theorem wd_683 : (Cond.selects RX9 yX9_bind yX9_bind : Cond) ∈ wsB := wt3 (List.mem_of_getElem? (i := 203) rfl) rfl
theorem wd_684 : (Cond.code yX9_bind cX9_bind 4 (some .int) : Cond) ∈ wsB := wt3 (List.mem_of_getElem? (i := 204) rfl) rfl
theorem wd_689 : (Cond.methodLink RL 41 yX9_law : Cond) ∈ wsB := wt3 (List.mem_of_getElem? (i := 209) rfl) rfl
theorem wd_690 : (Cond.instanceMethod yX9_law : Cond) ∈ wsB := wt3 (List.mem_of_getElem? (i := 210) rfl) rfl
theorem wd_691 : (Cond.selects RX9 yX9_law yX9_law : Cond) ∈ wsB := wt3 (List.mem_of_getElem? (i := 211) rfl) rfl
theorem wd_692 : (Cond.code yX9_law cX9_law 4 (some .int) : Cond) ∈ wsB := wt3 (List.mem_of_getElem? (i := 212) rfl) rfl
theorem wd_693 : (Cond.methodLink RL 45 yX9_bend : Cond) ∈ wsB := wt3 (List.mem_of_getElem? (i := 213) rfl) rfl
theorem wd_694 : (Cond.instanceMethod yX9_bend : Cond) ∈ wsB := wt3 (List.mem_of_getElem? (i := 214) rfl) rfl
theorem wd_695 : (Cond.selects RX9 yX9_bend yX9_bend : Cond) ∈ wsB := wt3 (List.mem_of_getElem? (i := 215) rfl) rfl
theorem wd_696 : (Cond.code yX9_bend cX9_bend 3 (some .int) : Cond) ∈ wsB := wt3 (List.mem_of_getElem? (i := 216) rfl) rfl
theorem wd_719 : (Cond.methodLink RL 49 yX9_village : Cond) ∈ wsB := wt3 (List.mem_of_getElem? (i := 239) rfl) rfl
theorem wd_720 : (Cond.instanceMethod yX9_village : Cond) ∈ wsB := wt4 (List.mem_of_getElem? (i := 0) rfl) rfl
theorem wd_721 : (Cond.selects RX9 yX9_village yX9_village : Cond) ∈ wsB := wt4 (List.mem_of_getElem? (i := 1) rfl) rfl
theorem wd_722 : (Cond.code yX9_village cX9_village 3 (some .int) : Cond) ∈ wsB := wt4 (List.mem_of_getElem? (i := 2) rfl) rfl
theorem wd_765 : (Cond.methodLink RL 53 yX9_log : Cond) ∈ wsB := wt4 (List.mem_of_getElem? (i := 45) rfl) rfl
theorem wd_766 : (Cond.instanceMethod yX9_log : Cond) ∈ wsB := wt4 (List.mem_of_getElem? (i := 46) rfl) rfl
theorem wd_767 : (Cond.selects RX9 yX9_log yX9_log : Cond) ∈ wsB := wt4 (List.mem_of_getElem? (i := 47) rfl) rfl
theorem wd_768 : (Cond.code yX9_log cX9_log 4 (some .int) : Cond) ∈ wsB := wt4 (List.mem_of_getElem? (i := 48) rfl) rfl
theorem wd_786 : (Cond.methodLink RL 57 yX9_notch : Cond) ∈ wsB := wt4 (List.mem_of_getElem? (i := 66) rfl) rfl
theorem wd_787 : (Cond.instanceMethod yX9_notch : Cond) ∈ wsB := wt4 (List.mem_of_getElem? (i := 67) rfl) rfl
theorem wd_788 : (Cond.selects RX9 yX9_notch yX9_notch : Cond) ∈ wsB := wt4 (List.mem_of_getElem? (i := 68) rfl) rfl
theorem wd_789 : (Cond.code yX9_notch cX9_notch 3 (some .int) : Cond) ∈ wsB := wt4 (List.mem_of_getElem? (i := 69) rfl) rfl
theorem wd_791 : (Cond.methodLink RL 61 yX9_cut : Cond) ∈ wsB := wt4 (List.mem_of_getElem? (i := 71) rfl) rfl
theorem wd_792 : (Cond.instanceMethod yX9_cut : Cond) ∈ wsB := wt4 (List.mem_of_getElem? (i := 72) rfl) rfl
theorem wd_793 : (Cond.selects RX9 yX9_cut yX9_cut : Cond) ∈ wsB := wt4 (List.mem_of_getElem? (i := 73) rfl) rfl
theorem wd_794 : (Cond.code yX9_cut cX9_cut 4 (some .int) : Cond) ∈ wsB := wt4 (List.mem_of_getElem? (i := 74) rfl) rfl
theorem wd_808 : (Cond.methodLink RL 65 yX9_cutOver : Cond) ∈ wsB := wt4 (List.mem_of_getElem? (i := 88) rfl) rfl
theorem wd_809 : (Cond.instanceMethod yX9_cutOver : Cond) ∈ wsB := wt4 (List.mem_of_getElem? (i := 89) rfl) rfl
theorem wd_810 : (Cond.selects RX9 yX9_cutOver yX9_cutOver : Cond) ∈ wsB := wt4 (List.mem_of_getElem? (i := 90) rfl) rfl
theorem wd_811 : (Cond.code yX9_cutOver cX9_cutOver 5 (some .int) : Cond) ∈ wsB := wt4 (List.mem_of_getElem? (i := 91) rfl) rfl
theorem wd_812 : (Cond.methodLink RL 70 yX9_undo : Cond) ∈ wsB := wt4 (List.mem_of_getElem? (i := 92) rfl) rfl
theorem wd_813 : (Cond.instanceMethod yX9_undo : Cond) ∈ wsB := wt4 (List.mem_of_getElem? (i := 93) rfl) rfl
theorem wd_814 : (Cond.selects RX9 yX9_undo yX9_undo : Cond) ∈ wsB := wt4 (List.mem_of_getElem? (i := 94) rfl) rfl
theorem wd_815 : (Cond.code yX9_undo cX9_undo 6 (some .int) : Cond) ∈ wsB := wt4 (List.mem_of_getElem? (i := 95) rfl) rfl
theorem wd_816 : (Cond.methodLink RL 74 yX9_launch : Cond) ∈ wsB := wt4 (List.mem_of_getElem? (i := 96) rfl) rfl
theorem wd_817 : (Cond.instanceMethod yX9_launch : Cond) ∈ wsB := wt4 (List.mem_of_getElem? (i := 97) rfl) rfl
theorem wd_818 : (Cond.selects RX9 yX9_launch yX9_launch : Cond) ∈ wsB := wt4 (List.mem_of_getElem? (i := 98) rfl) rfl
theorem wd_819 : (Cond.code yX9_launch cX9_launch 3 (some .int) : Cond) ∈ wsB := wt4 (List.mem_of_getElem? (i := 99) rfl) rfl
theorem wd_825 : (Cond.methodLink RL 78 yX9_land : Cond) ∈ wsB := wt4 (List.mem_of_getElem? (i := 105) rfl) rfl
theorem wd_826 : (Cond.instanceMethod yX9_land : Cond) ∈ wsB := wt4 (List.mem_of_getElem? (i := 106) rfl) rfl
theorem wd_827 : (Cond.selects RX9 yX9_land yX9_land : Cond) ∈ wsB := wt4 (List.mem_of_getElem? (i := 107) rfl) rfl
theorem wd_828 : (Cond.code yX9_land cX9_land 3 (some .boolean) : Cond) ∈ wsB := wt4 (List.mem_of_getElem? (i := 108) rfl) rfl
theorem wd_829 : (Cond.methodLink RL 83 yX9_burn : Cond) ∈ wsB := wt4 (List.mem_of_getElem? (i := 109) rfl) rfl
theorem wd_830 : (Cond.instanceMethod yX9_burn : Cond) ∈ wsB := wt4 (List.mem_of_getElem? (i := 110) rfl) rfl
theorem wd_831 : (Cond.selects RX9 yX9_burn yX9_burn : Cond) ∈ wsB := wt4 (List.mem_of_getElem? (i := 111) rfl) rfl
theorem wd_832 : (Cond.code yX9_burn cX9_burn 3 (some .int) : Cond) ∈ wsB := wt4 (List.mem_of_getElem? (i := 112) rfl) rfl
theorem wd_837 : (Cond.methodLink RL 87 yX9_saw : Cond) ∈ wsB := wt4 (List.mem_of_getElem? (i := 117) rfl) rfl
theorem wd_838 : (Cond.instanceMethod yX9_saw : Cond) ∈ wsB := wt4 (List.mem_of_getElem? (i := 118) rfl) rfl
theorem wd_839 : (Cond.selects RX9 yX9_saw yX9_saw : Cond) ∈ wsB := wt4 (List.mem_of_getElem? (i := 119) rfl) rfl
theorem wd_840 : (Cond.code yX9_saw cX9_saw 3 (some .int) : Cond) ∈ wsB := wt4 (List.mem_of_getElem? (i := 120) rfl) rfl
theorem wd_842 : (Cond.methodLink RL 91 yX9_ahead : Cond) ∈ wsB := wt4 (List.mem_of_getElem? (i := 122) rfl) rfl
theorem wd_843 : (Cond.instanceMethod yX9_ahead : Cond) ∈ wsB := wt4 (List.mem_of_getElem? (i := 123) rfl) rfl
theorem wd_844 : (Cond.selects RX9 yX9_ahead yX9_ahead : Cond) ∈ wsB := wt4 (List.mem_of_getElem? (i := 124) rfl) rfl
theorem wd_845 : (Cond.code yX9_ahead cX9_ahead 6 (some .int) : Cond) ∈ wsB := wt4 (List.mem_of_getElem? (i := 125) rfl) rfl
theorem wd_846 : (Cond.methodLink RL 95 yX9_dam : Cond) ∈ wsB := wt4 (List.mem_of_getElem? (i := 126) rfl) rfl
theorem wd_847 : (Cond.instanceMethod yX9_dam : Cond) ∈ wsB := wt4 (List.mem_of_getElem? (i := 127) rfl) rfl
theorem wd_848 : (Cond.selects RX9 yX9_dam yX9_dam : Cond) ∈ wsB := wt4 (List.mem_of_getElem? (i := 128) rfl) rfl
theorem wd_849 : (Cond.code yX9_dam cX9_dam 2 (some .int) : Cond) ∈ wsB := wt4 (List.mem_of_getElem? (i := 129) rfl) rfl
theorem wd_850 : (Cond.methodLink RL 99 yX9_appeal : Cond) ∈ wsB := wt4 (List.mem_of_getElem? (i := 130) rfl) rfl
theorem wd_851 : (Cond.instanceMethod yX9_appeal : Cond) ∈ wsB := wt4 (List.mem_of_getElem? (i := 131) rfl) rfl
theorem wd_852 : (Cond.selects RX9 yX9_appeal yX9_appeal : Cond) ∈ wsB := wt4 (List.mem_of_getElem? (i := 132) rfl) rfl
theorem wd_853 : (Cond.code yX9_appeal cX9_appeal 2 (some .int) : Cond) ∈ wsB := wt4 (List.mem_of_getElem? (i := 133) rfl) rfl
theorem wd_867 : (Cond.methodLink RL 103 yX9_votes : Cond) ∈ wsB := wt4 (List.mem_of_getElem? (i := 147) rfl) rfl
theorem wd_868 : (Cond.instanceMethod yX9_votes : Cond) ∈ wsB := wt4 (List.mem_of_getElem? (i := 148) rfl) rfl
theorem wd_869 : (Cond.selects RX9 yX9_votes yX9_votes : Cond) ∈ wsB := wt4 (List.mem_of_getElem? (i := 149) rfl) rfl
theorem wd_870 : (Cond.code yX9_votes cX9_votes 3 (some .int) : Cond) ∈ wsB := wt4 (List.mem_of_getElem? (i := 150) rfl) rfl
theorem wd_871 : (Cond.methodLink RL 107 yX9_flood : Cond) ∈ wsB := wt4 (List.mem_of_getElem? (i := 151) rfl) rfl
theorem wd_872 : (Cond.instanceMethod yX9_flood : Cond) ∈ wsB := wt4 (List.mem_of_getElem? (i := 152) rfl) rfl
theorem wd_873 : (Cond.selects RX9 yX9_flood yX9_flood : Cond) ∈ wsB := wt4 (List.mem_of_getElem? (i := 153) rfl) rfl
theorem wd_874 : (Cond.code yX9_flood cX9_flood 2 (some .int) : Cond) ∈ wsB := wt4 (List.mem_of_getElem? (i := 154) rfl) rfl
theorem wd_906 : (Cond.methodLink RL 111 yX9_elected : Cond) ∈ wsB := wt4 (List.mem_of_getElem? (i := 186) rfl) rfl
theorem wd_907 : (Cond.instanceMethod yX9_elected : Cond) ∈ wsB := wt4 (List.mem_of_getElem? (i := 187) rfl) rfl
theorem wd_908 : (Cond.selects RX9 yX9_elected yX9_elected : Cond) ∈ wsB := wt4 (List.mem_of_getElem? (i := 188) rfl) rfl
theorem wd_909 : (Cond.code yX9_elected cX9_elected 2 (some .int) : Cond) ∈ wsB := wt4 (List.mem_of_getElem? (i := 189) rfl) rfl
theorem wd_918 : (Cond.methodLink RL 115 yX9_wedding : Cond) ∈ wsB := wt4 (List.mem_of_getElem? (i := 198) rfl) rfl
theorem wd_919 : (Cond.instanceMethod yX9_wedding : Cond) ∈ wsB := wt4 (List.mem_of_getElem? (i := 199) rfl) rfl
theorem wd_920 : (Cond.selects RX9 yX9_wedding yX9_wedding : Cond) ∈ wsB := wt4 (List.mem_of_getElem? (i := 200) rfl) rfl
theorem wd_921 : (Cond.code yX9_wedding cX9_wedding 4 (some .int) : Cond) ∈ wsB := wt4 (List.mem_of_getElem? (i := 201) rfl) rfl
theorem wd_922 : (Cond.methodLink RL 119 yX9_winter : Cond) ∈ wsB := wt4 (List.mem_of_getElem? (i := 202) rfl) rfl
theorem wd_923 : (Cond.instanceMethod yX9_winter : Cond) ∈ wsB := wt4 (List.mem_of_getElem? (i := 203) rfl) rfl
theorem wd_924 : (Cond.selects RX9 yX9_winter yX9_winter : Cond) ∈ wsB := wt4 (List.mem_of_getElem? (i := 204) rfl) rfl
theorem wd_925 : (Cond.code yX9_winter cX9_winter 2 (some .int) : Cond) ∈ wsB := wt4 (List.mem_of_getElem? (i := 205) rfl) rfl
theorem wd_931 : (Cond.methodLink RL 123 yX9_days : Cond) ∈ wsB := wt4 (List.mem_of_getElem? (i := 211) rfl) rfl
theorem wd_932 : (Cond.instanceMethod yX9_days : Cond) ∈ wsB := wt4 (List.mem_of_getElem? (i := 212) rfl) rfl
theorem wd_933 : (Cond.selects RX9 yX9_days yX9_days : Cond) ∈ wsB := wt4 (List.mem_of_getElem? (i := 213) rfl) rfl
theorem wd_934 : (Cond.code yX9_days cX9_days 3 (some .int) : Cond) ∈ wsB := wt4 (List.mem_of_getElem? (i := 214) rfl) rfl
theorem wd_966 : (Cond.methodLink RL 127 yX9_floats : Cond) ∈ wsB := wt5 (List.mem_of_getElem? (i := 6) rfl) rfl
theorem wd_967 : (Cond.instanceMethod yX9_floats : Cond) ∈ wsB := wt5 (List.mem_of_getElem? (i := 7) rfl) rfl
theorem wd_968 : (Cond.selects RX9 yX9_floats yX9_floats : Cond) ∈ wsB := wt5 (List.mem_of_getElem? (i := 8) rfl) rfl
theorem wd_969 : (Cond.code yX9_floats cX9_floats 4 (some .int) : Cond) ∈ wsB := wt5 (List.mem_of_getElem? (i := 9) rfl) rfl
theorem wd_970 : (Cond.methodLink RL 131 yX9_letAhead : Cond) ∈ wsB := wt5 (List.mem_of_getElem? (i := 10) rfl) rfl
theorem wd_971 : (Cond.instanceMethod yX9_letAhead : Cond) ∈ wsB := wt5 (List.mem_of_getElem? (i := 11) rfl) rfl
theorem wd_972 : (Cond.selects RX9 yX9_letAhead yX9_letAhead : Cond) ∈ wsB := wt5 (List.mem_of_getElem? (i := 12) rfl) rfl
theorem wd_973 : (Cond.code yX9_letAhead cX9_letAhead 8 (some .int) : Cond) ∈ wsB := wt5 (List.mem_of_getElem? (i := 13) rfl) rfl
theorem wd_986 : (Cond.methodLink RL 135 yX9_kin : Cond) ∈ wsB := wt5 (List.mem_of_getElem? (i := 26) rfl) rfl
theorem wd_987 : (Cond.instanceMethod yX9_kin : Cond) ∈ wsB := wt5 (List.mem_of_getElem? (i := 27) rfl) rfl
theorem wd_988 : (Cond.selects RX9 yX9_kin yX9_kin : Cond) ∈ wsB := wt5 (List.mem_of_getElem? (i := 28) rfl) rfl
theorem wd_989 : (Cond.code yX9_kin cX9_kin 5 (some .int) : Cond) ∈ wsB := wt5 (List.mem_of_getElem? (i := 29) rfl) rfl
theorem wd_994 : (Cond.methodLink RL 139 yX9_kinOf : Cond) ∈ wsB := wt5 (List.mem_of_getElem? (i := 34) rfl) rfl
theorem wd_995 : (Cond.instanceMethod yX9_kinOf : Cond) ∈ wsB := wt5 (List.mem_of_getElem? (i := 35) rfl) rfl
theorem wd_996 : (Cond.selects RX9 yX9_kinOf yX9_kinOf : Cond) ∈ wsB := wt5 (List.mem_of_getElem? (i := 36) rfl) rfl
theorem wd_997 : (Cond.code yX9_kinOf cX9_kinOf 4 (some .int) : Cond) ∈ wsB := wt5 (List.mem_of_getElem? (i := 37) rfl) rfl
theorem wd_998 : (Cond.methodLink RL 143 yX9_was : Cond) ∈ wsB := wt5 (List.mem_of_getElem? (i := 38) rfl) rfl
theorem wd_999 : (Cond.instanceMethod yX9_was : Cond) ∈ wsB := wt5 (List.mem_of_getElem? (i := 39) rfl) rfl
theorem wd_1000 : (Cond.selects RX9 yX9_was yX9_was : Cond) ∈ wsB := wt5 (List.mem_of_getElem? (i := 40) rfl) rfl
theorem wd_1001 : (Cond.code yX9_was cX9_was 3 (some .int) : Cond) ∈ wsB := wt5 (List.mem_of_getElem? (i := 41) rfl) rfl
theorem wd_1013 : (Cond.methodLink RL 147 yX9_wereAt : Cond) ∈ wsB := wt5 (List.mem_of_getElem? (i := 53) rfl) rfl
theorem wd_1014 : (Cond.instanceMethod yX9_wereAt : Cond) ∈ wsB := wt5 (List.mem_of_getElem? (i := 54) rfl) rfl
theorem wd_1015 : (Cond.selects RX9 yX9_wereAt yX9_wereAt : Cond) ∈ wsB := wt5 (List.mem_of_getElem? (i := 55) rfl) rfl
theorem wd_1016 : (Cond.code yX9_wereAt cX9_wereAt 4 (some .int) : Cond) ∈ wsB := wt5 (List.mem_of_getElem? (i := 56) rfl) rfl
theorem wd_1030 : (Cond.methodLink RL 151 yX9_likely : Cond) ∈ wsB := wt5 (List.mem_of_getElem? (i := 70) rfl) rfl
theorem wd_1031 : (Cond.instanceMethod yX9_likely : Cond) ∈ wsB := wt5 (List.mem_of_getElem? (i := 71) rfl) rfl
theorem wd_1032 : (Cond.selects RX9 yX9_likely yX9_likely : Cond) ∈ wsB := wt5 (List.mem_of_getElem? (i := 72) rfl) rfl
theorem wd_1033 : (Cond.code yX9_likely cX9_likely 11 (some .int) : Cond) ∈ wsB := wt5 (List.mem_of_getElem? (i := 73) rfl) rfl
theorem wd_1038 : (Cond.methodLink RL 155 yX9_sight : Cond) ∈ wsB := wt5 (List.mem_of_getElem? (i := 78) rfl) rfl
theorem wd_1039 : (Cond.instanceMethod yX9_sight : Cond) ∈ wsB := wt5 (List.mem_of_getElem? (i := 79) rfl) rfl
theorem wd_1040 : (Cond.selects RX9 yX9_sight yX9_sight : Cond) ∈ wsB := wt5 (List.mem_of_getElem? (i := 80) rfl) rfl
theorem wd_1041 : (Cond.code yX9_sight cX9_sight 4 (some .int) : Cond) ∈ wsB := wt5 (List.mem_of_getElem? (i := 81) rfl) rfl
theorem wd_1046 : (Cond.methodLink RL 159 yX9_parted : Cond) ∈ wsB := wt5 (List.mem_of_getElem? (i := 86) rfl) rfl
theorem wd_1047 : (Cond.instanceMethod yX9_parted : Cond) ∈ wsB := wt5 (List.mem_of_getElem? (i := 87) rfl) rfl
theorem wd_1048 : (Cond.selects RX9 yX9_parted yX9_parted : Cond) ∈ wsB := wt5 (List.mem_of_getElem? (i := 88) rfl) rfl
theorem wd_1049 : (Cond.code yX9_parted cX9_parted 10 (some .int) : Cond) ∈ wsB := wt5 (List.mem_of_getElem? (i := 89) rfl) rfl
theorem wd_1059 : (Cond.methodLink RL 163 yX9_owes : Cond) ∈ wsB := wt5 (List.mem_of_getElem? (i := 99) rfl) rfl
theorem wd_1060 : (Cond.instanceMethod yX9_owes : Cond) ∈ wsB := wt5 (List.mem_of_getElem? (i := 100) rfl) rfl
theorem wd_1061 : (Cond.selects RX9 yX9_owes yX9_owes : Cond) ∈ wsB := wt5 (List.mem_of_getElem? (i := 101) rfl) rfl
theorem wd_1062 : (Cond.code yX9_owes cX9_owes 3 (some .int) : Cond) ∈ wsB := wt5 (List.mem_of_getElem? (i := 102) rfl) rfl
theorem wd_1063 : (Cond.methodLink RL 167 yX9_payments : Cond) ∈ wsB := wt5 (List.mem_of_getElem? (i := 103) rfl) rfl
theorem wd_1064 : (Cond.instanceMethod yX9_payments : Cond) ∈ wsB := wt5 (List.mem_of_getElem? (i := 104) rfl) rfl
theorem wd_1065 : (Cond.selects RX9 yX9_payments yX9_payments : Cond) ∈ wsB := wt5 (List.mem_of_getElem? (i := 105) rfl) rfl
theorem wd_1066 : (Cond.code yX9_payments cX9_payments 7 (some .int) : Cond) ∈ wsB := wt5 (List.mem_of_getElem? (i := 106) rfl) rfl
theorem wd_1068 : (Cond.methodLink RL 171 yX9_repaid : Cond) ∈ wsB := wt5 (List.mem_of_getElem? (i := 108) rfl) rfl
theorem wd_1069 : (Cond.instanceMethod yX9_repaid : Cond) ∈ wsB := wt5 (List.mem_of_getElem? (i := 109) rfl) rfl
theorem wd_1070 : (Cond.selects RX9 yX9_repaid yX9_repaid : Cond) ∈ wsB := wt5 (List.mem_of_getElem? (i := 110) rfl) rfl
theorem wd_1071 : (Cond.code yX9_repaid cX9_repaid 11 (some .int) : Cond) ∈ wsB := wt5 (List.mem_of_getElem? (i := 111) rfl) rfl
theorem wd_1076 : (Cond.methodLink RL 175 yX9_seed : Cond) ∈ wsB := wt5 (List.mem_of_getElem? (i := 116) rfl) rfl
theorem wd_1077 : (Cond.instanceMethod yX9_seed : Cond) ∈ wsB := wt5 (List.mem_of_getElem? (i := 117) rfl) rfl
theorem wd_1078 : (Cond.selects RX9 yX9_seed yX9_seed : Cond) ∈ wsB := wt5 (List.mem_of_getElem? (i := 118) rfl) rfl
theorem wd_1079 : (Cond.code yX9_seed cX9_seed 3 (some .int) : Cond) ∈ wsB := wt5 (List.mem_of_getElem? (i := 119) rfl) rfl
theorem wd_1080 : (Cond.methodLink RL 179 yX9_drawn : Cond) ∈ wsB := wt5 (List.mem_of_getElem? (i := 120) rfl) rfl
theorem wd_1081 : (Cond.instanceMethod yX9_drawn : Cond) ∈ wsB := wt5 (List.mem_of_getElem? (i := 121) rfl) rfl
theorem wd_1082 : (Cond.selects RX9 yX9_drawn yX9_drawn : Cond) ∈ wsB := wt5 (List.mem_of_getElem? (i := 122) rfl) rfl
theorem wd_1083 : (Cond.code yX9_drawn cX9_drawn 11 (some .int) : Cond) ∈ wsB := wt5 (List.mem_of_getElem? (i := 123) rfl) rfl
theorem wd_1091 : (Cond.methodLink RL 184 yX9_count : Cond) ∈ wsB := wt5 (List.mem_of_getElem? (i := 131) rfl) rfl
theorem wd_1092 : (Cond.instanceMethod yX9_count : Cond) ∈ wsB := wt5 (List.mem_of_getElem? (i := 132) rfl) rfl
theorem wd_1093 : (Cond.selects RX9 yX9_count yX9_count : Cond) ∈ wsB := wt5 (List.mem_of_getElem? (i := 133) rfl) rfl
theorem wd_1094 : (Cond.code yX9_count cX9_count 2 (some .int) : Cond) ∈ wsB := wt5 (List.mem_of_getElem? (i := 134) rfl) rfl
theorem wd_1107 : (Cond.methodLink RL 188 yX9_image : Cond) ∈ wsB := wt5 (List.mem_of_getElem? (i := 147) rfl) rfl
theorem wd_1108 : (Cond.instanceMethod yX9_image : Cond) ∈ wsB := wt5 (List.mem_of_getElem? (i := 148) rfl) rfl
theorem wd_1109 : (Cond.selects RX9 yX9_image yX9_image : Cond) ∈ wsB := wt5 (List.mem_of_getElem? (i := 149) rfl) rfl
theorem wd_1110 : (Cond.code yX9_image cX9_image 2 (some .int) : Cond) ∈ wsB := wt5 (List.mem_of_getElem? (i := 150) rfl) rfl
theorem wd_1122 : (Cond.methodLink RL 192 yX9_back : Cond) ∈ wsB := wt5 (List.mem_of_getElem? (i := 162) rfl) rfl
theorem wd_1123 : (Cond.instanceMethod yX9_back : Cond) ∈ wsB := wt5 (List.mem_of_getElem? (i := 163) rfl) rfl
theorem wd_1124 : (Cond.selects RX9 yX9_back yX9_back : Cond) ∈ wsB := wt5 (List.mem_of_getElem? (i := 164) rfl) rfl
theorem wd_1125 : (Cond.code yX9_back cX9_back 2 (some .int) : Cond) ∈ wsB := wt5 (List.mem_of_getElem? (i := 165) rfl) rfl
theorem wd_1130 : (Cond.classLink RL 10 RX10 : Cond) ∈ wsB := wt5 (List.mem_of_getElem? (i := 170) rfl) rfl
theorem wd_1131 : (Cond.instantiable RX10 80 : Cond) ∈ wsB := wt5 (List.mem_of_getElem? (i := 171) rfl) rfl
theorem wd_1132 : (Cond.methodLink RL 12 yX10_init : Cond) ∈ wsB := wt5 (List.mem_of_getElem? (i := 172) rfl) rfl
theorem wd_1133 : (Cond.instanceMethod yX10_init : Cond) ∈ wsB := wt5 (List.mem_of_getElem? (i := 173) rfl) rfl
theorem wd_1134 : (Cond.code yX10_init cX10_init 1 none : Cond) ∈ wsB := wt5 (List.mem_of_getElem? (i := 174) rfl) rfl
theorem wd_1135 : (Cond.methodLink RX10 1 objectInit : Cond) ∈ wsB := wt5 (List.mem_of_getElem? (i := 175) rfl) rfl
theorem wd_1376 : (Cond.arrayClass .boolean : Cond) ∈ wsB := wt6 (List.mem_of_getElem? (i := 176) rfl) rfl
theorem wd_1377 : (Cond.methodLink RL 17 yX10_feed : Cond) ∈ wsB := wt6 (List.mem_of_getElem? (i := 177) rfl) rfl
theorem wd_1378 : (Cond.instanceMethod yX10_feed : Cond) ∈ wsB := wt6 (List.mem_of_getElem? (i := 178) rfl) rfl
theorem wd_1379 : (Cond.selects RX10 yX10_feed yX10_feed : Cond) ∈ wsB := wt6 (List.mem_of_getElem? (i := 179) rfl) rfl
theorem wd_1380 : (Cond.code yX10_feed cX10_feed 6 (some .int) : Cond) ∈ wsB := wt6 (List.mem_of_getElem? (i := 180) rfl) rfl
theorem wd_1385 : (Cond.methodLink RL 22 yX10_end : Cond) ∈ wsB := wt6 (List.mem_of_getElem? (i := 185) rfl) rfl
theorem wd_1386 : (Cond.instanceMethod yX10_end : Cond) ∈ wsB := wt6 (List.mem_of_getElem? (i := 186) rfl) rfl
theorem wd_1387 : (Cond.selects RX10 yX10_end yX10_end : Cond) ∈ wsB := wt6 (List.mem_of_getElem? (i := 187) rfl) rfl
theorem wd_1388 : (Cond.code yX10_end cX10_end 2 (some .int) : Cond) ∈ wsB := wt6 (List.mem_of_getElem? (i := 188) rfl) rfl
theorem wd_1389 : (Cond.methodLink RL 27 yX10_river : Cond) ∈ wsB := wt6 (List.mem_of_getElem? (i := 189) rfl) rfl
theorem wd_1390 : (Cond.instanceMethod yX10_river : Cond) ∈ wsB := wt6 (List.mem_of_getElem? (i := 190) rfl) rfl
theorem wd_1391 : (Cond.selects RX10 yX10_river yX10_river : Cond) ∈ wsB := wt6 (List.mem_of_getElem? (i := 191) rfl) rfl
theorem wd_1392 : (Cond.code yX10_river cX10_river 3 (some .int) : Cond) ∈ wsB := wt6 (List.mem_of_getElem? (i := 192) rfl) rfl
theorem wd_1469 : (Cond.methodLink RL 31 yX10_rule : Cond) ∈ wsB := wt7 (List.mem_of_getElem? (i := 29) rfl) rfl
theorem wd_1470 : (Cond.instanceMethod yX10_rule : Cond) ∈ wsB := wt7 (List.mem_of_getElem? (i := 30) rfl) rfl
theorem wd_1471 : (Cond.selects RX10 yX10_rule yX10_rule : Cond) ∈ wsB := wt7 (List.mem_of_getElem? (i := 31) rfl) rfl
theorem wd_1472 : (Cond.code yX10_rule cX10_rule 3 (some .int) : Cond) ∈ wsB := wt7 (List.mem_of_getElem? (i := 32) rfl) rfl
theorem wd_1550 : (Cond.methodLink RL 35 yX10_force : Cond) ∈ wsB := wt7 (List.mem_of_getElem? (i := 110) rfl) rfl
theorem wd_1551 : (Cond.instanceMethod yX10_force : Cond) ∈ wsB := wt7 (List.mem_of_getElem? (i := 111) rfl) rfl
theorem wd_1552 : (Cond.selects RX10 yX10_force yX10_force : Cond) ∈ wsB := wt7 (List.mem_of_getElem? (i := 112) rfl) rfl
theorem wd_1553 : (Cond.code yX10_force cX10_force 3 (some .int) : Cond) ∈ wsB := wt7 (List.mem_of_getElem? (i := 113) rfl) rfl
theorem wd_1563 : (Cond.methodLink RL 40 yX10_bind : Cond) ∈ wsB := wt7 (List.mem_of_getElem? (i := 123) rfl) rfl
theorem wd_1564 : (Cond.instanceMethod yX10_bind : Cond) ∈ wsB := wt7 (List.mem_of_getElem? (i := 124) rfl) rfl
theorem wd_1565 : (Cond.selects RX10 yX10_bind yX10_bind : Cond) ∈ wsB := wt7 (List.mem_of_getElem? (i := 125) rfl) rfl
theorem wd_1566 : (Cond.code yX10_bind cX10_bind 4 (some .int) : Cond) ∈ wsB := wt7 (List.mem_of_getElem? (i := 126) rfl) rfl
theorem wd_1571 : (Cond.methodLink RL 44 yX10_law : Cond) ∈ wsB := wt7 (List.mem_of_getElem? (i := 131) rfl) rfl
theorem wd_1572 : (Cond.instanceMethod yX10_law : Cond) ∈ wsB := wt7 (List.mem_of_getElem? (i := 132) rfl) rfl
theorem wd_1573 : (Cond.selects RX10 yX10_law yX10_law : Cond) ∈ wsB := wt7 (List.mem_of_getElem? (i := 133) rfl) rfl
theorem wd_1574 : (Cond.code yX10_law cX10_law 4 (some .int) : Cond) ∈ wsB := wt7 (List.mem_of_getElem? (i := 134) rfl) rfl
theorem wd_1576 : (Cond.methodLink RL 48 yX10_bend : Cond) ∈ wsB := wt7 (List.mem_of_getElem? (i := 136) rfl) rfl
theorem wd_1577 : (Cond.instanceMethod yX10_bend : Cond) ∈ wsB := wt7 (List.mem_of_getElem? (i := 137) rfl) rfl
theorem wd_1578 : (Cond.selects RX10 yX10_bend yX10_bend : Cond) ∈ wsB := wt7 (List.mem_of_getElem? (i := 138) rfl) rfl
theorem wd_1579 : (Cond.code yX10_bend cX10_bend 3 (some .int) : Cond) ∈ wsB := wt7 (List.mem_of_getElem? (i := 139) rfl) rfl
theorem wd_1595 : (Cond.methodLink RL 52 yX10_village : Cond) ∈ wsB := wt7 (List.mem_of_getElem? (i := 155) rfl) rfl
theorem wd_1596 : (Cond.instanceMethod yX10_village : Cond) ∈ wsB := wt7 (List.mem_of_getElem? (i := 156) rfl) rfl
theorem wd_1597 : (Cond.selects RX10 yX10_village yX10_village : Cond) ∈ wsB := wt7 (List.mem_of_getElem? (i := 157) rfl) rfl
theorem wd_1598 : (Cond.code yX10_village cX10_village 3 (some .int) : Cond) ∈ wsB := wt7 (List.mem_of_getElem? (i := 158) rfl) rfl
theorem wd_1675 : (Cond.methodLink RL 56 yX10_log : Cond) ∈ wsB := wt7 (List.mem_of_getElem? (i := 235) rfl) rfl
theorem wd_1676 : (Cond.instanceMethod yX10_log : Cond) ∈ wsB := wt7 (List.mem_of_getElem? (i := 236) rfl) rfl
theorem wd_1677 : (Cond.selects RX10 yX10_log yX10_log : Cond) ∈ wsB := wt7 (List.mem_of_getElem? (i := 237) rfl) rfl
theorem wd_1678 : (Cond.code yX10_log cX10_log 3 (some .int) : Cond) ∈ wsB := wt7 (List.mem_of_getElem? (i := 238) rfl) rfl
theorem wd_1691 : (Cond.methodLink RL 60 yX10_notch : Cond) ∈ wsB := wt8 (List.mem_of_getElem? (i := 11) rfl) rfl
theorem wd_1692 : (Cond.instanceMethod yX10_notch : Cond) ∈ wsB := wt8 (List.mem_of_getElem? (i := 12) rfl) rfl
theorem wd_1693 : (Cond.selects RX10 yX10_notch yX10_notch : Cond) ∈ wsB := wt8 (List.mem_of_getElem? (i := 13) rfl) rfl
theorem wd_1694 : (Cond.code yX10_notch cX10_notch 3 (some .int) : Cond) ∈ wsB := wt8 (List.mem_of_getElem? (i := 14) rfl) rfl
theorem wd_1695 : (Cond.methodLink RL 64 yX10_cut : Cond) ∈ wsB := wt8 (List.mem_of_getElem? (i := 15) rfl) rfl
theorem wd_1696 : (Cond.instanceMethod yX10_cut : Cond) ∈ wsB := wt8 (List.mem_of_getElem? (i := 16) rfl) rfl
theorem wd_1697 : (Cond.selects RX10 yX10_cut yX10_cut : Cond) ∈ wsB := wt8 (List.mem_of_getElem? (i := 17) rfl) rfl
theorem wd_1698 : (Cond.code yX10_cut cX10_cut 3 (some .int) : Cond) ∈ wsB := wt8 (List.mem_of_getElem? (i := 18) rfl) rfl
theorem wd_1707 : (Cond.methodLink RL 69 yX10_cutOver : Cond) ∈ wsB := wt8 (List.mem_of_getElem? (i := 27) rfl) rfl
theorem wd_1708 : (Cond.instanceMethod yX10_cutOver : Cond) ∈ wsB := wt8 (List.mem_of_getElem? (i := 28) rfl) rfl
theorem wd_1709 : (Cond.selects RX10 yX10_cutOver yX10_cutOver : Cond) ∈ wsB := wt8 (List.mem_of_getElem? (i := 29) rfl) rfl
theorem wd_1710 : (Cond.code yX10_cutOver cX10_cutOver 5 (some .int) : Cond) ∈ wsB := wt8 (List.mem_of_getElem? (i := 30) rfl) rfl
theorem wd_1711 : (Cond.methodLink RL 73 yX10_undo : Cond) ∈ wsB := wt8 (List.mem_of_getElem? (i := 31) rfl) rfl
theorem wd_1712 : (Cond.instanceMethod yX10_undo : Cond) ∈ wsB := wt8 (List.mem_of_getElem? (i := 32) rfl) rfl
theorem wd_1713 : (Cond.selects RX10 yX10_undo yX10_undo : Cond) ∈ wsB := wt8 (List.mem_of_getElem? (i := 33) rfl) rfl
theorem wd_1714 : (Cond.code yX10_undo cX10_undo 5 (some .int) : Cond) ∈ wsB := wt8 (List.mem_of_getElem? (i := 34) rfl) rfl
theorem wd_1715 : (Cond.methodLink RL 77 yX10_launch : Cond) ∈ wsB := wt8 (List.mem_of_getElem? (i := 35) rfl) rfl
theorem wd_1716 : (Cond.instanceMethod yX10_launch : Cond) ∈ wsB := wt8 (List.mem_of_getElem? (i := 36) rfl) rfl
theorem wd_1717 : (Cond.selects RX10 yX10_launch yX10_launch : Cond) ∈ wsB := wt8 (List.mem_of_getElem? (i := 37) rfl) rfl
theorem wd_1718 : (Cond.code yX10_launch cX10_launch 2 (some .int) : Cond) ∈ wsB := wt8 (List.mem_of_getElem? (i := 38) rfl) rfl
theorem wd_1719 : (Cond.methodLink RL 82 yX10_land : Cond) ∈ wsB := wt8 (List.mem_of_getElem? (i := 39) rfl) rfl
theorem wd_1720 : (Cond.instanceMethod yX10_land : Cond) ∈ wsB := wt8 (List.mem_of_getElem? (i := 40) rfl) rfl
theorem wd_1721 : (Cond.selects RX10 yX10_land yX10_land : Cond) ∈ wsB := wt8 (List.mem_of_getElem? (i := 41) rfl) rfl
theorem wd_1722 : (Cond.code yX10_land cX10_land 4 (some .boolean) : Cond) ∈ wsB := wt8 (List.mem_of_getElem? (i := 42) rfl) rfl
theorem wd_1723 : (Cond.methodLink RL 86 yX10_burn : Cond) ∈ wsB := wt8 (List.mem_of_getElem? (i := 43) rfl) rfl
theorem wd_1724 : (Cond.instanceMethod yX10_burn : Cond) ∈ wsB := wt8 (List.mem_of_getElem? (i := 44) rfl) rfl
theorem wd_1725 : (Cond.selects RX10 yX10_burn yX10_burn : Cond) ∈ wsB := wt8 (List.mem_of_getElem? (i := 45) rfl) rfl
theorem wd_1726 : (Cond.code yX10_burn cX10_burn 3 (some .int) : Cond) ∈ wsB := wt8 (List.mem_of_getElem? (i := 46) rfl) rfl
theorem wd_1731 : (Cond.methodLink RL 90 yX10_saw : Cond) ∈ wsB := wt8 (List.mem_of_getElem? (i := 51) rfl) rfl
theorem wd_1732 : (Cond.instanceMethod yX10_saw : Cond) ∈ wsB := wt8 (List.mem_of_getElem? (i := 52) rfl) rfl
theorem wd_1733 : (Cond.selects RX10 yX10_saw yX10_saw : Cond) ∈ wsB := wt8 (List.mem_of_getElem? (i := 53) rfl) rfl
theorem wd_1734 : (Cond.code yX10_saw cX10_saw 3 (some .int) : Cond) ∈ wsB := wt8 (List.mem_of_getElem? (i := 54) rfl) rfl
theorem wd_1735 : (Cond.methodLink RL 94 yX10_ahead : Cond) ∈ wsB := wt8 (List.mem_of_getElem? (i := 55) rfl) rfl
theorem wd_1736 : (Cond.instanceMethod yX10_ahead : Cond) ∈ wsB := wt8 (List.mem_of_getElem? (i := 56) rfl) rfl
theorem wd_1737 : (Cond.selects RX10 yX10_ahead yX10_ahead : Cond) ∈ wsB := wt8 (List.mem_of_getElem? (i := 57) rfl) rfl
theorem wd_1738 : (Cond.code yX10_ahead cX10_ahead 5 (some .int) : Cond) ∈ wsB := wt8 (List.mem_of_getElem? (i := 58) rfl) rfl
theorem wd_1739 : (Cond.methodLink RL 98 yX10_dam : Cond) ∈ wsB := wt8 (List.mem_of_getElem? (i := 59) rfl) rfl
theorem wd_1740 : (Cond.instanceMethod yX10_dam : Cond) ∈ wsB := wt8 (List.mem_of_getElem? (i := 60) rfl) rfl
theorem wd_1741 : (Cond.selects RX10 yX10_dam yX10_dam : Cond) ∈ wsB := wt8 (List.mem_of_getElem? (i := 61) rfl) rfl
theorem wd_1742 : (Cond.code yX10_dam cX10_dam 2 (some .int) : Cond) ∈ wsB := wt8 (List.mem_of_getElem? (i := 62) rfl) rfl
theorem wd_1743 : (Cond.methodLink RL 106 yX10_votes : Cond) ∈ wsB := wt8 (List.mem_of_getElem? (i := 63) rfl) rfl
theorem wd_1744 : (Cond.instanceMethod yX10_votes : Cond) ∈ wsB := wt8 (List.mem_of_getElem? (i := 64) rfl) rfl
theorem wd_1745 : (Cond.selects RX10 yX10_votes yX10_votes : Cond) ∈ wsB := wt8 (List.mem_of_getElem? (i := 65) rfl) rfl
theorem wd_1746 : (Cond.code yX10_votes cX10_votes 3 (some .int) : Cond) ∈ wsB := wt8 (List.mem_of_getElem? (i := 66) rfl) rfl
theorem wd_1751 : (Cond.methodLink RL 102 yX10_appeal : Cond) ∈ wsB := wt8 (List.mem_of_getElem? (i := 71) rfl) rfl
theorem wd_1752 : (Cond.instanceMethod yX10_appeal : Cond) ∈ wsB := wt8 (List.mem_of_getElem? (i := 72) rfl) rfl
theorem wd_1753 : (Cond.selects RX10 yX10_appeal yX10_appeal : Cond) ∈ wsB := wt8 (List.mem_of_getElem? (i := 73) rfl) rfl
theorem wd_1754 : (Cond.code yX10_appeal cX10_appeal 3 (some .int) : Cond) ∈ wsB := wt8 (List.mem_of_getElem? (i := 74) rfl) rfl
theorem wd_1755 : (Cond.methodLink RL 110 yX10_flood : Cond) ∈ wsB := wt8 (List.mem_of_getElem? (i := 75) rfl) rfl
theorem wd_1756 : (Cond.instanceMethod yX10_flood : Cond) ∈ wsB := wt8 (List.mem_of_getElem? (i := 76) rfl) rfl
theorem wd_1757 : (Cond.selects RX10 yX10_flood yX10_flood : Cond) ∈ wsB := wt8 (List.mem_of_getElem? (i := 77) rfl) rfl
theorem wd_1758 : (Cond.code yX10_flood cX10_flood 2 (some .int) : Cond) ∈ wsB := wt8 (List.mem_of_getElem? (i := 78) rfl) rfl
theorem wd_1772 : (Cond.methodLink RL 114 yX10_elected : Cond) ∈ wsB := wt8 (List.mem_of_getElem? (i := 92) rfl) rfl
theorem wd_1773 : (Cond.instanceMethod yX10_elected : Cond) ∈ wsB := wt8 (List.mem_of_getElem? (i := 93) rfl) rfl
theorem wd_1774 : (Cond.selects RX10 yX10_elected yX10_elected : Cond) ∈ wsB := wt8 (List.mem_of_getElem? (i := 94) rfl) rfl
theorem wd_1775 : (Cond.code yX10_elected cX10_elected 3 (some .int) : Cond) ∈ wsB := wt8 (List.mem_of_getElem? (i := 95) rfl) rfl
theorem wd_1792 : (Cond.methodLink RL 118 yX10_wedding : Cond) ∈ wsB := wt8 (List.mem_of_getElem? (i := 112) rfl) rfl
theorem wd_1793 : (Cond.instanceMethod yX10_wedding : Cond) ∈ wsB := wt8 (List.mem_of_getElem? (i := 113) rfl) rfl
theorem wd_1794 : (Cond.selects RX10 yX10_wedding yX10_wedding : Cond) ∈ wsB := wt8 (List.mem_of_getElem? (i := 114) rfl) rfl
theorem wd_1795 : (Cond.code yX10_wedding cX10_wedding 4 (some .int) : Cond) ∈ wsB := wt8 (List.mem_of_getElem? (i := 115) rfl) rfl
theorem wd_1796 : (Cond.methodLink RL 122 yX10_winter : Cond) ∈ wsB := wt8 (List.mem_of_getElem? (i := 116) rfl) rfl
theorem wd_1797 : (Cond.instanceMethod yX10_winter : Cond) ∈ wsB := wt8 (List.mem_of_getElem? (i := 117) rfl) rfl
theorem wd_1798 : (Cond.selects RX10 yX10_winter yX10_winter : Cond) ∈ wsB := wt8 (List.mem_of_getElem? (i := 118) rfl) rfl
theorem wd_1799 : (Cond.code yX10_winter cX10_winter 4 (some .int) : Cond) ∈ wsB := wt8 (List.mem_of_getElem? (i := 119) rfl) rfl
theorem wd_1801 : (Cond.methodLink RL 126 yX10_days : Cond) ∈ wsB := wt8 (List.mem_of_getElem? (i := 121) rfl) rfl
theorem wd_1802 : (Cond.instanceMethod yX10_days : Cond) ∈ wsB := wt8 (List.mem_of_getElem? (i := 122) rfl) rfl
theorem wd_1803 : (Cond.selects RX10 yX10_days yX10_days : Cond) ∈ wsB := wt8 (List.mem_of_getElem? (i := 123) rfl) rfl
theorem wd_1804 : (Cond.code yX10_days cX10_days 3 (some .int) : Cond) ∈ wsB := wt8 (List.mem_of_getElem? (i := 124) rfl) rfl
theorem wd_1846 : (Cond.methodLink RL 130 yX10_floats : Cond) ∈ wsB := wt8 (List.mem_of_getElem? (i := 166) rfl) rfl
theorem wd_1847 : (Cond.instanceMethod yX10_floats : Cond) ∈ wsB := wt8 (List.mem_of_getElem? (i := 167) rfl) rfl
theorem wd_1848 : (Cond.selects RX10 yX10_floats yX10_floats : Cond) ∈ wsB := wt8 (List.mem_of_getElem? (i := 168) rfl) rfl
theorem wd_1849 : (Cond.code yX10_floats cX10_floats 3 (some .int) : Cond) ∈ wsB := wt8 (List.mem_of_getElem? (i := 169) rfl) rfl
theorem wd_1863 : (Cond.methodLink RL 134 yX10_letAhead : Cond) ∈ wsB := wt8 (List.mem_of_getElem? (i := 183) rfl) rfl
theorem wd_1864 : (Cond.instanceMethod yX10_letAhead : Cond) ∈ wsB := wt8 (List.mem_of_getElem? (i := 184) rfl) rfl
theorem wd_1865 : (Cond.selects RX10 yX10_letAhead yX10_letAhead : Cond) ∈ wsB := wt8 (List.mem_of_getElem? (i := 185) rfl) rfl
theorem wd_1866 : (Cond.code yX10_letAhead cX10_letAhead 3 (some .int) : Cond) ∈ wsB := wt8 (List.mem_of_getElem? (i := 186) rfl) rfl
theorem wd_1880 : (Cond.methodLink RL 138 yX10_kin : Cond) ∈ wsB := wt8 (List.mem_of_getElem? (i := 200) rfl) rfl
theorem wd_1881 : (Cond.instanceMethod yX10_kin : Cond) ∈ wsB := wt8 (List.mem_of_getElem? (i := 201) rfl) rfl
theorem wd_1882 : (Cond.selects RX10 yX10_kin yX10_kin : Cond) ∈ wsB := wt8 (List.mem_of_getElem? (i := 202) rfl) rfl
theorem wd_1883 : (Cond.code yX10_kin cX10_kin 5 (some .int) : Cond) ∈ wsB := wt8 (List.mem_of_getElem? (i := 203) rfl) rfl
theorem wd_1888 : (Cond.methodLink RL 142 yX10_kinOf : Cond) ∈ wsB := wt8 (List.mem_of_getElem? (i := 208) rfl) rfl
theorem wd_1889 : (Cond.instanceMethod yX10_kinOf : Cond) ∈ wsB := wt8 (List.mem_of_getElem? (i := 209) rfl) rfl
theorem wd_1890 : (Cond.selects RX10 yX10_kinOf yX10_kinOf : Cond) ∈ wsB := wt8 (List.mem_of_getElem? (i := 210) rfl) rfl
theorem wd_1891 : (Cond.code yX10_kinOf cX10_kinOf 4 (some .int) : Cond) ∈ wsB := wt8 (List.mem_of_getElem? (i := 211) rfl) rfl
theorem wd_1892 : (Cond.methodLink RL 146 yX10_was : Cond) ∈ wsB := wt8 (List.mem_of_getElem? (i := 212) rfl) rfl
theorem wd_1893 : (Cond.instanceMethod yX10_was : Cond) ∈ wsB := wt8 (List.mem_of_getElem? (i := 213) rfl) rfl
theorem wd_1894 : (Cond.selects RX10 yX10_was yX10_was : Cond) ∈ wsB := wt8 (List.mem_of_getElem? (i := 214) rfl) rfl
theorem wd_1895 : (Cond.code yX10_was cX10_was 3 (some .int) : Cond) ∈ wsB := wt8 (List.mem_of_getElem? (i := 215) rfl) rfl
theorem wd_1896 : (Cond.methodLink RL 150 yX10_wereAt : Cond) ∈ wsB := wt8 (List.mem_of_getElem? (i := 216) rfl) rfl
theorem wd_1897 : (Cond.instanceMethod yX10_wereAt : Cond) ∈ wsB := wt8 (List.mem_of_getElem? (i := 217) rfl) rfl
theorem wd_1898 : (Cond.selects RX10 yX10_wereAt yX10_wereAt : Cond) ∈ wsB := wt8 (List.mem_of_getElem? (i := 218) rfl) rfl
theorem wd_1899 : (Cond.code yX10_wereAt cX10_wereAt 4 (some .int) : Cond) ∈ wsB := wt8 (List.mem_of_getElem? (i := 219) rfl) rfl
theorem wd_1908 : (Cond.methodLink RL 154 yX10_likely : Cond) ∈ wsB := wt8 (List.mem_of_getElem? (i := 228) rfl) rfl
theorem wd_1909 : (Cond.instanceMethod yX10_likely : Cond) ∈ wsB := wt8 (List.mem_of_getElem? (i := 229) rfl) rfl
theorem wd_1910 : (Cond.selects RX10 yX10_likely yX10_likely : Cond) ∈ wsB := wt8 (List.mem_of_getElem? (i := 230) rfl) rfl
theorem wd_1911 : (Cond.code yX10_likely cX10_likely 10 (some .int) : Cond) ∈ wsB := wt8 (List.mem_of_getElem? (i := 231) rfl) rfl
theorem wd_1915 : (Cond.methodLink RL 158 yX10_sight : Cond) ∈ wsB := wt8 (List.mem_of_getElem? (i := 235) rfl) rfl
theorem wd_1916 : (Cond.instanceMethod yX10_sight : Cond) ∈ wsB := wt8 (List.mem_of_getElem? (i := 236) rfl) rfl
theorem wd_1917 : (Cond.selects RX10 yX10_sight yX10_sight : Cond) ∈ wsB := wt8 (List.mem_of_getElem? (i := 237) rfl) rfl
theorem wd_1918 : (Cond.code yX10_sight cX10_sight 5 (some .int) : Cond) ∈ wsB := wt8 (List.mem_of_getElem? (i := 238) rfl) rfl
theorem wd_1919 : (Cond.methodLink RL 162 yX10_parted : Cond) ∈ wsB := wt8 (List.mem_of_getElem? (i := 239) rfl) rfl
theorem wd_1920 : (Cond.instanceMethod yX10_parted : Cond) ∈ wsB := wt9 (List.mem_of_getElem? (i := 0) rfl) rfl
theorem wd_1921 : (Cond.selects RX10 yX10_parted yX10_parted : Cond) ∈ wsB := wt9 (List.mem_of_getElem? (i := 1) rfl) rfl
theorem wd_1922 : (Cond.code yX10_parted cX10_parted 6 (some .int) : Cond) ∈ wsB := wt9 (List.mem_of_getElem? (i := 2) rfl) rfl
theorem wd_1927 : (Cond.methodLink RL 166 yX10_owes : Cond) ∈ wsB := wt9 (List.mem_of_getElem? (i := 7) rfl) rfl
theorem wd_1928 : (Cond.instanceMethod yX10_owes : Cond) ∈ wsB := wt9 (List.mem_of_getElem? (i := 8) rfl) rfl
theorem wd_1929 : (Cond.selects RX10 yX10_owes yX10_owes : Cond) ∈ wsB := wt9 (List.mem_of_getElem? (i := 9) rfl) rfl
theorem wd_1930 : (Cond.code yX10_owes cX10_owes 3 (some .int) : Cond) ∈ wsB := wt9 (List.mem_of_getElem? (i := 10) rfl) rfl
theorem wd_1931 : (Cond.methodLink RL 170 yX10_payments : Cond) ∈ wsB := wt9 (List.mem_of_getElem? (i := 11) rfl) rfl
theorem wd_1932 : (Cond.instanceMethod yX10_payments : Cond) ∈ wsB := wt9 (List.mem_of_getElem? (i := 12) rfl) rfl
theorem wd_1933 : (Cond.selects RX10 yX10_payments yX10_payments : Cond) ∈ wsB := wt9 (List.mem_of_getElem? (i := 13) rfl) rfl
theorem wd_1934 : (Cond.code yX10_payments cX10_payments 7 (some .int) : Cond) ∈ wsB := wt9 (List.mem_of_getElem? (i := 14) rfl) rfl
theorem wd_1935 : (Cond.methodLink RL 174 yX10_repaid : Cond) ∈ wsB := wt9 (List.mem_of_getElem? (i := 15) rfl) rfl
theorem wd_1936 : (Cond.instanceMethod yX10_repaid : Cond) ∈ wsB := wt9 (List.mem_of_getElem? (i := 16) rfl) rfl
theorem wd_1937 : (Cond.selects RX10 yX10_repaid yX10_repaid : Cond) ∈ wsB := wt9 (List.mem_of_getElem? (i := 17) rfl) rfl
theorem wd_1938 : (Cond.code yX10_repaid cX10_repaid 10 (some .int) : Cond) ∈ wsB := wt9 (List.mem_of_getElem? (i := 18) rfl) rfl
theorem wd_1939 : (Cond.methodLink RL 178 yX10_seed : Cond) ∈ wsB := wt9 (List.mem_of_getElem? (i := 19) rfl) rfl
theorem wd_1940 : (Cond.instanceMethod yX10_seed : Cond) ∈ wsB := wt9 (List.mem_of_getElem? (i := 20) rfl) rfl
theorem wd_1941 : (Cond.selects RX10 yX10_seed yX10_seed : Cond) ∈ wsB := wt9 (List.mem_of_getElem? (i := 21) rfl) rfl
theorem wd_1942 : (Cond.code yX10_seed cX10_seed 3 (some .int) : Cond) ∈ wsB := wt9 (List.mem_of_getElem? (i := 22) rfl) rfl
theorem wd_1943 : (Cond.methodLink RL 183 yX10_drawn : Cond) ∈ wsB := wt9 (List.mem_of_getElem? (i := 23) rfl) rfl
theorem wd_1944 : (Cond.instanceMethod yX10_drawn : Cond) ∈ wsB := wt9 (List.mem_of_getElem? (i := 24) rfl) rfl
theorem wd_1945 : (Cond.selects RX10 yX10_drawn yX10_drawn : Cond) ∈ wsB := wt9 (List.mem_of_getElem? (i := 25) rfl) rfl
theorem wd_1946 : (Cond.code yX10_drawn cX10_drawn 10 (some .int) : Cond) ∈ wsB := wt9 (List.mem_of_getElem? (i := 26) rfl) rfl
theorem wd_1958 : (Cond.methodLink RL 187 yX10_count : Cond) ∈ wsB := wt9 (List.mem_of_getElem? (i := 38) rfl) rfl
theorem wd_1959 : (Cond.instanceMethod yX10_count : Cond) ∈ wsB := wt9 (List.mem_of_getElem? (i := 39) rfl) rfl
theorem wd_1960 : (Cond.selects RX10 yX10_count yX10_count : Cond) ∈ wsB := wt9 (List.mem_of_getElem? (i := 40) rfl) rfl
theorem wd_1961 : (Cond.code yX10_count cX10_count 2 (some .int) : Cond) ∈ wsB := wt9 (List.mem_of_getElem? (i := 41) rfl) rfl
theorem wd_1966 : (Cond.methodLink RL 191 yX10_image : Cond) ∈ wsB := wt9 (List.mem_of_getElem? (i := 46) rfl) rfl
theorem wd_1967 : (Cond.instanceMethod yX10_image : Cond) ∈ wsB := wt9 (List.mem_of_getElem? (i := 47) rfl) rfl
theorem wd_1968 : (Cond.selects RX10 yX10_image yX10_image : Cond) ∈ wsB := wt9 (List.mem_of_getElem? (i := 48) rfl) rfl
theorem wd_1969 : (Cond.code yX10_image cX10_image 2 (some .int) : Cond) ∈ wsB := wt9 (List.mem_of_getElem? (i := 49) rfl) rfl
theorem wd_1970 : (Cond.methodLink RL 195 yX10_back : Cond) ∈ wsB := wt9 (List.mem_of_getElem? (i := 50) rfl) rfl
theorem wd_1971 : (Cond.instanceMethod yX10_back : Cond) ∈ wsB := wt9 (List.mem_of_getElem? (i := 51) rfl) rfl
theorem wd_1972 : (Cond.selects RX10 yX10_back yX10_back : Cond) ∈ wsB := wt9 (List.mem_of_getElem? (i := 52) rfl) rfl
theorem wd_1973 : (Cond.code yX10_back cX10_back 2 (some .int) : Cond) ∈ wsB := wt9 (List.mem_of_getElem? (i := 53) rfl) rfl
theorem mlL_13 : LV RL 13 yX9_feed cX9_feed 6 (some .int) 5 := ⟨wd_456, wd_457, wd_458, wd_1, wd_459, ⟨by decide, by decide, by decide +kernel⟩⟩
theorem mlL_17 : LV RL 17 yX10_feed cX10_feed 6 (some .int) 5 := ⟨wd_1377, wd_1378, wd_1379, wd_11, wd_1380, ⟨by decide, by decide, by decide +kernel⟩⟩
theorem mlL_18 : LV RL 18 yX9_end cX9_end 2 (some .int) 1 := ⟨wd_464, wd_465, wd_466, wd_1, wd_467, ⟨by decide, by decide, by decide +kernel⟩⟩
theorem mlL_22 : LV RL 22 yX10_end cX10_end 2 (some .int) 1 := ⟨wd_1385, wd_1386, wd_1387, wd_11, wd_1388, ⟨by decide, by decide, by decide +kernel⟩⟩
theorem mlL_23 : LV RL 23 yX9_river cX9_river 2 (some .int) 0 := ⟨wd_468, wd_469, wd_470, wd_1, wd_471, ⟨by decide, by decide, by decide +kernel⟩⟩
theorem mlL_27 : LV RL 27 yX10_river cX10_river 3 (some .int) 0 := ⟨wd_1389, wd_1390, wd_1391, wd_11, wd_1392, ⟨by decide, by decide, by decide +kernel⟩⟩
theorem mlL_28 : LV RL 28 yX9_rule cX9_rule 2 (some .int) 0 := ⟨wd_599, wd_600, wd_601, wd_1, wd_602, ⟨by decide, by decide, by decide +kernel⟩⟩
theorem mlL_31 : LV RL 31 yX10_rule cX10_rule 3 (some .int) 0 := ⟨wd_1469, wd_1470, wd_1471, wd_11, wd_1472, ⟨by decide, by decide, by decide +kernel⟩⟩
theorem mlL_32 : LV RL 32 yX9_force cX9_force 3 (some .int) 1 := ⟨wd_665, wd_666, wd_667, wd_1, wd_668, ⟨by decide, by decide, by decide +kernel⟩⟩
theorem mlL_35 : LV RL 35 yX10_force cX10_force 3 (some .int) 1 := ⟨wd_1550, wd_1551, wd_1552, wd_11, wd_1553, ⟨by decide, by decide, by decide +kernel⟩⟩
theorem mlL_36 : LV RL 36 yX9_bind cX9_bind 4 (some .int) 2 := ⟨wd_681, wd_682, wd_683, wd_1, wd_684, ⟨by decide, by decide, by decide +kernel⟩⟩
theorem mlL_40 : LV RL 40 yX10_bind cX10_bind 4 (some .int) 2 := ⟨wd_1563, wd_1564, wd_1565, wd_11, wd_1566, ⟨by decide, by decide, by decide +kernel⟩⟩
theorem mlL_41 : LV RL 41 yX9_law cX9_law 4 (some .int) 2 := ⟨wd_689, wd_690, wd_691, wd_1, wd_692, ⟨by decide, by decide, by decide +kernel⟩⟩
theorem mlL_44 : LV RL 44 yX10_law cX10_law 4 (some .int) 2 := ⟨wd_1571, wd_1572, wd_1573, wd_11, wd_1574, ⟨by decide, by decide, by decide +kernel⟩⟩
theorem mlL_45 : LV RL 45 yX9_bend cX9_bend 3 (some .int) 2 := ⟨wd_693, wd_694, wd_695, wd_1, wd_696, ⟨by decide, by decide, by decide +kernel⟩⟩
theorem mlL_48 : LV RL 48 yX10_bend cX10_bend 3 (some .int) 2 := ⟨wd_1576, wd_1577, wd_1578, wd_11, wd_1579, ⟨by decide, by decide, by decide +kernel⟩⟩
theorem mlL_49 : LV RL 49 yX9_village cX9_village 3 (some .int) 2 := ⟨wd_719, wd_720, wd_721, wd_1, wd_722, ⟨by decide, by decide, by decide +kernel⟩⟩
theorem mlL_52 : LV RL 52 yX10_village cX10_village 3 (some .int) 2 := ⟨wd_1595, wd_1596, wd_1597, wd_11, wd_1598, ⟨by decide, by decide, by decide +kernel⟩⟩
theorem mlL_53 : LV RL 53 yX9_log cX9_log 4 (some .int) 2 := ⟨wd_765, wd_766, wd_767, wd_1, wd_768, ⟨by decide, by decide, by decide +kernel⟩⟩
theorem mlL_56 : LV RL 56 yX10_log cX10_log 3 (some .int) 2 := ⟨wd_1675, wd_1676, wd_1677, wd_11, wd_1678, ⟨by decide, by decide, by decide +kernel⟩⟩
theorem mlL_57 : LV RL 57 yX9_notch cX9_notch 3 (some .int) 2 := ⟨wd_786, wd_787, wd_788, wd_1, wd_789, ⟨by decide, by decide, by decide +kernel⟩⟩
theorem mlL_60 : LV RL 60 yX10_notch cX10_notch 3 (some .int) 2 := ⟨wd_1691, wd_1692, wd_1693, wd_11, wd_1694, ⟨by decide, by decide, by decide +kernel⟩⟩
theorem mlL_61 : LV RL 61 yX9_cut cX9_cut 4 (some .int) 2 := ⟨wd_791, wd_792, wd_793, wd_1, wd_794, ⟨by decide, by decide, by decide +kernel⟩⟩
theorem mlL_64 : LV RL 64 yX10_cut cX10_cut 3 (some .int) 2 := ⟨wd_1695, wd_1696, wd_1697, wd_11, wd_1698, ⟨by decide, by decide, by decide +kernel⟩⟩
theorem mlL_65 : LV RL 65 yX9_cutOver cX9_cutOver 5 (some .int) 3 := ⟨wd_808, wd_809, wd_810, wd_1, wd_811, ⟨by decide, by decide, by decide +kernel⟩⟩
theorem mlL_69 : LV RL 69 yX10_cutOver cX10_cutOver 5 (some .int) 3 := ⟨wd_1707, wd_1708, wd_1709, wd_11, wd_1710, ⟨by decide, by decide, by decide +kernel⟩⟩
theorem mlL_70 : LV RL 70 yX9_undo cX9_undo 6 (some .int) 0 := ⟨wd_812, wd_813, wd_814, wd_1, wd_815, ⟨by decide, by decide, by decide +kernel⟩⟩
theorem mlL_73 : LV RL 73 yX10_undo cX10_undo 5 (some .int) 0 := ⟨wd_1711, wd_1712, wd_1713, wd_11, wd_1714, ⟨by decide, by decide, by decide +kernel⟩⟩
theorem mlL_74 : LV RL 74 yX9_launch cX9_launch 3 (some .int) 1 := ⟨wd_816, wd_817, wd_818, wd_1, wd_819, ⟨by decide, by decide, by decide +kernel⟩⟩
theorem mlL_77 : LV RL 77 yX10_launch cX10_launch 2 (some .int) 1 := ⟨wd_1715, wd_1716, wd_1717, wd_11, wd_1718, ⟨by decide, by decide, by decide +kernel⟩⟩
theorem mlL_78 : LV RL 78 yX9_land cX9_land 3 (some .boolean) 2 := ⟨wd_825, wd_826, wd_827, wd_1, wd_828, ⟨by decide, by decide, by decide +kernel⟩⟩
theorem mlL_82 : LV RL 82 yX10_land cX10_land 4 (some .boolean) 2 := ⟨wd_1719, wd_1720, wd_1721, wd_11, wd_1722, ⟨by decide, by decide, by decide +kernel⟩⟩
theorem mlL_83 : LV RL 83 yX9_burn cX9_burn 3 (some .int) 1 := ⟨wd_829, wd_830, wd_831, wd_1, wd_832, ⟨by decide, by decide, by decide +kernel⟩⟩
theorem mlL_86 : LV RL 86 yX10_burn cX10_burn 3 (some .int) 1 := ⟨wd_1723, wd_1724, wd_1725, wd_11, wd_1726, ⟨by decide, by decide, by decide +kernel⟩⟩
theorem mlL_87 : LV RL 87 yX9_saw cX9_saw 3 (some .int) 2 := ⟨wd_837, wd_838, wd_839, wd_1, wd_840, ⟨by decide, by decide, by decide +kernel⟩⟩
theorem mlL_90 : LV RL 90 yX10_saw cX10_saw 3 (some .int) 2 := ⟨wd_1731, wd_1732, wd_1733, wd_11, wd_1734, ⟨by decide, by decide, by decide +kernel⟩⟩
theorem mlL_91 : LV RL 91 yX9_ahead cX9_ahead 6 (some .int) 2 := ⟨wd_842, wd_843, wd_844, wd_1, wd_845, ⟨by decide, by decide, by decide +kernel⟩⟩
theorem mlL_94 : LV RL 94 yX10_ahead cX10_ahead 5 (some .int) 2 := ⟨wd_1735, wd_1736, wd_1737, wd_11, wd_1738, ⟨by decide, by decide, by decide +kernel⟩⟩
theorem mlL_95 : LV RL 95 yX9_dam cX9_dam 2 (some .int) 1 := ⟨wd_846, wd_847, wd_848, wd_1, wd_849, ⟨by decide, by decide, by decide +kernel⟩⟩
theorem mlL_98 : LV RL 98 yX10_dam cX10_dam 2 (some .int) 1 := ⟨wd_1739, wd_1740, wd_1741, wd_11, wd_1742, ⟨by decide, by decide, by decide +kernel⟩⟩
theorem mlL_99 : LV RL 99 yX9_appeal cX9_appeal 2 (some .int) 1 := ⟨wd_850, wd_851, wd_852, wd_1, wd_853, ⟨by decide, by decide, by decide +kernel⟩⟩
theorem mlL_102 : LV RL 102 yX10_appeal cX10_appeal 3 (some .int) 1 := ⟨wd_1751, wd_1752, wd_1753, wd_11, wd_1754, ⟨by decide, by decide, by decide +kernel⟩⟩
theorem mlL_103 : LV RL 103 yX9_votes cX9_votes 3 (some .int) 2 := ⟨wd_867, wd_868, wd_869, wd_1, wd_870, ⟨by decide, by decide, by decide +kernel⟩⟩
theorem mlL_106 : LV RL 106 yX10_votes cX10_votes 3 (some .int) 2 := ⟨wd_1743, wd_1744, wd_1745, wd_11, wd_1746, ⟨by decide, by decide, by decide +kernel⟩⟩
theorem mlL_107 : LV RL 107 yX9_flood cX9_flood 2 (some .int) 1 := ⟨wd_871, wd_872, wd_873, wd_1, wd_874, ⟨by decide, by decide, by decide +kernel⟩⟩
theorem mlL_110 : LV RL 110 yX10_flood cX10_flood 2 (some .int) 1 := ⟨wd_1755, wd_1756, wd_1757, wd_11, wd_1758, ⟨by decide, by decide, by decide +kernel⟩⟩
theorem mlL_111 : LV RL 111 yX9_elected cX9_elected 2 (some .int) 1 := ⟨wd_906, wd_907, wd_908, wd_1, wd_909, ⟨by decide, by decide, by decide +kernel⟩⟩
theorem mlL_114 : LV RL 114 yX10_elected cX10_elected 3 (some .int) 1 := ⟨wd_1772, wd_1773, wd_1774, wd_11, wd_1775, ⟨by decide, by decide, by decide +kernel⟩⟩
theorem mlL_115 : LV RL 115 yX9_wedding cX9_wedding 4 (some .int) 1 := ⟨wd_918, wd_919, wd_920, wd_1, wd_921, ⟨by decide, by decide, by decide +kernel⟩⟩
theorem mlL_118 : LV RL 118 yX10_wedding cX10_wedding 4 (some .int) 1 := ⟨wd_1792, wd_1793, wd_1794, wd_11, wd_1795, ⟨by decide, by decide, by decide +kernel⟩⟩
theorem mlL_119 : LV RL 119 yX9_winter cX9_winter 2 (some .int) 1 := ⟨wd_922, wd_923, wd_924, wd_1, wd_925, ⟨by decide, by decide, by decide +kernel⟩⟩
theorem mlL_122 : LV RL 122 yX10_winter cX10_winter 4 (some .int) 1 := ⟨wd_1796, wd_1797, wd_1798, wd_11, wd_1799, ⟨by decide, by decide, by decide +kernel⟩⟩
theorem mlL_123 : LV RL 123 yX9_days cX9_days 3 (some .int) 1 := ⟨wd_931, wd_932, wd_933, wd_1, wd_934, ⟨by decide, by decide, by decide +kernel⟩⟩
theorem mlL_126 : LV RL 126 yX10_days cX10_days 3 (some .int) 1 := ⟨wd_1801, wd_1802, wd_1803, wd_11, wd_1804, ⟨by decide, by decide, by decide +kernel⟩⟩
theorem mlL_127 : LV RL 127 yX9_floats cX9_floats 4 (some .int) 2 := ⟨wd_966, wd_967, wd_968, wd_1, wd_969, ⟨by decide, by decide, by decide +kernel⟩⟩
theorem mlL_130 : LV RL 130 yX10_floats cX10_floats 3 (some .int) 2 := ⟨wd_1846, wd_1847, wd_1848, wd_11, wd_1849, ⟨by decide, by decide, by decide +kernel⟩⟩
theorem mlL_131 : LV RL 131 yX9_letAhead cX9_letAhead 8 (some .int) 2 := ⟨wd_970, wd_971, wd_972, wd_1, wd_973, ⟨by decide, by decide, by decide +kernel⟩⟩
theorem mlL_134 : LV RL 134 yX10_letAhead cX10_letAhead 3 (some .int) 2 := ⟨wd_1863, wd_1864, wd_1865, wd_11, wd_1866, ⟨by decide, by decide, by decide +kernel⟩⟩
theorem mlL_135 : LV RL 135 yX9_kin cX9_kin 5 (some .int) 2 := ⟨wd_986, wd_987, wd_988, wd_1, wd_989, ⟨by decide, by decide, by decide +kernel⟩⟩
theorem mlL_138 : LV RL 138 yX10_kin cX10_kin 5 (some .int) 2 := ⟨wd_1880, wd_1881, wd_1882, wd_11, wd_1883, ⟨by decide, by decide, by decide +kernel⟩⟩
theorem mlL_139 : LV RL 139 yX9_kinOf cX9_kinOf 4 (some .int) 1 := ⟨wd_994, wd_995, wd_996, wd_1, wd_997, ⟨by decide, by decide, by decide +kernel⟩⟩
theorem mlL_142 : LV RL 142 yX10_kinOf cX10_kinOf 4 (some .int) 1 := ⟨wd_1888, wd_1889, wd_1890, wd_11, wd_1891, ⟨by decide, by decide, by decide +kernel⟩⟩
theorem mlL_143 : LV RL 143 yX9_was cX9_was 3 (some .int) 2 := ⟨wd_998, wd_999, wd_1000, wd_1, wd_1001, ⟨by decide, by decide, by decide +kernel⟩⟩
theorem mlL_146 : LV RL 146 yX10_was cX10_was 3 (some .int) 2 := ⟨wd_1892, wd_1893, wd_1894, wd_11, wd_1895, ⟨by decide, by decide, by decide +kernel⟩⟩
theorem mlL_147 : LV RL 147 yX9_wereAt cX9_wereAt 4 (some .int) 3 := ⟨wd_1013, wd_1014, wd_1015, wd_1, wd_1016, ⟨by decide, by decide, by decide +kernel⟩⟩
theorem mlL_150 : LV RL 150 yX10_wereAt cX10_wereAt 4 (some .int) 3 := ⟨wd_1896, wd_1897, wd_1898, wd_11, wd_1899, ⟨by decide, by decide, by decide +kernel⟩⟩
theorem mlL_151 : LV RL 151 yX9_likely cX9_likely 11 (some .int) 5 := ⟨wd_1030, wd_1031, wd_1032, wd_1, wd_1033, ⟨by decide, by decide, by decide +kernel⟩⟩
theorem mlL_154 : LV RL 154 yX10_likely cX10_likely 10 (some .int) 5 := ⟨wd_1908, wd_1909, wd_1910, wd_11, wd_1911, ⟨by decide, by decide, by decide +kernel⟩⟩
theorem mlL_155 : LV RL 155 yX9_sight cX9_sight 4 (some .int) 3 := ⟨wd_1038, wd_1039, wd_1040, wd_1, wd_1041, ⟨by decide, by decide, by decide +kernel⟩⟩
theorem mlL_158 : LV RL 158 yX10_sight cX10_sight 5 (some .int) 3 := ⟨wd_1915, wd_1916, wd_1917, wd_11, wd_1918, ⟨by decide, by decide, by decide +kernel⟩⟩
theorem mlL_159 : LV RL 159 yX9_parted cX9_parted 10 (some .int) 3 := ⟨wd_1046, wd_1047, wd_1048, wd_1, wd_1049, ⟨by decide, by decide, by decide +kernel⟩⟩
theorem mlL_162 : LV RL 162 yX10_parted cX10_parted 6 (some .int) 3 := ⟨wd_1919, wd_1920, wd_1921, wd_11, wd_1922, ⟨by decide, by decide, by decide +kernel⟩⟩
theorem mlL_163 : LV RL 163 yX9_owes cX9_owes 3 (some .int) 2 := ⟨wd_1059, wd_1060, wd_1061, wd_1, wd_1062, ⟨by decide, by decide, by decide +kernel⟩⟩
theorem mlL_166 : LV RL 166 yX10_owes cX10_owes 3 (some .int) 2 := ⟨wd_1927, wd_1928, wd_1929, wd_11, wd_1930, ⟨by decide, by decide, by decide +kernel⟩⟩
theorem mlL_167 : LV RL 167 yX9_payments cX9_payments 7 (some .int) 0 := ⟨wd_1063, wd_1064, wd_1065, wd_1, wd_1066, ⟨by decide, by decide, by decide +kernel⟩⟩
theorem mlL_170 : LV RL 170 yX10_payments cX10_payments 7 (some .int) 0 := ⟨wd_1931, wd_1932, wd_1933, wd_11, wd_1934, ⟨by decide, by decide, by decide +kernel⟩⟩
theorem mlL_171 : LV RL 171 yX9_repaid cX9_repaid 11 (some .int) 3 := ⟨wd_1068, wd_1069, wd_1070, wd_1, wd_1071, ⟨by decide, by decide, by decide +kernel⟩⟩
theorem mlL_174 : LV RL 174 yX10_repaid cX10_repaid 10 (some .int) 3 := ⟨wd_1935, wd_1936, wd_1937, wd_11, wd_1938, ⟨by decide, by decide, by decide +kernel⟩⟩
theorem mlL_175 : LV RL 175 yX9_seed cX9_seed 3 (some .int) 1 := ⟨wd_1076, wd_1077, wd_1078, wd_1, wd_1079, ⟨by decide, by decide, by decide +kernel⟩⟩
theorem mlL_178 : LV RL 178 yX10_seed cX10_seed 3 (some .int) 1 := ⟨wd_1939, wd_1940, wd_1941, wd_11, wd_1942, ⟨by decide, by decide, by decide +kernel⟩⟩
theorem mlL_179 : LV RL 179 yX9_drawn cX9_drawn 11 (some .int) 4 := ⟨wd_1080, wd_1081, wd_1082, wd_1, wd_1083, ⟨by decide, by decide, by decide +kernel⟩⟩
theorem mlL_183 : LV RL 183 yX10_drawn cX10_drawn 10 (some .int) 4 := ⟨wd_1943, wd_1944, wd_1945, wd_11, wd_1946, ⟨by decide, by decide, by decide +kernel⟩⟩
theorem mlL_184 : LV RL 184 yX9_count cX9_count 2 (some .int) 1 := ⟨wd_1091, wd_1092, wd_1093, wd_1, wd_1094, ⟨by decide, by decide, by decide +kernel⟩⟩
theorem mlL_187 : LV RL 187 yX10_count cX10_count 2 (some .int) 1 := ⟨wd_1958, wd_1959, wd_1960, wd_11, wd_1961, ⟨by decide, by decide, by decide +kernel⟩⟩
theorem mlL_188 : LV RL 188 yX9_image cX9_image 2 (some .int) 1 := ⟨wd_1107, wd_1108, wd_1109, wd_1, wd_1110, ⟨by decide, by decide, by decide +kernel⟩⟩
theorem mlL_191 : LV RL 191 yX10_image cX10_image 2 (some .int) 1 := ⟨wd_1966, wd_1967, wd_1968, wd_11, wd_1969, ⟨by decide, by decide, by decide +kernel⟩⟩
theorem mlL_192 : LV RL 192 yX9_back cX9_back 2 (some .int) 1 := ⟨wd_1122, wd_1123, wd_1124, wd_1, wd_1125, ⟨by decide, by decide, by decide +kernel⟩⟩
theorem mlL_195 : LV RL 195 yX10_back cX10_back 2 (some .int) 1 := ⟨wd_1970, wd_1971, wd_1972, wd_11, wd_1973, ⟨by decide, by decide, by decide +kernel⟩⟩
