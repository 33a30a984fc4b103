theorem wd_1202 : (Cond.fieldLink RX10 559 "RaftForestModel" "takenSet" "I" : Cond) ∈ wsB := wt6 (List.mem_of_getElem? (i := 2) rfl) rfl
theorem wd_1768 : (Cond.methodLink RX10 506 yX10_roomAhead : Cond) ∈ wsB := wt8 (List.mem_of_getElem? (i := 88) rfl) rfl
theorem wd_1770 : (Cond.instanceMethod yX10_roomAhead : Cond) ∈ wsB := wt8 (List.mem_of_getElem? (i := 90) rfl) rfl
theorem wd_1771 : (Cond.code yX10_roomAhead cX10_roomAhead 2 (some .int) : Cond) ∈ wsB := wt8 (List.mem_of_getElem? (i := 91) rfl) rfl
theorem wd_1814 : (Cond.methodLink RX10 549 yX10_saysOf : Cond) ∈ wsB := wt8 (List.mem_of_getElem? (i := 134) rfl) rfl
theorem wd_1816 : (Cond.instanceMethod yX10_saysOf : Cond) ∈ wsB := wt8 (List.mem_of_getElem? (i := 136) rfl) rfl
theorem wd_1817 : (Cond.code yX10_saysOf cX10_saysOf 6 (some .boolean) : Cond) ∈ wsB := wt8 (List.mem_of_getElem? (i := 137) rfl) rfl
theorem wd_1818 : (Cond.methodLink RX10 553 yX10_jams1 : Cond) ∈ wsB := wt8 (List.mem_of_getElem? (i := 138) rfl) rfl
theorem wd_1820 : (Cond.instanceMethod yX10_jams1 : Cond) ∈ wsB := wt8 (List.mem_of_getElem? (i := 140) rfl) rfl
theorem wd_1821 : (Cond.code yX10_jams1 cX10_jams1 2 none : Cond) ∈ wsB := wt8 (List.mem_of_getElem? (i := 141) rfl) rfl
theorem wd_1822 : (Cond.methodLink RX10 556 yX10_floats1 : Cond) ∈ wsB := wt8 (List.mem_of_getElem? (i := 142) rfl) rfl
theorem wd_1824 : (Cond.instanceMethod yX10_floats1 : Cond) ∈ wsB := wt8 (List.mem_of_getElem? (i := 144) rfl) rfl
theorem wd_1825 : (Cond.code yX10_floats1 cX10_floats1 2 none : Cond) ∈ wsB := wt8 (List.mem_of_getElem? (i := 145) rfl) rfl
theorem wd_1826 : (Cond.methodLink RX10 546 yX10_sells : Cond) ∈ wsB := wt8 (List.mem_of_getElem? (i := 146) rfl) rfl
theorem wd_1828 : (Cond.instanceMethod yX10_sells : Cond) ∈ wsB := wt8 (List.mem_of_getElem? (i := 148) rfl) rfl
theorem wd_1829 : (Cond.code yX10_sells cX10_sells 6 none : Cond) ∈ wsB := wt8 (List.mem_of_getElem? (i := 149) rfl) rfl
theorem wd_1830 : (Cond.methodLink RX10 543 yX10_ownerAtMouth : Cond) ∈ wsB := wt8 (List.mem_of_getElem? (i := 150) rfl) rfl
theorem wd_1832 : (Cond.instanceMethod yX10_ownerAtMouth : Cond) ∈ wsB := wt8 (List.mem_of_getElem? (i := 152) rfl) rfl
theorem wd_1833 : (Cond.code yX10_ownerAtMouth cX10_ownerAtMouth 2 (some .int) : Cond) ∈ wsB := wt8 (List.mem_of_getElem? (i := 153) rfl) rfl
theorem wd_1838 : (Cond.methodLink RX10 562 yX10_takes1 : Cond) ∈ wsB := wt8 (List.mem_of_getElem? (i := 158) rfl) rfl
theorem wd_1840 : (Cond.instanceMethod yX10_takes1 : Cond) ∈ wsB := wt8 (List.mem_of_getElem? (i := 160) rfl) rfl
theorem wd_1841 : (Cond.code yX10_takes1 cX10_takes1 3 none : Cond) ∈ wsB := wt8 (List.mem_of_getElem? (i := 161) rfl) rfl
def Lwp_87 : List (Nat × Cond) := [(87, Cond.selects RX10 yX10_roomAhead yX10_roomAhead), (94, Cond.selects RX10 yX10_saysOf yX10_saysOf), (95, Cond.selects RX10 yX10_jams1 yX10_jams1), (96, Cond.selects RX10 yX10_floats1 yX10_floats1), (97, Cond.selects RX10 yX10_sells yX10_sells), (98, Cond.selects RX10 yX10_ownerAtMouth yX10_ownerAtMouth), (100, Cond.selects RX10 yX10_takes1 yX10_takes1)]
set_option maxRecDepth 100000 in
theorem Lwp_87_ok : ∀ q ∈ Lwp_87, (k2_sels lw_privs)[q.1]? = some q.2 ∧ goodWord q.2 = true := by decide +kernel
theorem wp_87 : (Cond.selects RX10 yX10_roomAhead yX10_roomAhead : Cond) ∈ wsB := wpq Lwp_87_ok 0 rfl
theorem wp_94 : (Cond.selects RX10 yX10_saysOf yX10_saysOf : Cond) ∈ wsB := wpq Lwp_87_ok 1 rfl
theorem wp_95 : (Cond.selects RX10 yX10_jams1 yX10_jams1 : Cond) ∈ wsB := wpq Lwp_87_ok 2 rfl
theorem wp_96 : (Cond.selects RX10 yX10_floats1 yX10_floats1 : Cond) ∈ wsB := wpq Lwp_87_ok 3 rfl
theorem wp_97 : (Cond.selects RX10 yX10_sells yX10_sells : Cond) ∈ wsB := wpq Lwp_87_ok 4 rfl
theorem wp_98 : (Cond.selects RX10 yX10_ownerAtMouth yX10_ownerAtMouth : Cond) ∈ wsB := wpq Lwp_87_ok 5 rfl
theorem wp_100 : (Cond.selects RX10 yX10_takes1 yX10_takes1 : Cond) ∈ wsB := wpq Lwp_87_ok 6 rfl
theorem mlX10_543 : LV RX10 543 yX10_ownerAtMouth cX10_ownerAtMouth 2 (some .int) 1 := ⟨wd_1830, wd_1832, wp_98, wd_11, wd_1833, ⟨by decide, by decide, by decide +kernel⟩⟩
theorem mlX10_546 : LV RX10 546 yX10_sells cX10_sells 6 none 1 := ⟨wd_1826, wd_1828, wp_97, wd_11, wd_1829, ⟨by decide, by decide, by decide +kernel⟩⟩
theorem mlX10_506 : LV RX10 506 yX10_roomAhead cX10_roomAhead 2 (some .int) 1 := ⟨wd_1768, wd_1770, wp_87, wd_11, wd_1771, ⟨by decide, by decide, by decide +kernel⟩⟩
theorem mlX10_549 : LV RX10 549 yX10_saysOf cX10_saysOf 6 (some .boolean) 5 := ⟨wd_1814, wd_1816, wp_94, wd_11, wd_1817, ⟨by decide, by decide, by decide +kernel⟩⟩
theorem mlX10_553 : LV RX10 553 yX10_jams1 cX10_jams1 2 none 1 := ⟨wd_1818, wd_1820, wp_95, wd_11, wd_1821, ⟨by decide, by decide, by decide +kernel⟩⟩
theorem mlX10_556 : LV RX10 556 yX10_floats1 cX10_floats1 2 none 1 := ⟨wd_1822, wd_1824, wp_96, wd_11, wd_1825, ⟨by decide, by decide, by decide +kernel⟩⟩
theorem glX10_559 : FL RX10 559 10 67 := ⟨RX10, TX10, 80, rfl, inlX10, by decide, wd_1202⟩
theorem plX10_559 : FP RX10 559 10 67 .int := ⟨RX10, TX10, 80, rfl, inlX10, by decide, wd_1202, rfl, by decide +kernel, tyX10, tyX10_ok, nmX10⟩
theorem mlX10_562 : LV RX10 562 yX10_takes1 cX10_takes1 3 none 2 := ⟨wd_1838, wd_1840, wp_100, wd_11, wd_1841, ⟨by decide, by decide, by decide +kernel⟩⟩
theorem sX10_67 {b : Nat} (h : isX10 b) : SI b 10 67 (-2147483648) 2147483647 := by rcases h with rfl <;> exact ⟨by decide, rfl, rfl, by decide, rfl, rfl, rfl⟩
