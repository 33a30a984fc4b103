theorem wd_1776 : (Cond.methodLink RX10 517 yX10_keeps : Cond) ∈ wsB := wt8 (List.mem_of_getElem? (i := 96) rfl) rfl
theorem wd_1778 : (Cond.instanceMethod yX10_keeps : Cond) ∈ wsB := wt8 (List.mem_of_getElem? (i := 98) rfl) rfl
theorem wd_1779 : (Cond.code yX10_keeps cX10_keeps 1 none : Cond) ∈ wsB := wt8 (List.mem_of_getElem? (i := 99) rfl) rfl
theorem wd_1780 : (Cond.methodLink RX10 651 yX10_carriesAll : Cond) ∈ wsB := wt8 (List.mem_of_getElem? (i := 100) rfl) rfl
theorem wd_1782 : (Cond.instanceMethod yX10_carriesAll : Cond) ∈ wsB := wt8 (List.mem_of_getElem? (i := 102) rfl) rfl
theorem wd_1783 : (Cond.code yX10_carriesAll cX10_carriesAll 3 none : Cond) ∈ wsB := wt8 (List.mem_of_getElem? (i := 103) rfl) rfl
theorem wd_1788 : (Cond.methodLink RX10 520 yX10_laysBack : Cond) ∈ wsB := wt8 (List.mem_of_getElem? (i := 108) rfl) rfl
theorem wd_1790 : (Cond.instanceMethod yX10_laysBack : Cond) ∈ wsB := wt8 (List.mem_of_getElem? (i := 110) rfl) rfl
theorem wd_1791 : (Cond.code yX10_laysBack cX10_laysBack 1 none : Cond) ∈ wsB := wt8 (List.mem_of_getElem? (i := 111) rfl) rfl
theorem wd_1805 : (Cond.constantLong RX10 574 (60) : Cond) ∈ wsB := wt8 (List.mem_of_getElem? (i := 125) rfl) rfl
theorem wd_1806 : (Cond.methodLink RX10 576 yX10_day : Cond) ∈ wsB := wt8 (List.mem_of_getElem? (i := 126) rfl) rfl
theorem wd_1808 : (Cond.instanceMethod yX10_day : Cond) ∈ wsB := wt8 (List.mem_of_getElem? (i := 128) rfl) rfl
theorem wd_1809 : (Cond.code yX10_day cX10_day 2 none : Cond) ∈ wsB := wt8 (List.mem_of_getElem? (i := 129) rfl) rfl
theorem wd_1810 : (Cond.methodLink RX10 565 yX10_goesAll : Cond) ∈ wsB := wt8 (List.mem_of_getElem? (i := 130) rfl) rfl
theorem wd_1812 : (Cond.instanceMethod yX10_goesAll : Cond) ∈ wsB := wt8 (List.mem_of_getElem? (i := 132) rfl) rfl
theorem wd_1813 : (Cond.code yX10_goesAll cX10_goesAll 4 none : Cond) ∈ wsB := wt8 (List.mem_of_getElem? (i := 133) rfl) rfl
theorem wd_1834 : (Cond.methodLink RX10 568 yX10_worksVillage : Cond) ∈ wsB := wt8 (List.mem_of_getElem? (i := 154) rfl) rfl
theorem wd_1836 : (Cond.instanceMethod yX10_worksVillage : Cond) ∈ wsB := wt8 (List.mem_of_getElem? (i := 156) rfl) rfl
theorem wd_1837 : (Cond.code yX10_worksVillage cX10_worksVillage 4 none : Cond) ∈ wsB := wt8 (List.mem_of_getElem? (i := 157) rfl) rfl
theorem wd_1842 : (Cond.methodLink RX10 571 yX10_keepsPlaces : Cond) ∈ wsB := wt8 (List.mem_of_getElem? (i := 162) rfl) rfl
theorem wd_1844 : (Cond.instanceMethod yX10_keepsPlaces : Cond) ∈ wsB := wt8 (List.mem_of_getElem? (i := 164) rfl) rfl
theorem wd_1845 : (Cond.code yX10_keepsPlaces cX10_keepsPlaces 2 none : Cond) ∈ wsB := wt8 (List.mem_of_getElem? (i := 165) rfl) rfl
theorem wd_1851 : (Cond.methodLink RX10 583 yX10_wouldBe : Cond) ∈ wsB := wt8 (List.mem_of_getElem? (i := 171) rfl) rfl
theorem wd_1853 : (Cond.instanceMethod yX10_wouldBe : Cond) ∈ wsB := wt8 (List.mem_of_getElem? (i := 173) rfl) rfl
theorem wd_1854 : (Cond.code yX10_wouldBe cX10_wouldBe 3 none : Cond) ∈ wsB := wt8 (List.mem_of_getElem? (i := 174) rfl) rfl
theorem wd_1855 : (Cond.methodLink RX10 578 yX10_forgetsCounts : Cond) ∈ wsB := wt8 (List.mem_of_getElem? (i := 175) rfl) rfl
theorem wd_1857 : (Cond.instanceMethod yX10_forgetsCounts : Cond) ∈ wsB := wt8 (List.mem_of_getElem? (i := 177) rfl) rfl
theorem wd_1858 : (Cond.code yX10_forgetsCounts cX10_forgetsCounts 1 none : Cond) ∈ wsB := wt8 (List.mem_of_getElem? (i := 178) rfl) rfl
theorem wd_1859 : (Cond.methodLink RX10 586 yX10_counted1 : Cond) ∈ wsB := wt8 (List.mem_of_getElem? (i := 179) rfl) rfl
theorem wd_1861 : (Cond.instanceMethod yX10_counted1 : Cond) ∈ wsB := wt8 (List.mem_of_getElem? (i := 181) rfl) rfl
theorem wd_1862 : (Cond.code yX10_counted1 cX10_counted1 2 (some .int) : Cond) ∈ wsB := wt8 (List.mem_of_getElem? (i := 182) rfl) rfl
def Lwp_88 : List (Nat × Cond) := [(88, Cond.selects RX10 yX10_keeps yX10_keeps), (89, Cond.selects RX10 yX10_carriesAll yX10_carriesAll), (91, Cond.selects RX10 yX10_laysBack yX10_laysBack), (92, Cond.selects RX10 yX10_day yX10_day), (93, Cond.selects RX10 yX10_goesAll yX10_goesAll), (99, Cond.selects RX10 yX10_worksVillage yX10_worksVillage), (101, Cond.selects RX10 yX10_keepsPlaces yX10_keepsPlaces), (102, Cond.selects RX10 yX10_wouldBe yX10_wouldBe), (103, Cond.selects RX10 yX10_forgetsCounts yX10_forgetsCounts), (104, Cond.selects RX10 yX10_counted1 yX10_counted1)]
set_option maxRecDepth 100000 in
theorem Lwp_88_ok : ∀ q ∈ Lwp_88, (k2_sels lw_privs)[q.1]? = some q.2 ∧ goodWord q.2 = true := by decide +kernel
theorem wp_88 : (Cond.selects RX10 yX10_keeps yX10_keeps : Cond) ∈ wsB := wpq Lwp_88_ok 0 rfl
theorem wp_89 : (Cond.selects RX10 yX10_carriesAll yX10_carriesAll : Cond) ∈ wsB := wpq Lwp_88_ok 1 rfl
theorem wp_91 : (Cond.selects RX10 yX10_laysBack yX10_laysBack : Cond) ∈ wsB := wpq Lwp_88_ok 2 rfl
theorem wp_92 : (Cond.selects RX10 yX10_day yX10_day : Cond) ∈ wsB := wpq Lwp_88_ok 3 rfl
theorem wp_93 : (Cond.selects RX10 yX10_goesAll yX10_goesAll : Cond) ∈ wsB := wpq Lwp_88_ok 4 rfl
theorem wp_99 : (Cond.selects RX10 yX10_worksVillage yX10_worksVillage : Cond) ∈ wsB := wpq Lwp_88_ok 5 rfl
theorem wp_101 : (Cond.selects RX10 yX10_keepsPlaces yX10_keepsPlaces : Cond) ∈ wsB := wpq Lwp_88_ok 6 rfl
theorem wp_102 : (Cond.selects RX10 yX10_wouldBe yX10_wouldBe : Cond) ∈ wsB := wpq Lwp_88_ok 7 rfl
theorem wp_103 : (Cond.selects RX10 yX10_forgetsCounts yX10_forgetsCounts : Cond) ∈ wsB := wpq Lwp_88_ok 8 rfl
theorem wp_104 : (Cond.selects RX10 yX10_counted1 yX10_counted1 : Cond) ∈ wsB := wpq Lwp_88_ok 9 rfl
theorem mlX10_651 : LV RX10 651 yX10_carriesAll cX10_carriesAll 3 none 2 := ⟨wd_1780, wd_1782, wp_89, wd_11, wd_1783, ⟨by decide, by decide, by decide +kernel⟩⟩
theorem mlX10_565 : LV RX10 565 yX10_goesAll cX10_goesAll 4 none 0 := ⟨wd_1810, wd_1812, wp_93, wd_11, wd_1813, ⟨by decide, by decide, by decide +kernel⟩⟩
theorem mlX10_571 : LV RX10 571 yX10_keepsPlaces cX10_keepsPlaces 2 none 0 := ⟨wd_1842, wd_1844, wp_101, wd_11, wd_1845, ⟨by decide, by decide, by decide +kernel⟩⟩
theorem mlX10_568 : LV RX10 568 yX10_worksVillage cX10_worksVillage 4 none 1 := ⟨wd_1834, wd_1836, wp_99, wd_11, wd_1837, ⟨by decide, by decide, by decide +kernel⟩⟩
theorem mlX10_578 : LV RX10 578 yX10_forgetsCounts cX10_forgetsCounts 1 none 0 := ⟨wd_1855, wd_1857, wp_103, wd_11, wd_1858, ⟨by decide, by decide, by decide +kernel⟩⟩
theorem mlX10_520 : LV RX10 520 yX10_laysBack cX10_laysBack 1 none 0 := ⟨wd_1788, wd_1790, wp_91, wd_11, wd_1791, ⟨by decide, by decide, by decide +kernel⟩⟩
theorem mlX10_576 : LV RX10 576 yX10_day cX10_day 2 none 0 := ⟨wd_1806, wd_1808, wp_92, wd_11, wd_1809, ⟨by decide, by decide, by decide +kernel⟩⟩
theorem mlX10_517 : LV RX10 517 yX10_keeps cX10_keeps 1 none 0 := ⟨wd_1776, wd_1778, wp_88, wd_11, wd_1779, ⟨by decide, by decide, by decide +kernel⟩⟩
theorem mlX10_583 : LV RX10 583 yX10_wouldBe cX10_wouldBe 3 none 1 := ⟨wd_1851, wd_1853, wp_102, wd_11, wd_1854, ⟨by decide, by decide, by decide +kernel⟩⟩
theorem mlX10_586 : LV RX10 586 yX10_counted1 cX10_counted1 2 (some .int) 1 := ⟨wd_1859, wd_1861, wp_104, wd_11, wd_1862, ⟨by decide, by decide, by decide +kernel⟩⟩
