theorem wd_1760 : (Cond.methodLink RX10 514 yX10_floods : Cond) ∈ wsB := wt8 (List.mem_of_getElem? (i := 80) rfl) rfl
theorem wd_1762 : (Cond.instanceMethod yX10_floods : Cond) ∈ wsB := wt8 (List.mem_of_getElem? (i := 82) rfl) rfl
theorem wd_1763 : (Cond.code yX10_floods cX10_floods 3 none : Cond) ∈ wsB := wt8 (List.mem_of_getElem? (i := 83) rfl) rfl
theorem wd_1764 : (Cond.methodLink RX10 509 yX10_elects : Cond) ∈ wsB := wt8 (List.mem_of_getElem? (i := 84) rfl) rfl
theorem wd_1766 : (Cond.instanceMethod yX10_elects : Cond) ∈ wsB := wt8 (List.mem_of_getElem? (i := 86) rfl) rfl
theorem wd_1767 : (Cond.code yX10_elects cX10_elects 4 none : Cond) ∈ wsB := wt8 (List.mem_of_getElem? (i := 87) rfl) rfl
def Lwp_85 : List (Nat × Cond) := [(85, Cond.selects RX10 yX10_floods yX10_floods), (86, Cond.selects RX10 yX10_elects yX10_elects)]
set_option maxRecDepth 100000 in
theorem Lwp_85_ok : ∀ q ∈ Lwp_85, (k2_sels lw_privs)[q.1]? = some q.2 ∧ goodWord q.2 = true := by decide +kernel
theorem wp_85 : (Cond.selects RX10 yX10_floods yX10_floods : Cond) ∈ wsB := wpq Lwp_85_ok 0 rfl
theorem wp_86 : (Cond.selects RX10 yX10_elects yX10_elects : Cond) ∈ wsB := wpq Lwp_85_ok 1 rfl
theorem mlX10_509 : LV RX10 509 yX10_elects cX10_elects 4 none 0 := ⟨wd_1764, wd_1766, wp_86, wd_11, wd_1767, ⟨by decide, by decide, by decide +kernel⟩⟩
theorem mlX10_514 : LV RX10 514 yX10_floods cX10_floods 3 none 1 := ⟨wd_1760, wd_1762, wp_85, wd_11, wd_1763, ⟨by decide, by decide, by decide +kernel⟩⟩
