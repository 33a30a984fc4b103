theorem wd_1784 : (Cond.methodLink RX10 647 yX10_carry : Cond) ∈ wsB := wt8 (List.mem_of_getElem? (i := 104) rfl) rfl
theorem wd_1786 : (Cond.instanceMethod yX10_carry : Cond) ∈ wsB := wt8 (List.mem_of_getElem? (i := 106) rfl) rfl
theorem wd_1787 : (Cond.code yX10_carry cX10_carry 3 none : Cond) ∈ wsB := wt8 (List.mem_of_getElem? (i := 107) rfl) rfl
def Lwp_90 : List (Nat × Cond) := [(90, Cond.selects RX10 yX10_carry yX10_carry)]
set_option maxRecDepth 100000 in
theorem Lwp_90_ok : ∀ q ∈ Lwp_90, (k2_sels lw_privs)[q.1]? = some q.2 ∧ goodWord q.2 = true := by decide +kernel
theorem wp_90 : (Cond.selects RX10 yX10_carry yX10_carry : Cond) ∈ wsB := wpq Lwp_90_ok 0 rfl
theorem plX10_641 : FP RX10 641 10 79 .boolean := ⟨RX10, TX10, 80, rfl, inlX10, by decide, wd_1214, rfl, by decide +kernel, tyX10, tyX10_ok, nmX10⟩
theorem mlX10_647 : LV RX10 647 yX10_carry cX10_carry 3 none 1 := ⟨wd_1784, wd_1786, wp_90, wd_11, wd_1787, ⟨by decide, by decide, by decide +kernel⟩⟩
