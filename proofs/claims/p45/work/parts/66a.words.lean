theorem wd_642 : (Cond.methodLink RX5 56 yX5_readsTest : Cond) ∈ wsB := wt3 (List.mem_of_getElem? (i := 162) rfl) rfl
theorem wd_644 : (Cond.instanceMethod yX5_readsTest : Cond) ∈ wsB := wt3 (List.mem_of_getElem? (i := 164) rfl) rfl
theorem wd_645 : (Cond.code yX5_readsTest cX5_readsTest 6 (some .boolean) : Cond) ∈ wsB := wt3 (List.mem_of_getElem? (i := 165) rfl) rfl
theorem wd_646 : (Cond.methodLink RX5 70 yX5_readsFact : Cond) ∈ wsB := wt3 (List.mem_of_getElem? (i := 166) rfl) rfl
theorem wd_648 : (Cond.instanceMethod yX5_readsFact : Cond) ∈ wsB := wt3 (List.mem_of_getElem? (i := 168) rfl) rfl
theorem wd_649 : (Cond.code yX5_readsFact cX5_readsFact 6 (some .boolean) : Cond) ∈ wsB := wt3 (List.mem_of_getElem? (i := 169) rfl) rfl
def Lwp_5 : List (Nat × Cond) := [(5, Cond.selects RX5 yX5_readsTest yX5_readsTest), (6, Cond.selects RX5 yX5_readsFact yX5_readsFact)]
set_option maxRecDepth 100000 in
theorem Lwp_5_ok : ∀ q ∈ Lwp_5, (k2_sels lw_privs)[q.1]? = some q.2 ∧ goodWord q.2 = true := by decide +kernel
theorem wp_5 : (Cond.selects RX5 yX5_readsTest yX5_readsTest : Cond) ∈ wsB := wpq Lwp_5_ok 0 rfl
theorem wp_6 : (Cond.selects RX5 yX5_readsFact yX5_readsFact : Cond) ∈ wsB := wpq Lwp_5_ok 1 rfl
theorem mlX5_70 : LV RX5 70 yX5_readsFact cX5_readsFact 6 (some .boolean) 2 := ⟨wd_646, wd_648, wp_6, wd_5, wd_649, ⟨by decide, by decide, by decide +kernel⟩⟩
theorem mlX5_56 : LV RX5 56 yX5_readsTest cX5_readsTest 6 (some .boolean) 2 := ⟨wd_642, wd_644, wp_5, wd_5, wd_645, ⟨by decide, by decide, by decide +kernel⟩⟩
