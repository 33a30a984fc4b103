/-! rows that lay a row into another, and into images -/
theorem zrg_ok (c j : Nat) : -2147483648 ≤ zlo c j ∧ zhi c j ≤ 2147483647 := by
  have h : (zRg.all fun r => r.all fun p => decide (-2147483648 ≤ p.1) && decide (p.2 ≤ 2147483647)) = true := by decide +kernel
  have key : ∀ i : Nat, -2147483648 ≤ ((zRg.getD c []).getD i (-2147483648, 2147483647)).1 ∧ ((zRg.getD c []).getD i (-2147483648, 2147483647)).2 ≤ 2147483647 := by
    intro i
    by_cases hc : c < zRg.length
    · rw [← List.getElem_eq_getD (h := hc)]
      by_cases hi : i < zRg[c].length
      · rw [← List.getElem_eq_getD (h := hi)]
        have h1 := List.all_eq_true.mp h _ (List.getElem_mem hc)
        have h2 := List.all_eq_true.mp h1 _ (List.getElem_mem hi)
        simpa using h2
      · rw [List.getD_eq_getElem?_getD, List.getElem?_eq_none (by omega)]; exact ⟨by decide, by decide⟩
    · rw [List.getD_eq_getElem?_getD (l := zRg), List.getElem?_eq_none (by omega)]
      exact ⟨(by decide : (-2147483648 : Int) ≤ -2147483648), (by decide : (2147483647 : Int) ≤ 2147483647)⟩
  exact key _
