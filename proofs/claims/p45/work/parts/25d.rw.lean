/-! the row of LOGS that letAhead turns: those below n are LOGS that there are -/
def Rw (M : zM) (n : Int) : Prop := ∀ j : Nat, (j : Int) < n → j < 6 → M 3 j < M 37 3
theorem Rw.frame {M M' : zM} {n : Int} (h : Rw M n) (f : ∀ u v : Nat, (u = 3 ∨ (u = 37 ∧ v = 3)) → M' u v = M u v) : Rw M' n := by
  intro j hj h6
  rw [f 3 j (Or.inl rfl), f 37 3 (Or.inr ⟨rfl, rfl⟩)]
  exact h j hj h6
theorem Rw.put1 {M M' : zM} {n v : Int} {i : Nat} (h : Rw M n) (he : M' 3 i = v) (f : ∀ u w : Nat, (u ≠ 3 ∨ w ≠ i) → M' u w = M u w) (hi : (i : Int) = n) (hv : v < M 37 3) : Rw M' (n + 1) := by
  intro j hj h6
  rw [f 37 3 (by omega)]
  by_cases q : j = i
  · subst q; rw [he]; exact hv
  · rw [f 3 j (by omega)]; exact h j (by omega) h6
theorem Rw.more {M : zM} {n : Int} (h : Rw M n) (hn : 6 ≤ n) : Rw M (n + 1) := fun j _ h6 => h j (by omega) h6
theorem Rw.swap {M M' : zM} {n : Int} {i k : Nat} (h : Rw M n) (hi : (i : Int) < n) (hk : (k : Int) < n) (i6 : i < 6) (k6 : k < 6) (f0 : M' 3 i = M 3 k) (f1 : M' 3 k = M 3 i) (f2 : ∀ j : Nat, j ≠ i → j ≠ k → M' 3 j = M 3 j) (e : M' 37 3 = M 37 3) : Rw M' n := by
  intro j hj h6
  rw [e]
  by_cases q : j = i
  · subst q; rw [f0]; exact h k hk k6
  · by_cases q2 : j = k
    · subst q2; rw [f1]; exact h i hi i6
    · rw [f2 j q q2]; exact h j hj h6
