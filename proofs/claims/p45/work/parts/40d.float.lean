/-! LOGS that float, and rows of them -/
def Fl (M : zM) : Prop := ∀ j : Nat, (j : Int) < M 229 73 → M (229 + 51) j < M (229 + 1) 3
def Rk (M : zM) (lo : Int) : Prop := ∀ j : Nat, lo ≤ (j : Int) → (j : Int) < M 229 73 → M (229 + 53) j < M (229 + 1) 3
theorem Fl.nil {M : zM} (h : M 229 73 = 0) : Fl M := fun j hj => absurd hj (by omega)
theorem Fl.same {M M' : zM} (h : Fl M) (e1 : M' 229 73 = M 229 73) (e2 : M' (229 + 1) 3 = M (229 + 1) 3) (f : ∀ j : Nat, M' (229 + 51) j = M (229 + 51) j) : Fl M' := by
  intro j hj
  rw [e1] at hj; rw [f j, e2]; exact h j hj
theorem Fl.put {M M1 M2 : zM} {i : Nat} {v : Int} (h : Fl M) (e1 : M1 (229 + 51) i = v) (f1 : ∀ c j : Nat, (c ≠ 229 + 51 ∨ j ≠ i) → M1 c j = M c j) (e2 : M2 229 73 = M1 229 73 + 1) (f2 : ∀ c j : Nat, (c ≠ 229 ∨ j ≠ 73) → M2 c j = M1 c j) (hi : (i : Int) = M 229 73) (hv : v < M (229 + 1) 3) : Fl M2 := by
  intro j hj
  have q := f1 229 73 (by omega)
  rw [f2 (229 + 1) 3 (by omega), f1 (229 + 1) 3 (by omega), f2 (229 + 51) j (by omega)]
  by_cases z : j = i
  · subst z; rw [e1]; exact hv
  · rw [f1 (229 + 51) j (by omega)]; exact h j (by omega)
theorem Rk.nil {M : zM} {a : Int} (h : M 229 73 ≤ a) : Rk M a := fun j h1 h2 => absurd h2 (by omega)
theorem Rk.le {M : zM} {a c : Int} (h : Rk M a) (hc : a ≤ c) : Rk M c := fun j h1 h2 => h j (by omega) h2
theorem Rk.same {M M' : zM} {a : Int} (h : Rk M a) (e1 : M' 229 73 = M 229 73) (e2 : M' (229 + 1) 3 = M (229 + 1) 3) (f : ∀ j : Nat, M' (229 + 53) j = M (229 + 53) j) : Rk M' a := by
  intro j h1 h2
  rw [e1] at h2; rw [f j, e2]; exact h j h1 h2
theorem Rk.put {M M1 : zM} {i : Nat} {a c v : Int} (h : Rk M a) (e1 : M1 (229 + 53) i = v) (f1 : ∀ c j : Nat, (c ≠ 229 + 53 ∨ j ≠ i) → M1 c j = M c j) (hi : (i : Int) + 1 = a) (hc : c = i) (hv : v < M (229 + 1) 3) : Rk M1 c := by
  intro j h1 h2
  rw [f1 229 73 (by omega)] at h2
  rw [f1 (229 + 1) 3 (by omega)]
  by_cases z : j = i
  · subst z; rw [e1]; exact hv
  · rw [f1 (229 + 53) j (by omega)]; exact h j (by omega) h2
/-- all rows are as the fifth image has them, but for one place -/
def Sx (M : zM) : Prop := ∀ c j : Nat, 230 ≤ c → c ≤ 257 → j < zln c → (c ≠ 229 + 1 ∨ j ≠ 16) → M c j = M (229 + 56) (900 * 4 + zof c + j)
theorem Sx.put {M M' : zM} (h : Sx M) (f : ∀ c j : Nat, (c ≠ 229 + 1 ∨ j ≠ 16) → M' c j = M c j) : Sx M' := by
  intro c j h1 h2 h3 h4
  rw [f c j h4, f (229 + 56) _ (by omega)]; exact h c j h1 h2 h3 h4
