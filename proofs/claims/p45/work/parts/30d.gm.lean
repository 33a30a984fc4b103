/-! the reference: what its rows share (scalar 229 + 1, villageBend + 5, wood + 9, place + 12, order + 17, notch + 18) -/
def PlOk (p vs : Int) : Prop := (0 ≤ p ∧ p ≤ 8) ∨ (20 ≤ p ∧ p < 20 + vs) ∨ p = 40 ∨ p = 41
theorem PlOk.shore {p vs : Int} (h : PlOk p vs) (h1 : 20 ≤ p) (h2 : p < 40) : p < 20 + vs := by
  unfold PlOk at h; omega
theorem PlOk.water {p vs : Int} (h : PlOk p vs) (h1 : p < 20) : 0 ≤ p ∧ p ≤ 8 := by
  unfold PlOk at h; omega
theorem PlOk.rg {p vs : Int} (h : PlOk p vs) (h1 : vs ≤ 6) : 0 ≤ p ∧ p ≤ 41 := by
  unfold PlOk at h; omega
def Gm (M : zM) : Prop :=
  (∀ v : Nat, (v : Int) < M (229 + 1) 1 → (0 ≤ M (229 + 5) v ∧ M (229 + 5) v ≤ 8)) ∧
  (∀ l : Nat, (l : Int) < M (229 + 1) 3 → (0 ≤ M (229 + 9) l ∧ M (229 + 9) l ≤ 3)) ∧
  (∀ l : Nat, (l : Int) < M (229 + 1) 3 → PlOk (M (229 + 12) l) (M (229 + 1) 1)) ∧
  (∀ q : Nat, (q < 72 ∧ ((q : Int) < 6 * M (229 + 1) 3 ∨ q % 6 ≠ 0)) → (0 ≤ M (229 + 18) q ∧ M (229 + 18) q ≤ 5)) ∧
  (∀ k : Nat, (k : Int) < M (229 + 1) 3 → M (229 + 17) k < M (229 + 1) 3) ∧
  (0 < M (229 + 1) 3 → 0 < M (229 + 1) 1)
theorem Gm.frame {M M' : zM} (h : Gm M) (f : ∀ c j : Nat, ((c = 229 + 1 ∧ (j = 1 ∨ j = 3)) ∨ c = 229 + 5 ∨ c = 229 + 9 ∨ c = 229 + 12 ∨ c = 229 + 17 ∨ c = 229 + 18) → M' c j = M c j) : Gm M' := by
  obtain ⟨h1, h2, h3, h4, h5, h6⟩ := h
  have e1 := f (229 + 1) 1 (by omega)
  have e3 := f (229 + 1) 3 (by omega)
  refine ⟨fun v hv => ?_, fun l hl => ?_, fun l hl => ?_, fun q hq => ?_, fun k hk => ?_, ?_⟩
  · rw [e1] at hv; rw [f (229 + 5) v (by omega)]; exact h1 v hv
  · rw [e3] at hl; rw [f (229 + 9) l (by omega)]; exact h2 l hl
  · rw [e3] at hl; rw [f (229 + 12) l (by omega), e1]; exact h3 l hl
  · rw [e3] at hq; rw [f (229 + 18) q (by omega)]; exact h4 q hq
  · rw [e3] at hk; rw [f (229 + 17) k (by omega), e3]; exact h5 k hk
  · rw [e1, e3]; exact h6
theorem Gm.place {M M' : zM} {i : Nat} {v : Int} (h : Gm M) (he : M' (229 + 12) i = v) (f : ∀ c j : Nat, (c ≠ 229 + 12 ∨ j ≠ i) → M' c j = M c j) (hv : PlOk v (M (229 + 1) 1)) : Gm M' := by
  obtain ⟨h1, h2, h3, h4, h5, h6⟩ := h
  have e1 := f (229 + 1) 1 (by omega)
  have e3 := f (229 + 1) 3 (by omega)
  refine ⟨fun v hv => ?_, fun l hl => ?_, fun l hl => ?_, fun q hq => ?_, fun k hk => ?_, ?_⟩
  · rw [e1] at hv; rw [f (229 + 5) v (by omega)]; exact h1 v hv
  · rw [e3] at hl; rw [f (229 + 9) l (by omega)]; exact h2 l hl
  · rw [e3] at hl; rw [e1]
    by_cases q : l = i
    · subst q; rw [he]; exact hv
    · rw [f (229 + 12) l (by omega)]; exact h3 l hl
  · rw [e3] at hq; rw [f (229 + 18) q (by omega)]; exact h4 q hq
  · rw [e3] at hk; rw [f (229 + 17) k (by omega), e3]; exact h5 k hk
  · rw [e1, e3]; exact h6
theorem Gm.order {M M' : zM} {i : Nat} {v : Int} (h : Gm M) (he : M' (229 + 17) i = v) (f : ∀ c j : Nat, (c ≠ 229 + 17 ∨ j ≠ i) → M' c j = M c j) (hv : (i : Int) < M (229 + 1) 3 → v < M (229 + 1) 3) : Gm M' := by
  obtain ⟨h1, h2, h3, h4, h5, h6⟩ := h
  have e1 := f (229 + 1) 1 (by omega)
  have e3 := f (229 + 1) 3 (by omega)
  refine ⟨fun v hv => ?_, fun l hl => ?_, fun l hl => ?_, fun q hq => ?_, fun k hk => ?_, ?_⟩
  · rw [e1] at hv; rw [f (229 + 5) v (by omega)]; exact h1 v hv
  · rw [e3] at hl; rw [f (229 + 9) l (by omega)]; exact h2 l hl
  · rw [e3] at hl; rw [f (229 + 12) l (by omega), e1]; exact h3 l hl
  · rw [e3] at hq; rw [f (229 + 18) q (by omega)]; exact h4 q hq
  · rw [e3] at hk; rw [e3]
    by_cases q : k = i
    · subst q; rw [he]; exact hv hk
    · rw [f (229 + 17) k (by omega)]; exact h5 k hk
  · rw [e1, e3]; exact h6
theorem Gm.notch {M M' : zM} {i : Nat} {v : Int} (h : Gm M) (he : M' (229 + 18) i = v) (f : ∀ c j : Nat, (c ≠ 229 + 18 ∨ j ≠ i) → M' c j = M c j) (h0 : 0 ≤ v) (h9 : v ≤ 5) : Gm M' := by
  obtain ⟨h1, h2, h3, h4, h5, h6⟩ := h
  have e1 := f (229 + 1) 1 (by omega)
  have e3 := f (229 + 1) 3 (by omega)
  refine ⟨fun v hv => ?_, fun l hl => ?_, fun l hl => ?_, fun q hq => ?_, fun k hk => ?_, ?_⟩
  · rw [e1] at hv; rw [f (229 + 5) v (by omega)]; exact h1 v hv
  · rw [e3] at hl; rw [f (229 + 9) l (by omega)]; exact h2 l hl
  · rw [e3] at hl; rw [f (229 + 12) l (by omega), e1]; exact h3 l hl
  · rw [e3] at hq
    by_cases z : q = i
    · subst z; rw [he]; exact ⟨h0, h9⟩
    · rw [f (229 + 18) q (by omega)]; exact h4 q hq
  · rw [e3] at hk; rw [f (229 + 17) k (by omega), e3]; exact h5 k hk
  · rw [e1, e3]; exact h6
