/-! rows of RIVERS that are read -/
theorem RvOk.frame {M M' : zM} {t : Nat} (h : RvOk M t) (f : ∀ c j : Nat, ((c = t ∧ (j = 1 ∨ j = 3)) ∨ (c = t + 1 ∧ (j : Int) < M t 1) ∨ (c = t + 4 ∧ (j : Int) < M t 3) ∨ (c = t + 7 ∧ (j : Int) < M t 3)) → M' c j = M c j) : RvOk M' t := by
  obtain ⟨h1, h2, h3⟩ := h
  have e1 := f t 1 (Or.inl ⟨rfl, Or.inl rfl⟩)
  have e3 := f t 3 (Or.inl ⟨rfl, Or.inr rfl⟩)
  refine ⟨fun v hv => ?_, fun l hl => ?_, fun l hl => ?_⟩
  · rw [e1] at hv; rw [f (t + 1) v (Or.inr (Or.inl ⟨rfl, hv⟩))]; exact h1 v hv
  · rw [e3] at hl; rw [f (t + 4) l (Or.inr (Or.inr (Or.inl ⟨rfl, hl⟩)))]; exact h2 l hl
  · rw [e3] at hl; rw [f (t + 7) l (Or.inr (Or.inr (Or.inr ⟨rfl, hl⟩))), e1]; exact h3 l hl
theorem RvOk.village {M M' : zM} {t : Nat} (h : RvOk M t) {i : Nat} (hi : (i : Int) = M t 1) (hv : 0 ≤ M (t + 1) i) (he : M' t 1 = M t 1 + 1) (f : ∀ c j, (c ≠ t ∨ j ≠ 1) → M' c j = M c j) : RvOk M' t := by
  obtain ⟨h1, h2, h3⟩ := h
  have e3 := f t 3 (by omega)
  refine ⟨fun v hw => ?_, fun l hl => ?_, fun l hl => ?_⟩
  · rw [he] at hw; rw [f (t + 1) v (by omega)]
    by_cases q : v = i
    · subst q; exact hv
    · exact h1 v (by omega)
  · rw [e3] at hl; rw [f (t + 4) l (by omega)]; exact h2 l hl
  · rw [e3] at hl; rw [f (t + 7) l (by omega), he]; have := h3 l hl; omega
theorem RvOk.log {M M' : zM} {t : Nat} (h : RvOk M t) {i : Nat} (hi : (i : Int) = M t 3) (hw : 0 ≤ M (t + 4) i) (hf : 0 ≤ M (t + 7) i) (hf2 : M (t + 7) i < M t 1) (he : M' t 3 = M t 3 + 1) (f : ∀ c j, (c ≠ t ∨ j ≠ 3) → M' c j = M c j) : RvOk M' t := by
  obtain ⟨h1, h2, h3⟩ := h
  have e1 := f t 1 (by omega)
  refine ⟨fun v hv => ?_, fun l hl => ?_, fun l hl => ?_⟩
  · rw [e1] at hv; rw [f (t + 1) v (by omega)]; exact h1 v hv
  · rw [he] at hl; rw [f (t + 4) l (by omega)]
    by_cases q : l = i
    · subst q; exact hw
    · exact h2 l (by omega)
  · rw [he] at hl; rw [f (t + 7) l (by omega), e1]
    by_cases q : l = i
    · subst q; exact ⟨hf, hf2⟩
    · exact h3 l (by omega)
theorem RvOk.none {M : zM} {t : Nat} (h1 : M t 1 = 0) (h3 : M t 3 = 0) : RvOk M t := ⟨fun v hv => by omega, fun l hl => by omega, fun l hl => by omega⟩
theorem RvOk.copy {M M' : zM} {t t' : Nat} (h : RvOk M t) (l1 : M t 1 ≤ 6) (l3 : M t 3 ≤ 12) (e1 : M' t' 1 = M t 1) (e3 : M' t' 3 = M t 3) (f1 : ∀ j : Nat, j < 6 → M' (t' + 1) j = M (t + 1) j) (f4 : ∀ j : Nat, j < 12 → M' (t' + 4) j = M (t + 4) j) (f7 : ∀ j : Nat, j < 12 → M' (t' + 7) j = M (t + 7) j) : RvOk M' t' := by
  obtain ⟨h1, h2, h3⟩ := h
  refine ⟨fun v hv => ?_, fun l hl => ?_, fun l hl => ?_⟩
  · rw [e1] at hv; rw [f1 v (by omega)]; exact h1 v hv
  · rw [e3] at hl; rw [f4 l (by omega)]; exact h2 l hl
  · rw [e3] at hl; rw [f7 l (by omega), e1]; exact h3 l hl
/-- as long as there is no FAULT, what was read is well -/
def RvI (M : zM) : Prop := M 7 5 = 0 → RvOk M 10
theorem RvOk.out {M M' : zM} {t : Nat} (h : RvOk M t) (f : ∀ u v : Nat, t ≤ u → u ≤ t + 7 → M' u v = M u v) : RvOk M' t :=
  h.frame (fun c j hcj => f c j (by omega) (by omega))
theorem RvOk.put {M M' : zM} {t j : Nat} (h : RvOk M t) (h1 : j ≠ 1) (h3 : j ≠ 3) (f : ∀ u v : Nat, (u ≠ t ∨ v ≠ j) → M' u v = M u v) : RvOk M' t :=
  h.frame (fun c k hck => f c k (by omega))
theorem RvOk.row {M M' : zM} {t k i : Nat} (h : RvOk M t) (hk : (k = 2 ∨ k = 3 ∨ k = 5 ∨ k = 6) ∨ (k = 1 ∧ M t 1 ≤ i) ∨ ((k = 4 ∨ k = 7) ∧ M t 3 ≤ i)) (f : ∀ u v : Nat, (u ≠ t + k ∨ v ≠ i) → M' u v = M u v) : RvOk M' t :=
  h.frame (fun c j hcj => f c j (by omega))
/-- what readNumber says -/
def RN (M M' : zM) (low high z : Int) : Prop := (M' 7 5 = 0 → (low ≤ z ∧ z ≤ high)) ∧ (M' 7 5 = 0 → M 7 5 = 0) ∧ (z = -1 ∨ (low ≤ z ∧ z ≤ high))
theorem RN.lo {M M' : zM} {low high z : Int} (h : RN M M' low high z) (hl : -1 ≤ low) : -1 ≤ z := by
  rcases h.2.2 with q | q <;> omega
theorem RN.hi {M M' : zM} {low high z : Int} (h : RN M M' low high z) {K : Int} (h1 : high ≤ K) (h2 : -1 ≤ K) : z ≤ K := by
  rcases h.2.2 with q | q <;> omega
/-- there is a place for what a CLAUSE of a kind tells -/
def Fit (M : zM) (kind : Int) : Prop := (kind = 1 → M 10 1 < 6) ∧ (kind = 3 → M 10 2 < 4) ∧ (kind = 4 → M 10 3 < 12)
theorem Fit.go {M M' : zM} {kind : Int} (h : Fit M kind) (e1 : M' 10 1 = M 10 1) (e2 : M' 10 2 = M 10 2) (e3 : M' 10 3 = M 10 3) : Fit M' kind := by
  unfold Fit; rw [e1, e2, e3]; exact h
/-- IMAGES that were made are well -/
def ImOk (M : zM) : Prop := ∀ o : Nat, isX1 o → M o 0 = 1 → Gd M (o + 1) (o + 9)
