/-! rows that are carried one behind the other: into an image, out of it -/
theorem zof_mono0 : ∀ i m : Fin 28, i.1 < m.1 → zof (230 + i.1) + zln (230 + i.1) ≤ zof (230 + m.1) := by decide
theorem zof_mono {u c : Nat} (h1 : 230 ≤ u) (h2 : u < c) (h3 : c ≤ 257) : zof u + zln u ≤ zof c := by
  have q := zof_mono0 ⟨u - 230, by omega⟩ ⟨c - 230, by omega⟩ (show u - 230 < c - 230 by omega)
  have e1 : 230 + (u - 230) = u := by omega
  have e2 : 230 + (c - 230) = c := by omega
  simp only [e1, e2] at q
  exact q
abbrev qcarT (M : zM) (c n : Nat) (at_ : Int) (M' : zM) : Prop := (∀ u v : Nat, u ≠ 229 + 56 → (u ≠ 229 ∨ v ≠ 78) → M' u v = M u v) ∧ (∀ j : Nat, ((j : Int) < at_ ∨ at_ + n ≤ j) → M' (229 + 56) j = M (229 + 56) j) ∧ (∀ j : Nat, j < n → M' (229 + 56) (at_.toNat + j) = M c j) ∧ M' 229 78 = at_ + n
abbrev qcarG (M : zM) (c n : Nat) (at_ : Int) (M' : zM) : Prop := (∀ u v : Nat, u ≠ c → (u ≠ 229 ∨ v ≠ 78) → M' u v = M u v) ∧ (∀ j : Nat, j < n → M' c j = M (229 + 56) (at_.toNat + j)) ∧ M' 229 78 = at_ + n
/-- k's block of A holds N's rows up to c; N's rows, and N's other blocks, are A's -/
def Tk (A N : zM) (k : Int) (c : Nat) : Prop := (∀ u j : Nat, 230 ≤ u → u ≤ c → j < zln u → A (229 + 56) (900 * k.toNat + zof u + j) = N u j) ∧ (∀ u j : Nat, 230 ≤ u → u ≤ 257 → A u j = N u j) ∧ ∀ j : Nat, (j < 900 * k.toNat ∨ 900 * k.toNat + 900 ≤ j) → A (229 + 56) j = N (229 + 56) j
theorem Tk.nil {A N : zM} {k : Int} (f : ∀ u v : Nat, 230 ≤ u → A u v = N u v) : Tk A N k 229 := ⟨fun u j h1 h2 => absurd h2 (by omega), fun u j h1 _ => f u j h1, fun j _ => f _ j (by omega)⟩
theorem Tk.go {A B N : zM} {k at_ : Int} {c c' n : Nat} (h : Tk A N k c) (p : qcarT A c' n at_ B) (h0 : 229 ≤ c) (hc : c' = c + 1) (hl : c' ≤ 257) (hk : 0 ≤ k) (ha : at_ = 900 * k + (zof c' : Nat)) (hn : n = zln c') : Tk B N k c' := by
  obtain ⟨p1, p2, p3, p4⟩ := p
  obtain ⟨h1, h2, h3⟩ := h
  have q := zof_le (c := c') (by omega) hl
  refine ⟨fun u j u1 u2 u3 => ?_, fun u j u1 u2 => ?_, fun j hj => ?_⟩
  · by_cases z : u = c'
    · rw [z] at u1 u3 ⊢
      have e := p3 j (by omega)
      rw [show at_.toNat + j = 900 * k.toNat + zof c' + j by omega] at e
      exact e.trans (h2 c' j u1 hl)
    · have m := zof_mono u1 (show u < c' by omega) hl
      rw [p2 _ (by omega)]; exact h1 u j u1 (by omega) u3
  · rw [p1 u j (by omega) (by omega)]; exact h2 u j u1 u2
  · rw [p2 j (by omega)]; exact h3 j hj
/-- A's rows up to c are those of N's block k; N's blocks are A's -/
def Gk (A N : zM) (k : Int) (c : Nat) : Prop := (∀ u j : Nat, 230 ≤ u → u ≤ c → j < zln u → A u j = N (229 + 56) (900 * k.toNat + zof u + j)) ∧ ∀ j : Nat, A (229 + 56) j = N (229 + 56) j
theorem Gk.nil {A N : zM} {k : Int} (f : ∀ j : Nat, A (229 + 56) j = N (229 + 56) j) : Gk A N k 229 := ⟨fun u j h1 h2 => absurd h2 (by omega), f⟩
theorem Gk.go {A B N : zM} {k at_ : Int} {c c' n : Nat} (h : Gk A N k c) (p : qcarG A c' n at_ B) (h0 : 229 ≤ c) (hc : c' = c + 1) (hl : c' ≤ 257) (hk : 0 ≤ k) (ha : at_ = 900 * k + (zof c' : Nat)) (hn : n = zln c') : Gk B N k c' := by
  obtain ⟨p1, p2, p3⟩ := p
  obtain ⟨h1, h2⟩ := h
  refine ⟨fun u j u1 u2 u3 => ?_, fun j => ?_⟩
  · by_cases z : u = c'
    · rw [z] at u1 u3 ⊢
      have e := p2 j (by omega)
      rw [show at_.toNat + j = 900 * k.toNat + zof c' + j by omega] at e
      exact e.trans (h2 _)
    · rw [p1 u j z (by omega)]; exact h1 u j u1 (by omega) u3
  · rw [p1 _ j (by omega) (by omega)]; exact h2 j
