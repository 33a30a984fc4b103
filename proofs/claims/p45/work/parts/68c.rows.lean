theorem genC : ∀ k9 : Nat, k9 ≤ 10 → FactC k9 (12 + 2 * k9) (300 + 80 * k9) ∧ TestC k9 (13 + 2 * k9) (340 + 80 * k9)
  | 0, _ => by
    have hF : FactC 0 12 300 := fun Γ M g hg depth hl hu t9 n9 a9 pre0 ex0 => factZ Γ M g hg depth (by omega) (by omega) t9 n9 a9 ex0
    exact ⟨hF, fun Γ M g hg depth hl hu t9 n9 a9 pre0 ex0 => testS Γ M g hg depth hl hu t9 n9 a9 0 pre0 ex0 12 300 (by omega) (by omega) hF⟩
  | k9 + 1, hk => by
    obtain ⟨h1, h2⟩ := genC k9 (by omega)
    have hT : TestC k9 (12 + 2 * k9 + 1) (300 + 80 * k9 + 40) := by rw [show 12 + 2 * k9 + 1 = 13 + 2 * k9 by omega, show 300 + 80 * k9 + 40 = 340 + 80 * k9 by omega]; exact h2
    have hF : FactC (k9 + 1) (12 + 2 * k9 + 2) (300 + 80 * k9 + 80) := fun Γ M g hg depth hl hu t9 n9 a9 pre0 ex0 => factS Γ M g hg depth (by omega) (by omega) t9 n9 a9 k9 (by omega) ex0 (12 + 2 * k9) (300 + 80 * k9) (by omega) (by omega) h1 hT
    have hT2 : TestC (k9 + 1) (12 + 2 * k9 + 2 + 1) (300 + 80 * k9 + 80 + 40) := fun Γ M g hg depth hl hu t9 n9 a9 pre0 ex0 => testS Γ M g hg depth hl hu t9 n9 a9 (k9 + 1) pre0 ex0 (12 + 2 * k9 + 2) (300 + 80 * k9 + 80) (by omega) (by omega) hF
    rw [show 12 + 2 * (k9 + 1) = 12 + 2 * k9 + 2 by omega, show 300 + 80 * (k9 + 1) = 300 + 80 * k9 + 80 by omega, show 13 + 2 * (k9 + 1) = 12 + 2 * k9 + 2 + 1 by omega, show 340 + 80 * (k9 + 1) = 300 + 80 * k9 + 80 + 40 by omega]
    exact ⟨hF, hT2⟩

abbrev qctX5_readsTest2 (M : zM) (g : Nat) (depth : Int) (t9 : Nat → Int) (n9 : Nat) (a9 : Nat) (z : Int) (M' : zM) : Prop := (∀ u_ v_, (u_ ≠ 7 ∨ v_ ≠ 2) ∧ (u_ ≠ 7 ∨ v_ ≠ 3) ∧ (u_ ≠ 7 ∨ v_ ≠ 4) ∧ (u_ ≠ 7 ∨ v_ ≠ 5) ∧ (u_ ≠ 18 ∨ v_ ≠ 1) ∧ (u_ ≠ g ∨ v_ ≠ 1) ∧ (u_ ≠ g ∨ v_ ≠ 2) ∧ (u_ ≠ g ∨ v_ ≠ 3) ∧ u_ ≠ g + 1 → M' u_ v_ = M u_ v_) ∧ 0 ≤ z ∧ z ≤ 1 ∧ (Rz M' t9 n9 z (Tl t9 n9 (Ff t9 n9 10) 60 a9 (M 18 1)))
theorem ctX5_readsTest2 (Γ : Gam) (M : zM) (g : Nat) (hg : isX4 g) (depth : Int) (hdepthl : 0 ≤ depth) (hdepthu : depth ≤ 0) (t9 : Nat → Int) (n9 : Nat) (a9 : Nat) (ex0 : Tc M t9 n9 a9) : CtI Γ yX5_readsTest cX5_readsTest 6 (some .boolean) 33 1140 [aR Γ 18, aR Γ g, vI depth] M (qctX5_readsTest2 M g depth t9 n9 a9) := (genC 10 (by omega)).2 Γ M g hg depth (by omega) (by omega) t9 n9 a9 (by omega) ex0
