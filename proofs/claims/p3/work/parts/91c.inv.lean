/-! what holds between two calls of the law -/
def Inv (M : zM) : Prop := Gd M 37 (45 + 1) ∧ ImOk M ∧ Gm M ∧ Rl M ∧ On M ∧ ImR M ∧ M (229 + 1) 7 ≤ 9999 ∧ M (45 + 11) 0 = M (229 + 1) 16 ∧
  (∀ k : Nat, k < 4 → M (101 + 32 * k) 0 = M (229 + 57) k) ∧ (∀ k : Nat, k < 4 → M (229 + 57) k = 1 → M (101 + 32 * k + 19) 0 = M (229 + 56) (900 * k + 16))
theorem Inv.gd {M : zM} (h : Inv M) : Gd M 37 (45 + 1) := h.1
theorem Inv.io {M : zM} (h : Inv M) : ImOk M := h.2.1
theorem Inv.gm {M : zM} (h : Inv M) : Gm M := h.2.2.1
theorem Inv.rl {M : zM} (h : Inv M) : Rl M := h.2.2.2.1
theorem Inv.on {M : zM} (h : Inv M) : On M := h.2.2.2.2.1
theorem Inv.im {M : zM} (h : Inv M) : ImR M := h.2.2.2.2.2.1
theorem Inv.dy {M : zM} (h : Inv M) : M (229 + 1) 7 ≤ 9999 := h.2.2.2.2.2.2.1
theorem Inv.ex {M : zM} (h : Inv M) : M (45 + 11) 0 = M (229 + 1) 16 := h.2.2.2.2.2.2.2.1
theorem Inv.mk {M : zM} (h : Inv M) (k : Nat) (hk : k < 4) : M (101 + 32 * k) 0 = M (229 + 57) k := h.2.2.2.2.2.2.2.2.1 k hk
theorem Inv.ix {M : zM} (h : Inv M) (k : Nat) (hk : k < 4) (h1 : M (229 + 57) k = 1) : M (101 + 32 * k + 19) 0 = M (229 + 56) (900 * k + 16) := h.2.2.2.2.2.2.2.2.2 k hk h1
theorem isX1_k {o : Nat} (h : isX1 o) : ∃ k : Nat, k < 4 ∧ o = 101 + 32 * k := by
  rcases h with rfl | rfl | rfl | rfl
  · exact ⟨0, by decide, rfl⟩
  · exact ⟨1, by decide, rfl⟩
  · exact ⟨2, by decide, rfl⟩
  · exact ⟨3, by decide, rfl⟩
theorem isX1_of {k : Nat} (h : k < 4) : isX1 (101 + 32 * k) := by
  have e : k = 0 ∨ k = 1 ∨ k = 2 ∨ k = 3 := by omega
  rcases e with rfl | rfl | rfl | rfl <;> decide
/-- the reference's part stands where its cells do -/
theorem Inv.cls {M M' : zM} (h : Inv M) (f : ∀ u v : Nat, (101 ≤ u ∨ (u = 45 + 11 ∧ v = 0)) → M' u v = M u v) (g : Gd M' 37 (45 + 1)) : Inv M' := by
  refine ⟨g, fun o ho hm => ?_, h.gm.frame (fun c j q => f c j (by omega)), h.rl.frame (fun c j q => f c j (by omega)), h.on.frame (fun c j q => f c j (by omega)), h.im.frame (fun c j q => f c j (by omega)), ?_, ?_, fun k hk => ?_, fun k hk h1 => ?_⟩
  · obtain ⟨k, hk, rfl⟩ := isX1_k ho
    rw [f _ _ (by omega)] at hm
    exact (h.io _ ho hm).frame (fun c j q => f c j (by omega))
  · rw [f _ _ (by omega)]; exact h.dy
  · rw [f (45 + 11) 0 (by omega), f (229 + 1) 16 (by omega)]; exact h.ex
  · rw [f (101 + 32 * k) 0 (by omega), f (229 + 57) k (by omega)]; exact h.mk k hk
  · rw [f (229 + 57) k (by omega)] at h1
    rw [f (101 + 32 * k + 19) 0 (by omega), f (229 + 56) _ (by omega)]; exact h.ix k hk h1
theorem Inv.ref {M M' : zM} (h : Inv M) (f : ∀ u v : Nat, u < 229 → M' u v = M u v) (gm : Gm M') (rl : Rl M') (on : On M') (im : ImR M') (dy : M' (229 + 1) 7 ≤ 9999) (e16 : M' (229 + 1) 16 = M (229 + 1) 16) (e57 : ∀ k : Nat, k < 4 → M' (229 + 57) k = M (229 + 57) k) (e56 : ∀ j : Nat, j < 3600 → M' (229 + 56) j = M (229 + 56) j) : Inv M' := by
  refine ⟨h.gd.frame (fun c j q => f c j (by omega)), fun o ho hm => ?_, gm, rl, on, im, dy, ?_, fun k hk => ?_, fun k hk h1 => ?_⟩
  · obtain ⟨k, hk, rfl⟩ := isX1_k ho
    rw [f _ _ (by omega)] at hm
    exact (h.io _ ho hm).frame (fun c j q => f c j (by omega))
  · rw [f (45 + 11) 0 (by omega), e16]; exact h.ex
  · rw [f (101 + 32 * k) 0 (by omega), e57 k hk]; exact h.mk k hk
  · rw [e57 k hk] at h1
    rw [f (101 + 32 * k + 19) 0 (by omega), e56 _ (by omega)]; exact h.ix k hk h1
/-- seed: both answer alike, both are alike then -/
theorem Inv.seed {M M1 M2 : zM} {v z1 z2 : Int} (h : Inv M) (p : qctX9_seed M v z1 M1) (q : qctX10_seed M1 v z2 M2) : z1 = z2 ∧ Inv M2 := by
  obtain ⟨p1, p2, p3, p4⟩ := p
  obtain ⟨q1, q2, q3⟩ := q
  have c1 : M1 (229 + 1) 16 = M (229 + 1) 16 := p1 _ _ (by omega)
  have e := h.ex
  have both : z1 = z2 ∧ M1 (45 + 11) 0 = M2 (229 + 1) 16 := by
    by_cases hv : v < 0
    · have a := p3 hv; have b := q2 hv; omega
    · have a := p4 (by omega); have b := q3 (by omega); omega
  refine ⟨both.1, ?_⟩
  have f : ∀ u w : Nat, (u ≠ 45 + 11 ∨ w ≠ 0) → (u ≠ 229 + 1 ∨ w ≠ 16) → M2 u w = M u w := fun u w h1 h2 => (q1 u w h2).trans (p1 u w h1)
  have g : ∀ u w : Nat, (u ≠ 229 + 1 ∨ w ≠ 16) → M2 u w = M1 u w := fun u w h2 => q1 u w h2
  refine ⟨p2.frame (fun c j q => g c j (by omega)), fun o ho hm => ?_, h.gm.frame (fun c j q => f c j (by omega) (by omega)), h.rl.frame (fun c j q => f c j (by omega) (by omega)), h.on.frame (fun c j q => f c j (by omega) (by omega)), h.im.frame (fun c j q => f c j (by omega) (by omega)), ?_, ?_, fun k hk => ?_, fun k hk h1 => ?_⟩
  · obtain ⟨k, hk, rfl⟩ := isX1_k ho
    rw [f _ _ (by omega) (by omega)] at hm
    exact (h.io _ ho hm).frame (fun c j q => f c j (by omega) (by omega))
  · rw [f _ _ (by omega) (by omega)]; exact h.dy
  · rw [g (45 + 11) 0 (by omega)]; exact both.2
  · rw [f (101 + 32 * k) 0 (by omega) (by omega), f (229 + 57) k (by omega) (by omega)]; exact h.mk k hk
  · rw [f (229 + 57) k (by omega) (by omega)] at h1
    rw [f (101 + 32 * k + 19) 0 (by omega) (by omega), f (229 + 56) _ (by omega) (by omega)]; exact h.ix k hk h1
theorem zof1 : zof (229 + 1) = 0 := rfl
/-- image -/
theorem Inv.image {M M1 M2 : zM} {k z1 z2 : Int} (hI : zIv M1) (h : Inv M) (p : qctX9_image M k z1 M1) (q : qctX10_image M1 k z2 M2) : Inv M2 := by
  obtain ⟨p1, p2, p3, p4⟩ := p
  obtain ⟨q1, q2, q3, q4⟩ := q
  by_cases hk : 0 ≤ k ∧ k < 4
  · obtain ⟨a1, a2, a3, a4⟩ := p3 (101 + 32 * k.toNat) (by omega) hk.1 hk.2
    obtain ⟨b1, b2, b3⟩ := q2 hk.1 hk.2
    have g : ∀ u w : Nat, u < 229 → M2 u w = M1 u w := fun u w hu => q1 u w (by omega)
    have r : ∀ u w : Nat, 229 ≤ u → M1 u w = M u w := fun u w hu => p1 u w (by omega)
    have s : ∀ u w : Nat, (u = 229 ∧ w < 78) ∨ (230 ≤ u ∧ u < 229 + 56) → M2 u w = M u w := fun u w hu => (q1 u w (by omega)).trans (r u w (by omega))
    have e41 := s 229 41 (by omega)
    refine ⟨p2.frame (fun c j q => g c j (by omega)), fun o ho hm => ?_, h.gm.frame (fun c j q => s c j (by omega)), h.rl.frame (fun c j q => s c j (by omega)), h.on.frame (fun c j q => s c j (by omega)), fun n hn hm => ?_, ?_, ?_, fun n hn => ?_, fun n hn h1 => ?_⟩
    · obtain ⟨n, hn, rfl⟩ := isX1_k ho
      by_cases z : n = k.toNat
      · subst z
        exact a3.frame (fun c j q => g c j (by omega))
      · rw [g _ _ (by omega), a4 _ _ (by omega)] at hm
        exact (h.io _ ho hm).frame (fun c j q => (g c j (by omega)).trans (a4 c j (by omega)))
    · by_cases z : n = k.toNat
      · subst z
        exact BlOk.take hI (h.gm.frame (fun c j q => r c j (by omega))) (h.on.frame (fun c j q => r c j (by omega))) (h.rl.frame (fun c j q => r c j (by omega))) (by rw [r _ _ (by omega)]; exact h.dy) (q1 229 41 (by omega)) b2
      · rw [q4 n z, r _ _ (by omega)] at hm
        refine (h.im n hn hm).frame (fun c j q => ?_)
        rcases q with ⟨rfl, rfl⟩ | ⟨rfl, q9, q8⟩
        · exact e41
        · exact (b3 j (by omega)).trans (r _ _ (by omega))
    · rw [s _ _ (by omega)]; exact h.dy
    · rw [g _ _ (by omega), p1 _ _ (by omega), s _ _ (by omega)]; exact h.ex
    · by_cases z : n = k.toNat
      · subst z; rw [g _ _ (by omega), a1, b1]
      · rw [g _ _ (by omega), a4 _ _ (by omega), q4 n z, r _ _ (by omega)]; exact h.mk n hn
    · by_cases z : n = k.toNat
      · subst z
        have w := b2 (229 + 1) 16 (by omega) (by omega) (by decide)
        rw [zof1] at w
        rw [g _ _ (by omega), a2, h.ex]
        rw [show 900 * k.toNat + 16 = 900 * k.toNat + 0 + 16 by omega, w, r _ _ (by omega)]
      · rw [q4 n z, r _ _ (by omega)] at h1
        rw [g _ _ (by omega), a4 _ _ (by omega), b3 _ (by omega), r _ _ (by omega)]; exact h.ix n hn h1
  · have e1 : M = M1 := p4 (by omega)
    have e2 : M1 = M2 := q3 (by omega)
    subst e1; subst e2; exact h
/-- back -/
theorem Inv.back {M M1 M2 : zM} {k z1 z2 : Int} (hI : zIv M) (h : Inv M) (p : qctX9_back2 M k z1 M1) (q : qctX10_back M1 k z2 M2) : Inv M2 := by
  obtain ⟨p1, p2, p3, p4, p5⟩ := p
  obtain ⟨q1, q2, q3⟩ := q
  by_cases hk : 0 ≤ k ∧ k < 4
  · have mk := h.mk k.toNat (by omega)
    have c57 : M1 (229 + 57) k.toNat = M (229 + 57) k.toNat := p1 _ _ (by omega)
    have i57 : (0 : Int) ≤ M (229 + 57) k.toNat ∧ M (229 + 57) k.toNat ≤ 1 := hI 286 k.toNat
    by_cases hm : M (229 + 57) k.toNat = 1
    · have x1 := p3 (101 + 32 * k.toNat) (by omega) hk.1 hk.2 (by omega)
      have b2 := q2 hk.1 hk.2 (by omega)
      have ix := h.ix k.toNat (by omega) hm
      have bk := h.im k.toNat (by omega) hm
      have g : ∀ u w : Nat, u < 229 → M2 u w = M1 u w := fun u w hu => q1 u w (by omega)
      have r : ∀ u w : Nat, 101 ≤ u → M1 u w = M u w := fun u w hu => p1 u w (by omega)
      have s : ∀ u w : Nat, ((u = 229 ∧ w < 78) ∨ (229 + 29 ≤ u)) → M2 u w = M u w := fun u w hu => (q1 u w (by omega)).trans (r u w (by omega))
      have b3 : ∀ c j : Nat, 230 ≤ c → c ≤ 257 → j < zln c → M2 c j = M (229 + 56) (900 * k.toNat + zof c + j) := fun c j h1 h2 h3 => (b2 c j h1 h2 h3).trans (r _ _ (by omega))
      refine ⟨p2.frame (fun c j q => g c j (by omega)), fun o ho hm => ?_, bk.gm b3, bk.rl h.rl b3 (fun c j q => s c j (by omega)), bk.on b3, h.im.frame (fun c j q => s c j (by omega)), bk.dy b3, ?_, fun n hn => ?_, fun n hn h1 => ?_⟩
      · obtain ⟨n, hn, rfl⟩ := isX1_k ho
        rw [g _ _ (by omega), r _ _ (by omega)] at hm
        exact (h.io _ ho hm).frame (fun c j q => (g c j (by omega)).trans (r c j (by omega)))
      · have w := b3 (229 + 1) 16 (by omega) (by omega) (by decide)
        rw [zof1] at w
        rw [g _ _ (by omega), x1, ix, w]
      · rw [g _ _ (by omega), r _ _ (by omega), s _ _ (by omega)]; exact h.mk n hn
      · rw [s _ _ (by omega)] at h1
        rw [g _ _ (by omega), r _ _ (by omega), s _ _ (by omega)]; exact h.ix n hn h1
    · have e1 : M = M1 := p5 (101 + 32 * k.toNat) (by omega) hk.1 hk.2 (by omega)
      subst e1
      have e2 : M = M2 := q3 (by omega)
      subst e2; exact h
  · have e1 : M = M1 := p4 (by omega)
    have e2 : M1 = M2 := q3 (by omega)
    subst e1; subst e2; exact h
/-! the tape and the number of RULES are alike on both sides -/
def RelA (M : zM) : Prop := (∃ (t : Nat → Int) (n : Nat), Tx M t n ∧ Ty M t n) ∧ M 0 4 = M 229 41
theorem RelA.cls {M M' : zM} (h : RelA M) (f : ∀ u v : Nat, ((u = 7 ∧ v = 1) ∨ u = 8 ∨ (u = 0 ∧ v = 4) ∨ 229 ≤ u) → M' u v = M u v) : RelA M' := by
  obtain ⟨⟨t, n, h1, h2⟩, h3⟩ := h
  exact ⟨⟨t, n, h1.frame (fun c j q => f c j (by omega)), h2.frame (fun c j q => f c j (by omega))⟩, by rw [f 0 4 (by omega), f 229 41 (by omega)]; exact h3⟩
theorem RelA.ref {M M' : zM} (h : RelA M) (f : ∀ u v : Nat, (u < 229 ∨ (u = 229 ∧ (v = 37 ∨ v = 41)) ∨ u = 229 + 37) → M' u v = M u v) : RelA M' := by
  obtain ⟨⟨t, n, h1, h2⟩, h3⟩ := h
  exact ⟨⟨t, n, h1.frame (fun c j q => f c j (by omega)), h2.frame (fun c j q => f c j (by omega))⟩, by rw [f 0 4 (by omega), f 229 41 (by omega)]; exact h3⟩
section REL
variable {M M1 M2 : zM} {t : Nat → Int} {n : Nat} {z1 z2 : Int}
theorem rel_feed {a b c d e : Int} (_htx : Tx M t n) (_hty : Ty M1 t n) (hrc : M 0 4 = M 229 41) (p1 : qctX9_feed2 M a b c d e t n z1 M1) (p2 : qctX10_feed3 M1 a b c d e t n z2 M2) : z1 = z2 ∧ RelA M2 := by
  obtain ⟨f1, g1, x⟩ := p1
  obtain ⟨f2, y⟩ := p2
  have e1 : M2 0 4 = M 0 4 := (f2 0 4 (by omega)).trans (f1 0 4 (by omega))
  have e2 : M2 229 41 = M 229 41 := (f2 229 41 (by omega)).trans (f1 229 41 (by omega))
  rcases x with ⟨x1, x2, x3⟩ | ⟨x1, x2, x3⟩ <;> rcases y with ⟨y1, y2, y3⟩ | ⟨y1, y2, y3⟩
  · exact ⟨by omega, ⟨_, _, x3.frame (fun c j q => f2 c j (by omega)), y3⟩, by omega⟩
  · omega
  · omega
  · exact ⟨by omega, ⟨_, _, x3.frame (fun c j q => f2 c j (by omega)), y3⟩, by omega⟩
theorem rel_end {a : Int} (htx : Tx M t n) (hty : Ty M1 t n) (hrc : M 0 4 = M 229 41) (p1 : qctX9_end2 M a z1 M1) (p2 : qctX10_end3 M1 a z2 M2) : z1 = z2 ∧ RelA M2 := by
  obtain ⟨f1, g1, x⟩ := p1
  obtain ⟨f2, y⟩ := p2
  have e1 : M2 0 4 = M 0 4 := (f2 0 4 (by omega)).trans (f1 0 4 (by omega))
  have e2 : M2 229 41 = M 229 41 := (f2 229 41 (by omega)).trans (f1 229 41 (by omega))
  have e3 : M2 7 1 = M1 7 1 := f2 7 1 (by omega)
  have k1 := htx.1
  have k2 := hty.1
  have k3 : ∀ j : Nat, j < n → M2 8 j = t j := fun j hj => by rw [f2 8 j (by omega), f1 8 j (by omega)]; exact htx.2 j hj
  have k4 : ∀ j : Nat, j < n → M2 (229 + 37) j % 256 = t j := fun j hj => by rw [f2 (229 + 37) j (by omega)]; exact hty.2 j hj
  rcases x with ⟨x1, x2, x3, x4⟩ | ⟨x1, x3, x4⟩ <;> rcases y with ⟨y1, y2, y3, y4⟩ | ⟨y1, y3, y4⟩
  · exact ⟨by omega, ⟨t, a.toNat, ⟨by omega, fun j hj => k3 j (by omega)⟩, ⟨by omega, fun j hj => k4 j (by omega)⟩⟩, by omega⟩
  · omega
  · omega
  · exact ⟨by omega, ⟨t, n, ⟨by omega, k3⟩, ⟨by omega, k4⟩⟩, by omega⟩
theorem rel_river (_htx : Tx M t n) (_hty : Ty M1 t n) (hrc : M 0 4 = M 229 41) (p1 : qctX9_river2 M z1 M1) (p2 : qctX10_river2 M1 z2 M2) : RelA M2 := by
  obtain ⟨f1, g1, x⟩ := p1
  obtain ⟨f2, y1, y2, y3, y4, y5⟩ := p2
  have e1 : M2 0 4 = M 0 4 := (f2 0 4 (by omega)).trans (f1 0 4 (by omega))
  have e2 : M2 229 41 = M 229 41 := (f2 229 41 (by omega)).trans (f1 229 41 (by omega))
  have e3 : M2 7 1 = M1 7 1 := f2 7 1 (by omega)
  exact ⟨⟨t, 0, ⟨by omega, fun j hj => absurd hj (by omega)⟩, ⟨by omega, fun j hj => absurd hj (by omega)⟩⟩, by omega⟩
theorem rel_rule (htx : Tx M t n) (hty : Ty M1 t n) (hrc : M 0 4 = M 229 41) (p1 : qctX9_rule2 M t n z1 M1) (p2 : qctX10_rule3 M1 t n z2 M2) : z1 = z2 ∧ RelA M2 := by
  obtain ⟨f1, g1, x1, x2⟩ := p1
  obtain ⟨f2, y1, y2, y3, y4, y5, y6⟩ := p2
  have e1 : M2 0 4 = M1 0 4 := f2 0 4 (by omega)
  have e2 : M1 229 41 = M 229 41 := f1 229 41 (by omega)
  have e3 : M2 7 1 = M1 7 1 := f2 7 1 (by omega)
  by_cases c : 6 ≤ M 0 4
  · obtain ⟨a1, a2, a3, a4⟩ := x1 c
    obtain ⟨b1, b2, b3⟩ := y5 (by omega)
    have k1 := htx.1
    have k2 := hty.1
    exact ⟨by omega, ⟨t, n, ⟨by omega, fun j hj => by rw [f2 8 j (by omega), a4 j]; exact htx.2 j hj⟩, ⟨by omega, fun j hj => by rw [f2 (229 + 37) j (by omega)]; exact hty.2 j hj⟩⟩, by omega⟩
  · obtain ⟨a1, a2⟩ := x2 (by omega)
    obtain ⟨b1, b2⟩ := y6 (by omega)
    have e4 : M1 229 41 = M 0 4 := by omega
    rw [e4] at b2
    have q := a2.fun b2
    exact ⟨q.1, ⟨t, 0, ⟨by omega, fun j hj => absurd hj (by omega)⟩, ⟨by omega, fun j hj => absurd hj (by omega)⟩⟩, by omega⟩
end REL
