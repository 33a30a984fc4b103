/-! what holds between two calls of the law -/
def Inv (M : zM) : Prop := Gd M 37 (45 + 1) ∧ ImOk M ∧ Gm M ∧ Rl M ∧ On M ∧ ImR M ∧ M (229 + 1) 7 ≤ 9999 ∧ M (45 + 11) 0 = M (229 + 1) 16 ∧
  (∀ k : Nat, k < 4 → M (101 + 32 * k) 0 = M (229 + 57) k) ∧ (∀ k : Nat, k < 4 → M (229 + 57) k = 1 → M (101 + 32 * k + 19) 0 = M (229 + 56) (900 * k + 16))
theorem Inv.gd {M : zM} (h : Inv M) : Gd M 37 (45 + 1) := h.1
theorem Inv.io {M : zM} (h : Inv M) : ImOk M := h.2.1
theorem Inv.gm {M : zM} (h : Inv M) : Gm M := h.2.2.1
theorem Inv.rl {M : zM} (h : Inv M) : Rl M := h.2.2.2.1
theorem Inv.on {M : zM} (h : Inv M) : On M := h.2.2.2.2.1
theorem Inv.im {M : zM} (h : Inv M) : ImR M := h.2.2.2.2.2.1
theorem Inv.dy {M : zM} (h : Inv M) : M (229 + 1) 7 ≤ 9999 := h.2.2.2.2.2.2.1
theorem Inv.ex {M : zM} (h : Inv M) : M (45 + 11) 0 = M (229 + 1) 16 := h.2.2.2.2.2.2.2.1
theorem Inv.mk {M : zM} (h : Inv M) (k : Nat) (hk : k < 4) : M (101 + 32 * k) 0 = M (229 + 57) k := h.2.2.2.2.2.2.2.2.1 k hk
theorem Inv.ix {M : zM} (h : Inv M) (k : Nat) (hk : k < 4) (h1 : M (229 + 57) k = 1) : M (101 + 32 * k + 19) 0 = M (229 + 56) (900 * k + 16) := h.2.2.2.2.2.2.2.2.2 k hk h1
theorem isX1_k {o : Nat} (h : isX1 o) : ∃ k : Nat, k < 4 ∧ o = 101 + 32 * k := by
  rcases h with rfl | rfl | rfl | rfl
  · exact ⟨0, by decide, rfl⟩
  · exact ⟨1, by decide, rfl⟩
  · exact ⟨2, by decide, rfl⟩
  · exact ⟨3, by decide, rfl⟩
theorem isX1_of {k : Nat} (h : k < 4) : isX1 (101 + 32 * k) := by
  have e : k = 0 ∨ k = 1 ∨ k = 2 ∨ k = 3 := by omega
  rcases e with rfl | rfl | rfl | rfl <;> decide
/-- the reference's part stands where its cells do -/
theorem Inv.cls {M M' : zM} (h : Inv M) (f : ∀ u v : Nat, (101 ≤ u ∨ (u = 45 + 11 ∧ v = 0)) → M' u v = M u v) (g : Gd M' 37 (45 + 1)) : Inv M' := by
  refine ⟨g, fun o ho hm => ?_, h.gm.frame (fun c j q => f c j (by omega)), h.rl.frame (fun c j q => f c j (by omega)), h.on.frame (fun c j q => f c j (by omega)), h.im.frame (fun c j q => f c j (by omega)), ?_, ?_, fun k hk => ?_, fun k hk h1 => ?_⟩
  · obtain ⟨k, hk, rfl⟩ := isX1_k ho
    rw [f _ _ (by omega)] at hm
    exact (h.io _ ho hm).frame (fun c j q => f c j (by omega))
  · rw [f _ _ (by omega)]; exact h.dy
  · rw [f (45 + 11) 0 (by omega), f (229 + 1) 16 (by omega)]; exact h.ex
  · rw [f (101 + 32 * k) 0 (by omega), f (229 + 57) k (by omega)]; exact h.mk k hk
  · rw [f (229 + 57) k (by omega)] at h1
    rw [f (101 + 32 * k + 19) 0 (by omega), f (229 + 56) _ (by omega)]; exact h.ix k hk h1
theorem Inv.ref {M M' : zM} (h : Inv M) (f : ∀ u v : Nat, u < 229 → M' u v = M u v) (gm : Gm M') (rl : Rl M') (on : On M') (im : ImR M') (dy : M' (229 + 1) 7 ≤ 9999) (e16 : M' (229 + 1) 16 = M (229 + 1) 16) (e57 : ∀ k : Nat, k < 4 → M' (229 + 57) k = M (229 + 57) k) (e56 : ∀ j : Nat, j < 3600 → M' (229 + 56) j = M (229 + 56) j) : Inv M' := by
  refine ⟨h.gd.frame (fun c j q => f c j (by omega)), fun o ho hm => ?_, gm, rl, on, im, dy, ?_, fun k hk => ?_, fun k hk h1 => ?_⟩
  · obtain ⟨k, hk, rfl⟩ := isX1_k ho
    rw [f _ _ (by omega)] at hm
    exact (h.io _ ho hm).frame (fun c j q => f c j (by omega))
  · rw [f (45 + 11) 0 (by omega), e16]; exact h.ex
  · rw [f (101 + 32 * k) 0 (by omega), e57 k hk]; exact h.mk k hk
  · rw [e57 k hk] at h1
    rw [f (101 + 32 * k + 19) 0 (by omega), e56 _ (by omega)]; exact h.ix k hk h1
/-- seed: both answer alike, both are alike then -/
theorem Inv.seed {M M1 M2 : zM} {v z1 z2 : Int} (h : Inv M) (p : qctX9_seed M v z1 M1) (q : qctX10_seed M1 v z2 M2) : z1 = z2 ∧ Inv M2 := by
  obtain ⟨p1, p2, p3, p4⟩ := p
  obtain ⟨q1, q2, q3⟩ := q
  have c1 : M1 (229 + 1) 16 = M (229 + 1) 16 := p1 _ _ (by omega)
  have e := h.ex
  have both : z1 = z2 ∧ M1 (45 + 11) 0 = M2 (229 + 1) 16 := by
    by_cases hv : v < 0
    · have a := p3 hv; have b := q2 hv; omega
    · have a := p4 (by omega); have b := q3 (by omega); omega
  refine ⟨both.1, ?_⟩
  have f : ∀ u w : Nat, (u ≠ 45 + 11 ∨ w ≠ 0) → (u ≠ 229 + 1 ∨ w ≠ 16) → M2 u w = M u w := fun u w h1 h2 => (q1 u w h2).trans (p1 u w h1)
  have g : ∀ u w : Nat, (u ≠ 229 + 1 ∨ w ≠ 16) → M2 u w = M1 u w := fun u w h2 => q1 u w h2
  refine ⟨p2.frame (fun c j q => g c j (by omega)), fun o ho hm => ?_, h.gm.frame (fun c j q => f c j (by omega) (by omega)), h.rl.frame (fun c j q => f c j (by omega) (by omega)), h.on.frame (fun c j q => f c j (by omega) (by omega)), h.im.frame (fun c j q => f c j (by omega) (by omega)), ?_, ?_, fun k hk => ?_, fun k hk h1 => ?_⟩
  · obtain ⟨k, hk, rfl⟩ := isX1_k ho
    rw [f _ _ (by omega) (by omega)] at hm
    exact (h.io _ ho hm).frame (fun c j q => f c j (by omega) (by omega))
  · rw [f _ _ (by omega) (by omega)]; exact h.dy
  · rw [g (45 + 11) 0 (by omega)]; exact both.2
  · rw [f (101 + 32 * k) 0 (by omega) (by omega), f (229 + 57) k (by omega) (by omega)]; exact h.mk k hk
  · rw [f (229 + 57) k (by omega) (by omega)] at h1
    rw [f (101 + 32 * k + 19) 0 (by omega) (by omega), f (229 + 56) _ (by omega) (by omega)]; exact h.ix k hk h1
theorem zof1 : zof (229 + 1) = 0 := rfl
/-- image -/
theorem Inv.image {M M1 M2 : zM} {k z1 z2 : Int} (hI : zIv M1) (h : Inv M) (p : qctX9_image2 M k z1 M1) (q : qctX10_image3 M1 k z2 M2) : Inv M2 := by
  obtain ⟨p1, p2, p3, p4, -, -⟩ := p
  obtain ⟨q1, q2, q3, q4, -⟩ := q
  by_cases hk : 0 ≤ k ∧ k < 4
  · obtain ⟨a1, a2, a3, a4⟩ := p3 (101 + 32 * k.toNat) (by omega) hk.1 hk.2
    obtain ⟨b1, b2, b3⟩ := q2 hk.1 hk.2
    have g : ∀ u w : Nat, u < 229 → M2 u w = M1 u w := fun u w hu => q1 u w (by omega)
    have r : ∀ u w : Nat, 229 ≤ u → M1 u w = M u w := fun u w hu => p1 u w (by omega)
    have s : ∀ u w : Nat, (u = 229 ∧ w < 78) ∨ (230 ≤ u ∧ u < 229 + 56) → M2 u w = M u w := fun u w hu => (q1 u w (by omega)).trans (r u w (by omega))
    have e41 := s 229 41 (by omega)
    refine ⟨p2.frame (fun c j q => g c j (by omega)), fun o ho hm => ?_, h.gm.frame (fun c j q => s c j (by omega)), h.rl.frame (fun c j q => s c j (by omega)), h.on.frame (fun c j q => s c j (by omega)), fun n hn hm => ?_, ?_, ?_, fun n hn => ?_, fun n hn h1 => ?_⟩
    · obtain ⟨n, hn, rfl⟩ := isX1_k ho
      by_cases z : n = k.toNat
      · subst z
        exact a3.frame (fun c j q => g c j (by omega))
      · rw [g _ _ (by omega), a4 _ _ (by omega)] at hm
        exact (h.io _ ho hm).frame (fun c j q => (g c j (by omega)).trans (a4 c j (by omega)))
    · by_cases z : n = k.toNat
      · subst z
        exact BlOk.take hI (h.gm.frame (fun c j q => r c j (by omega))) (h.on.frame (fun c j q => r c j (by omega))) (h.rl.frame (fun c j q => r c j (by omega))) (by rw [r _ _ (by omega)]; exact h.dy) (q1 229 41 (by omega)) b2
      · rw [q4 n z, r _ _ (by omega)] at hm
        refine (h.im n hn hm).frame (fun c j q => ?_)
        rcases q with ⟨rfl, rfl⟩ | ⟨rfl, q9, q8⟩
        · exact e41
        · exact (b3 j (by omega)).trans (r _ _ (by omega))
    · rw [s _ _ (by omega)]; exact h.dy
    · rw [g _ _ (by omega), p1 _ _ (by omega), s _ _ (by omega)]; exact h.ex
    · by_cases z : n = k.toNat
      · subst z; rw [g _ _ (by omega), a1, b1]
      · rw [g _ _ (by omega), a4 _ _ (by omega), q4 n z, r _ _ (by omega)]; exact h.mk n hn
    · by_cases z : n = k.toNat
      · subst z
        have w := b2 (229 + 1) 16 (by omega) (by omega) (by decide)
        rw [zof1] at w
        rw [g _ _ (by omega), a2, h.ex]
        rw [show 900 * k.toNat + 16 = 900 * k.toNat + 0 + 16 by omega, w, r _ _ (by omega)]
      · rw [q4 n z, r _ _ (by omega)] at h1
        rw [g _ _ (by omega), a4 _ _ (by omega), b3 _ (by omega), r _ _ (by omega)]; exact h.ix n hn h1
  · have e1 : M = M1 := p4 (by omega)
    have e2 : M1 = M2 := q3 (by omega)
    subst e1; subst e2; exact h
/-- back -/
theorem Inv.back {M M1 M2 : zM} {k z1 z2 : Int} (hI : zIv M) (h : Inv M) (p : qctX9_back3 M k z1 M1) (q : qctX10_back3 M1 k z2 M2) : Inv M2 := by
  obtain ⟨p1, p2, p3, p4, p5, -, -, -⟩ := p
  obtain ⟨q1, q2, q3, -, -⟩ := q
  by_cases hk : 0 ≤ k ∧ k < 4
  · have mk := h.mk k.toNat (by omega)
    have c57 : M1 (229 + 57) k.toNat = M (229 + 57) k.toNat := p1 _ _ (by omega)
    have i57 : (0 : Int) ≤ M (229 + 57) k.toNat ∧ M (229 + 57) k.toNat ≤ 1 := hI 286 k.toNat
    by_cases hm : M (229 + 57) k.toNat = 1
    · have x1 := p3 (101 + 32 * k.toNat) (by omega) hk.1 hk.2 (by omega)
      have b2 := q2 hk.1 hk.2 (by omega)
      have ix := h.ix k.toNat (by omega) hm
      have bk := h.im k.toNat (by omega) hm
      have g : ∀ u w : Nat, u < 229 → M2 u w = M1 u w := fun u w hu => q1 u w (by omega)
      have r : ∀ u w : Nat, 101 ≤ u → M1 u w = M u w := fun u w hu => p1 u w (by omega)
      have s : ∀ u w : Nat, ((u = 229 ∧ w < 78) ∨ (229 + 29 ≤ u)) → M2 u w = M u w := fun u w hu => (q1 u w (by omega)).trans (r u w (by omega))
      have b3 : ∀ c j : Nat, 230 ≤ c → c ≤ 257 → j < zln c → M2 c j = M (229 + 56) (900 * k.toNat + zof c + j) := fun c j h1 h2 h3 => (b2 c j h1 h2 h3).trans (r _ _ (by omega))
      refine ⟨p2.frame (fun c j q => g c j (by omega)), fun o ho hm => ?_, bk.gm b3, bk.rl h.rl b3 (fun c j q => s c j (by omega)), bk.on b3, h.im.frame (fun c j q => s c j (by omega)), bk.dy b3, ?_, fun n hn => ?_, fun n hn h1 => ?_⟩
      · obtain ⟨n, hn, rfl⟩ := isX1_k ho
        rw [g _ _ (by omega), r _ _ (by omega)] at hm
        exact (h.io _ ho hm).frame (fun c j q => (g c j (by omega)).trans (r c j (by omega)))
      · have w := b3 (229 + 1) 16 (by omega) (by omega) (by decide)
        rw [zof1] at w
        rw [g _ _ (by omega), x1, ix, w]
      · rw [g _ _ (by omega), r _ _ (by omega), s _ _ (by omega)]; exact h.mk n hn
      · rw [s _ _ (by omega)] at h1
        rw [g _ _ (by omega), r _ _ (by omega), s _ _ (by omega)]; exact h.ix n hn h1
    · have e1 : M = M1 := p5 (101 + 32 * k.toNat) (by omega) hk.1 hk.2 (by omega)
      subst e1
      have e2 : M = M2 := q3 (by omega)
      subst e2; exact h
  · have e1 : M = M1 := p4 (by omega)
    have e2 : M1 = M2 := q3 (by omega)
    subst e1; subst e2; exact h
/-! the tape and the number of RULES are alike on both sides -/
def RelA (M : zM) : Prop := (∃ (t : Nat → Int) (n : Nat), Tx M t n ∧ Ty M t n) ∧ M 0 4 = M 229 41
theorem RelA.cls {M M' : zM} (h : RelA M) (f : ∀ u v : Nat, ((u = 7 ∧ v = 1) ∨ u = 8 ∨ (u = 0 ∧ v = 4) ∨ 229 ≤ u) → M' u v = M u v) : RelA M' := by
  obtain ⟨⟨t, n, h1, h2⟩, h3⟩ := h
  exact ⟨⟨t, n, h1.frame (fun c j q => f c j (by omega)), h2.frame (fun c j q => f c j (by omega))⟩, by rw [f 0 4 (by omega), f 229 41 (by omega)]; exact h3⟩
theorem RelA.ref {M M' : zM} (h : RelA M) (f : ∀ u v : Nat, (u < 229 ∨ (u = 229 ∧ (v = 37 ∨ v = 41)) ∨ u = 229 + 37) → M' u v = M u v) : RelA M' := by
  obtain ⟨⟨t, n, h1, h2⟩, h3⟩ := h
  exact ⟨⟨t, n, h1.frame (fun c j q => f c j (by omega)), h2.frame (fun c j q => f c j (by omega))⟩, by rw [f 0 4 (by omega), f 229 41 (by omega)]; exact h3⟩
section REL
variable {M M1 M2 : zM} {t : Nat → Int} {n : Nat} {z1 z2 : Int}
theorem rel_feed {a b c d e : Int} (_htx : Tx M t n) (_hty : Ty M1 t n) (hrc : M 0 4 = M 229 41) (p1 : qctX9_feed2 M a b c d e t n z1 M1) (p2 : qctX10_feed3 M1 a b c d e t n z2 M2) : z1 = z2 ∧ RelA M2 := by
  obtain ⟨f1, g1, x⟩ := p1
  obtain ⟨f2, y⟩ := p2
  have e1 : M2 0 4 = M 0 4 := (f2 0 4 (by omega)).trans (f1 0 4 (by omega))
  have e2 : M2 229 41 = M 229 41 := (f2 229 41 (by omega)).trans (f1 229 41 (by omega))
  rcases x with ⟨x1, x2, x3⟩ | ⟨x1, x2, x3⟩ <;> rcases y with ⟨y1, y2, y3⟩ | ⟨y1, y2, y3⟩
  · exact ⟨by omega, ⟨_, _, x3.frame (fun c j q => f2 c j (by omega)), y3⟩, by omega⟩
  · omega
  · omega
  · exact ⟨by omega, ⟨_, _, x3.frame (fun c j q => f2 c j (by omega)), y3⟩, by omega⟩
theorem rel_end {a : Int} (htx : Tx M t n) (hty : Ty M1 t n) (hrc : M 0 4 = M 229 41) (p1 : qctX9_end2 M a z1 M1) (p2 : qctX10_end3 M1 a z2 M2) : z1 = z2 ∧ RelA M2 := by
  obtain ⟨f1, g1, x⟩ := p1
  obtain ⟨f2, y⟩ := p2
  have e1 : M2 0 4 = M 0 4 := (f2 0 4 (by omega)).trans (f1 0 4 (by omega))
  have e2 : M2 229 41 = M 229 41 := (f2 229 41 (by omega)).trans (f1 229 41 (by omega))
  have e3 : M2 7 1 = M1 7 1 := f2 7 1 (by omega)
  have k1 := htx.1
  have k2 := hty.1
  have k3 : ∀ j : Nat, j < n → M2 8 j = t j := fun j hj => by rw [f2 8 j (by omega), f1 8 j (by omega)]; exact htx.2 j hj
  have k4 : ∀ j : Nat, j < n → M2 (229 + 37) j % 256 = t j := fun j hj => by rw [f2 (229 + 37) j (by omega)]; exact hty.2 j hj
  rcases x with ⟨x1, x2, x3, x4⟩ | ⟨x1, x3, x4⟩ <;> rcases y with ⟨y1, y2, y3, y4⟩ | ⟨y1, y3, y4⟩
  · exact ⟨by omega, ⟨t, a.toNat, ⟨by omega, fun j hj => k3 j (by omega)⟩, ⟨by omega, fun j hj => k4 j (by omega)⟩⟩, by omega⟩
  · omega
  · omega
  · exact ⟨by omega, ⟨t, n, ⟨by omega, k3⟩, ⟨by omega, k4⟩⟩, by omega⟩
theorem rel_rule (htx : Tx M t n) (hty : Ty M1 t n) (hrc : M 0 4 = M 229 41) (p1 : qctX9_rule2 M t n z1 M1) (p2 : qctX10_rule3 M1 t n z2 M2) : z1 = z2 ∧ RelA M2 := by
  obtain ⟨f1, g1, x1, x2⟩ := p1
  obtain ⟨f2, y1, y2, y3, y4, y5, y6⟩ := p2
  have e1 : M2 0 4 = M1 0 4 := f2 0 4 (by omega)
  have e2 : M1 229 41 = M 229 41 := f1 229 41 (by omega)
  have e3 : M2 7 1 = M1 7 1 := f2 7 1 (by omega)
  by_cases c : 6 ≤ M 0 4
  · obtain ⟨a1, a2, a3, a4⟩ := x1 c
    obtain ⟨b1, b2, b3⟩ := y5 (by omega)
    have k1 := htx.1
    have k2 := hty.1
    exact ⟨by omega, ⟨t, n, ⟨by omega, fun j hj => by rw [f2 8 j (by omega), a4 j]; exact htx.2 j hj⟩, ⟨by omega, fun j hj => by rw [f2 (229 + 37) j (by omega)]; exact hty.2 j hj⟩⟩, by omega⟩
  · obtain ⟨a1, a2⟩ := x2 (by omega)
    obtain ⟨b1, b2⟩ := y6 (by omega)
    have e4 : M1 229 41 = M 0 4 := by omega
    rw [e4] at b2
    have q := a2.fun b2
    exact ⟨q.1, ⟨t, 0, ⟨by omega, fun j hj => absurd hj (by omega)⟩, ⟨by omega, fun j hj => absurd hj (by omega)⟩⟩, by omega⟩
end REL
/-! what the answers of the last rows rest on, alike on both sides: r a River, s a State, k Books of the class; B the reference's rows -/
def Al (M : zM) (r s k : Nat) (B : zM) : Prop := M r 0 = B (229 + 1) 0 ∧ M r 1 = B (229 + 1) 1 ∧ M r 3 = B (229 + 1) 3 ∧ M s 0 = B (229 + 1) 7 ∧ M s 1 = B (229 + 1) 8 ∧ M s 2 = B (229 + 1) 15 ∧ M s 3 = B (229 + 1) 5 ∧ M k 6 = B (229 + 1) 11 ∧ (0 ≤ M s 1 ∧ M s 1 ≤ 999) ∧ ∀ v : Nat, v < 6 → (v : Int) < B (229 + 1) 1 → M (s + 1) v = B (229 + 6) v
def SmB (B B' : zM) : Prop := (∀ v : Nat, (v = 0 ∨ v = 1 ∨ v = 3 ∨ v = 5 ∨ v = 7 ∨ v = 8 ∨ v = 11 ∨ v = 15) → B' (229 + 1) v = B (229 + 1) v) ∧ ∀ v : Nat, v < 6 → B' (229 + 6) v = B (229 + 6) v
theorem Al.mv {M M' B B' : zM} {r s k r' s' k' : Nat} (h : Al M r s k B) (c : Cb M M' r s k r' s' k') (g : SmB B B') : Al M' r' s' k' B' := by
  obtain ⟨h0, h1, h3, a0, a1, a2, a3, b6, w, v⟩ := h
  obtain ⟨c0, c1, c3, d0, d1, d2, d3, e6, f⟩ := c
  have g0 := g.1 0 (by omega)
  have g1 := g.1 1 (by omega)
  have g3 := g.1 3 (by omega)
  have g5 := g.1 5 (by omega)
  have g7 := g.1 7 (by omega)
  have g8 := g.1 8 (by omega)
  have g11 := g.1 11 (by omega)
  have g15 := g.1 15 (by omega)
  refine ⟨by omega, by omega, by omega, by omega, by omega, by omega, by omega, by omega, by omega, fun j hj hv => ?_⟩
  rw [g1] at hv
  rw [f j hj, g.2 j hj]; exact v j hj hv
theorem Cb.of {M M' : zM} {r s k : Nat} (f : ∀ u v : Nat, ((u = r ∧ (v = 0 ∨ v = 1 ∨ v = 3)) ∨ (u = s ∧ v ≤ 3) ∨ u = s + 1 ∨ (u = k ∧ v = 6)) → M' u v = M u v) : Cb M M' r s k r s k :=
  ⟨f r 0 (by omega), f r 1 (by omega), f r 3 (by omega), f s 0 (by omega), f s 1 (by omega), f s 2 (by omega), f s 3 (by omega), f k 6 (by omega), fun j _ => f (s + 1) j (by omega)⟩
theorem Cb.fr {M M1 M2 : zM} {r s k r' s' k' : Nat} (c : Cb M M1 r s k r' s' k') (f : ∀ u v : Nat, ((u = r' ∧ (v = 0 ∨ v = 1 ∨ v = 3)) ∨ (u = s' ∧ v ≤ 3) ∨ u = s' + 1 ∨ (u = k' ∧ v = 6)) → M2 u v = M1 u v) : Cb M M2 r s k r' s' k' := by
  obtain ⟨c0, c1, c3, d0, d1, d2, d3, e6, g⟩ := c
  exact ⟨(f _ 0 (by omega)).trans c0, (f _ 1 (by omega)).trans c1, (f _ 3 (by omega)).trans c3, (f _ 0 (by omega)).trans d0, (f _ 1 (by omega)).trans d1, (f _ 2 (by omega)).trans d2, (f _ 3 (by omega)).trans d3, (f _ 6 (by omega)).trans e6, fun j hj => (f _ j (by omega)).trans (g j hj)⟩
theorem SmB.of {M M' : zM} (f : ∀ u v : Nat, ((u = 229 + 1 ∧ (v = 0 ∨ v = 1 ∨ v = 3 ∨ v = 5 ∨ v = 7 ∨ v = 8 ∨ v = 11 ∨ v = 15)) ∨ u = 229 + 6) → M' u v = M u v) : SmB M M' :=
  ⟨fun v hv => f (229 + 1) v (Or.inl ⟨rfl, hv⟩), fun v _ => f (229 + 6) v (Or.inr rfl)⟩
theorem zln1 : zln (229 + 1) = 17 := rfl
theorem zln6 : zln (229 + 6) = 6 := rfl
theorem zof6 : zof (229 + 6) = 45 := rfl
theorem Sm.b {M M' : zM} (h : Sm M M') : SmB M M' :=
  ⟨fun v hv => h (229 + 1) v (by omega) (by omega) (by rw [zln1]; omega), fun v hv => h (229 + 6) v (by omega) (by omega) (by rw [zln6]; omega)⟩
theorem SmB.bl {M M' : zM} {k : Nat} (hk : k < 4) (f : ∀ j : Nat, j < 3600 → M' (229 + 56) j = M (229 + 56) j) : SmB (bl M k) (bl M' k) :=
  ⟨fun v hv => f _ (by rw [zof1]; omega), fun v hv => f _ (by rw [zof6]; omega)⟩
abbrev ImB (M : zM) : Prop := ∀ k : Nat, k < 4 → M (229 + 57) k = 1 → Al M (101 + 32 * k + 1) (101 + 32 * k + 9) (101 + 32 * k + 19) (bl M k)
def RelB (M : zM) : Prop := Al M 37 (45 + 1) (45 + 11) M ∧ ImB M
def RelC (M : zM) : Prop := RelA M ∧ RelB M
theorem ImB.kp {M M' : zM} (h : ImB M) (f : ∀ u v : Nat, (101 ≤ u ∧ u < 229) → M' u v = M u v) (low : ∀ j : Nat, j < 3600 → M' (229 + 56) j = M (229 + 56) j) (e57 : ∀ k : Nat, k < 4 → M' (229 + 57) k = M (229 + 57) k) : ImB M' := by
  intro k hk hm
  rw [e57 k hk] at hm
  exact (h k hk hm).mv (Cb.of (fun u v q => f u v (by omega))) (SmB.bl hk low)
theorem RelC.cls {M M' : zM} (h : RelC M) (f : ∀ u v : Nat, ((u = 7 ∧ v = 1) ∨ u = 8 ∨ (u = 0 ∧ v = 4) ∨ u = 37 ∨ (u = 45 + 1 ∧ v ≤ 3) ∨ u = 45 + 1 + 1 ∨ (u = 45 + 11 ∧ v = 6) ∨ 101 ≤ u) → M' u v = M u v) : RelC M' :=
  ⟨h.1.cls (fun u v q => f u v (by omega)), h.2.1.mv (Cb.of (fun u v q => f u v (by omega))) (SmB.of (fun u v q => f u v (by omega))), h.2.2.kp (fun u v q => f u v (by omega)) (fun j _ => f _ j (by omega)) (fun k _ => f _ k (by omega))⟩
theorem RelC.ref {M M' : zM} (h : RelC M) (f : ∀ u v : Nat, (u < 229 ∨ (u = 229 ∧ (v = 37 ∨ v = 41)) ∨ u = 229 + 37) → M' u v = M u v) (s : SmB M M') (low : ∀ j : Nat, j < 3600 → M' (229 + 56) j = M (229 + 56) j) (e57 : ∀ k : Nat, k < 4 → M' (229 + 57) k = M (229 + 57) k) : RelC M' :=
  ⟨h.1.ref f, h.2.1.mv (Cb.of (fun u v q => f u v (by omega))) s, h.2.2.kp (fun u v q => f u v (by omega)) low e57⟩
theorem RelB.both {M M' : zM} (h : RelB M) (f : ∀ u v : Nat, (u = 37 ∨ (u = 45 + 1 ∧ v ≤ 3) ∨ u = 45 + 1 + 1 ∨ (u = 45 + 11 ∧ v = 6) ∨ (101 ≤ u ∧ u < 229) ∨ u = 229 + 1 ∨ u = 229 + 6 ∨ u = 229 + 56 ∨ u = 229 + 57) → M' u v = M u v) : RelB M' :=
  ⟨h.1.mv (Cb.of (fun u v q => f u v (by omega))) (SmB.of (fun u v q => f u v (by omega))), h.2.kp (fun u v q => f u v (by omega)) (fun j _ => f _ j (by omega)) (fun k _ => f _ k (by omega))⟩
theorem RelC.wat {M : zM} (h : RelC M) : 0 ≤ M (45 + 1) 1 ∧ M (45 + 1) 1 ≤ 999 := h.2.1.2.2.2.2.2.2.2.2.1
theorem RelC.wat2 {M : zM} (h : RelC M) : 0 ≤ M (229 + 1) 8 ∧ M (229 + 1) 8 ≤ 999 := by
  have w := h.wat
  have e := h.2.1.2.2.2.2.1
  omega
section RELC
variable {M M1 M2 : zM} {z1 z2 : Int} {t : Nat → Int} {n : Nat}
theorem rel_force {a : Int} (h : RelC M) (p1 : qctX9_force2 M a z1 M1) (p2 : qctX10_force3 M1 a z2 M2) : z1 = z2 ∧ RelC M2 := by
  obtain ⟨f1, -, x⟩ := p1
  obtain ⟨f2, -, -, -, y⟩ := p2
  obtain ⟨⟨⟨t, n, tx, ty⟩, hr⟩, ⟨h0, h1, h3, a0, a1, a2, a3, b6, w, v⟩, im⟩ := h
  have c37_0 : M2 37 0 = M 37 0 := (f2 _ _ (by omega)).trans (f1 _ _ (by omega))
  have c37_1 : M2 37 1 = M 37 1 := (f2 _ _ (by omega)).trans (f1 _ _ (by omega))
  have c37_3 : M2 37 3 = M 37 3 := (f2 _ _ (by omega)).trans (f1 _ _ (by omega))
  have c45_1_0 : M2 (45 + 1) 0 = M (45 + 1) 0 := (f2 _ _ (by omega)).trans (f1 _ _ (by omega))
  have c45_1_1 : M2 (45 + 1) 1 = M (45 + 1) 1 := (f2 _ _ (by omega)).trans (f1 _ _ (by omega))
  have c45_1_2 : M2 (45 + 1) 2 = M1 (45 + 1) 2 := f2 _ _ (by omega)
  have c45_1_3 : M2 (45 + 1) 3 = M (45 + 1) 3 := (f2 _ _ (by omega)).trans (f1 _ _ (by omega))
  have c45_11_6 : M2 (45 + 11) 6 = M (45 + 11) 6 := (f2 _ _ (by omega)).trans (f1 _ _ (by omega))
  have r1_0 : M1 (229 + 1) 0 = M (229 + 1) 0 := f1 _ _ (by omega)
  have r2_0 : M2 (229 + 1) 0 = M1 (229 + 1) 0 := f2 _ _ (by omega)
  have r1_1 : M1 (229 + 1) 1 = M (229 + 1) 1 := f1 _ _ (by omega)
  have r2_1 : M2 (229 + 1) 1 = M1 (229 + 1) 1 := f2 _ _ (by omega)
  have r1_3 : M1 (229 + 1) 3 = M (229 + 1) 3 := f1 _ _ (by omega)
  have r2_3 : M2 (229 + 1) 3 = M1 (229 + 1) 3 := f2 _ _ (by omega)
  have r1_5 : M1 (229 + 1) 5 = M (229 + 1) 5 := f1 _ _ (by omega)
  have r2_5 : M2 (229 + 1) 5 = M1 (229 + 1) 5 := f2 _ _ (by omega)
  have r1_7 : M1 (229 + 1) 7 = M (229 + 1) 7 := f1 _ _ (by omega)
  have r2_7 : M2 (229 + 1) 7 = M1 (229 + 1) 7 := f2 _ _ (by omega)
  have r1_8 : M1 (229 + 1) 8 = M (229 + 1) 8 := f1 _ _ (by omega)
  have r2_8 : M2 (229 + 1) 8 = M1 (229 + 1) 8 := f2 _ _ (by omega)
  have r1_11 : M1 (229 + 1) 11 = M (229 + 1) 11 := f1 _ _ (by omega)
  have r2_11 : M2 (229 + 1) 11 = M1 (229 + 1) 11 := f2 _ _ (by omega)
  have r1_15 : M1 (229 + 1) 15 = M (229 + 1) 15 := f1 _ _ (by omega)
  have r1_r : M1 229 41 = M 229 41 := f1 _ _ (by omega)
  have r2_r : M2 229 41 = M1 229 41 := f2 _ _ (by omega)
  have c0_4 : M2 0 4 = M 0 4 := (f2 _ _ (by omega)).trans (f1 _ _ (by omega))
  refine ⟨by omega, ⟨⟨t, n, tx.frame (fun c j q => (f2 c j (by omega)).trans (f1 c j (by omega))), ty.frame (fun c j q => (f2 c j (by omega)).trans (f1 c j (by omega)))⟩, by omega⟩, ⟨by omega, by omega, by omega, by omega, by omega, by omega, by omega, by omega, by omega, fun j hj hv => ?_⟩, im.kp (fun u v q => (f2 u v (by omega)).trans (f1 u v (by omega))) (fun j _ => (f2 _ j (by omega)).trans (f1 _ j (by omega))) (fun k _ => (f2 _ k (by omega)).trans (f1 _ k (by omega)))⟩
  have q := v j hj (by omega)
  have e1 : M2 (45 + 1 + 1) j = M (45 + 1 + 1) j := (f2 _ _ (by omega)).trans (f1 _ _ (by omega))
  have e2 : M2 (229 + 6) j = M (229 + 6) j := (f2 _ _ (by omega)).trans (f1 _ _ (by omega))
  omega
theorem rel_bind {a b : Int} (h : RelC M) (l6 : M 37 1 ≤ 6) (p1 : qctX9_bind2 M a b z1 M1) (p2 : qctX10_bind3 M1 a b z2 M2) : z1 = z2 ∧ RelC M2 := by
  obtain ⟨f1, -, x, x9⟩ := p1
  obtain ⟨f2, -, -, -, y, y9⟩ := p2
  obtain ⟨⟨⟨t, n, tx, ty⟩, hr⟩, ⟨h0, h1, h3, a0, a1, a2, a3, b6, w, v⟩, im⟩ := h
  have c37_0 : M2 37 0 = M 37 0 := (f2 _ _ (by omega)).trans (f1 _ _ (by omega))
  have c37_1 : M2 37 1 = M 37 1 := (f2 _ _ (by omega)).trans (f1 _ _ (by omega))
  have c37_3 : M2 37 3 = M 37 3 := (f2 _ _ (by omega)).trans (f1 _ _ (by omega))
  have c45_1_0 : M2 (45 + 1) 0 = M (45 + 1) 0 := (f2 _ _ (by omega)).trans (f1 _ _ (by omega))
  have c45_1_1 : M2 (45 + 1) 1 = M (45 + 1) 1 := (f2 _ _ (by omega)).trans (f1 _ _ (by omega))
  have c45_1_2 : M2 (45 + 1) 2 = M (45 + 1) 2 := (f2 _ _ (by omega)).trans (f1 _ _ (by omega))
  have c45_1_3 : M2 (45 + 1) 3 = M (45 + 1) 3 := (f2 _ _ (by omega)).trans (f1 _ _ (by omega))
  have c45_11_6 : M2 (45 + 11) 6 = M (45 + 11) 6 := (f2 _ _ (by omega)).trans (f1 _ _ (by omega))
  have r1_0 : M1 (229 + 1) 0 = M (229 + 1) 0 := f1 _ _ (by omega)
  have r2_0 : M2 (229 + 1) 0 = M1 (229 + 1) 0 := f2 _ _ (by omega)
  have r1_1 : M1 (229 + 1) 1 = M (229 + 1) 1 := f1 _ _ (by omega)
  have r2_1 : M2 (229 + 1) 1 = M1 (229 + 1) 1 := f2 _ _ (by omega)
  have r1_3 : M1 (229 + 1) 3 = M (229 + 1) 3 := f1 _ _ (by omega)
  have r2_3 : M2 (229 + 1) 3 = M1 (229 + 1) 3 := f2 _ _ (by omega)
  have r1_5 : M1 (229 + 1) 5 = M (229 + 1) 5 := f1 _ _ (by omega)
  have r2_5 : M2 (229 + 1) 5 = M1 (229 + 1) 5 := f2 _ _ (by omega)
  have r1_7 : M1 (229 + 1) 7 = M (229 + 1) 7 := f1 _ _ (by omega)
  have r2_7 : M2 (229 + 1) 7 = M1 (229 + 1) 7 := f2 _ _ (by omega)
  have r1_8 : M1 (229 + 1) 8 = M (229 + 1) 8 := f1 _ _ (by omega)
  have r2_8 : M2 (229 + 1) 8 = M1 (229 + 1) 8 := f2 _ _ (by omega)
  have r1_11 : M1 (229 + 1) 11 = M (229 + 1) 11 := f1 _ _ (by omega)
  have r2_11 : M2 (229 + 1) 11 = M1 (229 + 1) 11 := f2 _ _ (by omega)
  have r1_15 : M1 (229 + 1) 15 = M (229 + 1) 15 := f1 _ _ (by omega)
  have r2_15 : M2 (229 + 1) 15 = M1 (229 + 1) 15 := f2 _ _ (by omega)
  have r1_r : M1 229 41 = M 229 41 := f1 _ _ (by omega)
  have r2_r : M2 229 41 = M1 229 41 := f2 _ _ (by omega)
  have c0_4 : M2 0 4 = M 0 4 := (f2 _ _ (by omega)).trans (f1 _ _ (by omega))
  have rz : 0 ≤ a → a < M 37 1 → M (45 + 1 + 1) a.toNat = M (229 + 6) a.toNat := fun q1 q2 => v a.toNat (by have w6 := l6; omega) (by omega)
  have r6 : M1 (229 + 6) a.toNat = M (229 + 6) a.toNat := f1 _ _ (by omega)
  refine ⟨by omega, ⟨⟨t, n, tx.frame (fun c j q => (f2 c j (by omega)).trans (f1 c j (by omega))), ty.frame (fun c j q => (f2 c j (by omega)).trans (f1 c j (by omega)))⟩, by omega⟩, ⟨by omega, by omega, by omega, by omega, by omega, by omega, by omega, by omega, by omega, fun j hj hv => ?_⟩, im.kp (fun u v q => (f2 u v (by omega)).trans (f1 u v (by omega))) (fun j _ => (f2 _ j (by omega)).trans (f1 _ j (by omega))) (fun k _ => (f2 _ k (by omega)).trans (f1 _ k (by omega)))⟩
  have q := v j hj (by omega)
  have e1 : M2 (45 + 1 + 1) j = M1 (45 + 1 + 1) j := f2 _ _ (by omega)
  have e2 : M1 (229 + 6) j = M (229 + 6) j := f1 _ _ (by omega)
  by_cases z : j = a.toNat
  · subst z
    omega
  · have e3 := x9 j z
    have e4 := y9 j z
    omega
theorem rel_law {a b : Int} (h : RelC M) (p1 : qctX9_law2 M a b z1 M1) (p2 : qctX10_law3 M1 a b z2 M2) : z1 = z2 ∧ RelC M2 := by
  obtain ⟨f1, -, x⟩ := p1
  obtain ⟨f2, -, -, -, y⟩ := p2
  obtain ⟨⟨⟨t, n, tx, ty⟩, hr⟩, ⟨h0, h1, h3, a0, a1, a2, a3, b6, w, v⟩, im⟩ := h
  have c37_0 : M2 37 0 = M 37 0 := (f2 _ _ (by omega)).trans (f1 _ _ (by omega))
  have c37_1 : M2 37 1 = M 37 1 := (f2 _ _ (by omega)).trans (f1 _ _ (by omega))
  have c37_3 : M2 37 3 = M 37 3 := (f2 _ _ (by omega)).trans (f1 _ _ (by omega))
  have c45_1_0 : M2 (45 + 1) 0 = M (45 + 1) 0 := (f2 _ _ (by omega)).trans (f1 _ _ (by omega))
  have c45_1_1 : M2 (45 + 1) 1 = M (45 + 1) 1 := (f2 _ _ (by omega)).trans (f1 _ _ (by omega))
  have c45_1_2 : M2 (45 + 1) 2 = M (45 + 1) 2 := (f2 _ _ (by omega)).trans (f1 _ _ (by omega))
  have c45_1_3 : M2 (45 + 1) 3 = M1 (45 + 1) 3 := f2 _ _ (by omega)
  have c45_11_6 : M2 (45 + 11) 6 = M (45 + 11) 6 := (f2 _ _ (by omega)).trans (f1 _ _ (by omega))
  have r1_0 : M1 (229 + 1) 0 = M (229 + 1) 0 := f1 _ _ (by omega)
  have r2_0 : M2 (229 + 1) 0 = M1 (229 + 1) 0 := f2 _ _ (by omega)
  have r1_1 : M1 (229 + 1) 1 = M (229 + 1) 1 := f1 _ _ (by omega)
  have r2_1 : M2 (229 + 1) 1 = M1 (229 + 1) 1 := f2 _ _ (by omega)
  have r1_3 : M1 (229 + 1) 3 = M (229 + 1) 3 := f1 _ _ (by omega)
  have r2_3 : M2 (229 + 1) 3 = M1 (229 + 1) 3 := f2 _ _ (by omega)
  have r1_5 : M1 (229 + 1) 5 = M (229 + 1) 5 := f1 _ _ (by omega)
  have r1_7 : M1 (229 + 1) 7 = M (229 + 1) 7 := f1 _ _ (by omega)
  have r2_7 : M2 (229 + 1) 7 = M1 (229 + 1) 7 := f2 _ _ (by omega)
  have r1_8 : M1 (229 + 1) 8 = M (229 + 1) 8 := f1 _ _ (by omega)
  have r2_8 : M2 (229 + 1) 8 = M1 (229 + 1) 8 := f2 _ _ (by omega)
  have r1_11 : M1 (229 + 1) 11 = M (229 + 1) 11 := f1 _ _ (by omega)
  have r2_11 : M2 (229 + 1) 11 = M1 (229 + 1) 11 := f2 _ _ (by omega)
  have r1_15 : M1 (229 + 1) 15 = M (229 + 1) 15 := f1 _ _ (by omega)
  have r2_15 : M2 (229 + 1) 15 = M1 (229 + 1) 15 := f2 _ _ (by omega)
  have r1_r : M1 229 41 = M 229 41 := f1 _ _ (by omega)
  have r2_r : M2 229 41 = M1 229 41 := f2 _ _ (by omega)
  have c0_4 : M2 0 4 = M 0 4 := (f2 _ _ (by omega)).trans (f1 _ _ (by omega))
  refine ⟨by omega, ⟨⟨t, n, tx.frame (fun c j q => (f2 c j (by omega)).trans (f1 c j (by omega))), ty.frame (fun c j q => (f2 c j (by omega)).trans (f1 c j (by omega)))⟩, by omega⟩, ⟨by omega, by omega, by omega, by omega, by omega, by omega, by omega, by omega, by omega, fun j hj hv => ?_⟩, im.kp (fun u v q => (f2 u v (by omega)).trans (f1 u v (by omega))) (fun j _ => (f2 _ j (by omega)).trans (f1 _ j (by omega))) (fun k _ => (f2 _ k (by omega)).trans (f1 _ k (by omega)))⟩
  have q := v j hj (by omega)
  have e1 : M2 (45 + 1 + 1) j = M (45 + 1 + 1) j := (f2 _ _ (by omega)).trans (f1 _ _ (by omega))
  have e2 : M2 (229 + 6) j = M (229 + 6) j := (f2 _ _ (by omega)).trans (f1 _ _ (by omega))
  omega
theorem rel_flood {a : Int} (h : RelC M) (p1 : qctX9_flood2 M a z1 M1) (p2 : qctX10_flood3 M1 a z2 M2) : z1 = z2 ∧ RelC M2 := by
  obtain ⟨f1, -, x⟩ := p1
  obtain ⟨f2, -, -, -, y⟩ := p2
  obtain ⟨⟨⟨t, n, tx, ty⟩, hr⟩, ⟨h0, h1, h3, a0, a1, a2, a3, b6, w, v⟩, im⟩ := h
  have c37_0 : M2 37 0 = M 37 0 := (f2 _ _ (by omega)).trans (f1 _ _ (by omega))
  have c37_1 : M2 37 1 = M 37 1 := (f2 _ _ (by omega)).trans (f1 _ _ (by omega))
  have c37_3 : M2 37 3 = M 37 3 := (f2 _ _ (by omega)).trans (f1 _ _ (by omega))
  have c45_1_0 : M2 (45 + 1) 0 = M (45 + 1) 0 := (f2 _ _ (by omega)).trans (f1 _ _ (by omega))
  have c45_1_1 : M2 (45 + 1) 1 = M1 (45 + 1) 1 := f2 _ _ (by omega)
  have c45_1_2 : M2 (45 + 1) 2 = M (45 + 1) 2 := (f2 _ _ (by omega)).trans (f1 _ _ (by omega))
  have c45_1_3 : M2 (45 + 1) 3 = M (45 + 1) 3 := (f2 _ _ (by omega)).trans (f1 _ _ (by omega))
  have c45_11_6 : M2 (45 + 11) 6 = M (45 + 11) 6 := (f2 _ _ (by omega)).trans (f1 _ _ (by omega))
  have r1_0 : M1 (229 + 1) 0 = M (229 + 1) 0 := f1 _ _ (by omega)
  have r2_0 : M2 (229 + 1) 0 = M1 (229 + 1) 0 := f2 _ _ (by omega)
  have r1_1 : M1 (229 + 1) 1 = M (229 + 1) 1 := f1 _ _ (by omega)
  have r2_1 : M2 (229 + 1) 1 = M1 (229 + 1) 1 := f2 _ _ (by omega)
  have r1_3 : M1 (229 + 1) 3 = M (229 + 1) 3 := f1 _ _ (by omega)
  have r2_3 : M2 (229 + 1) 3 = M1 (229 + 1) 3 := f2 _ _ (by omega)
  have r1_5 : M1 (229 + 1) 5 = M (229 + 1) 5 := f1 _ _ (by omega)
  have r2_5 : M2 (229 + 1) 5 = M1 (229 + 1) 5 := f2 _ _ (by omega)
  have r1_7 : M1 (229 + 1) 7 = M (229 + 1) 7 := f1 _ _ (by omega)
  have r2_7 : M2 (229 + 1) 7 = M1 (229 + 1) 7 := f2 _ _ (by omega)
  have r1_8 : M1 (229 + 1) 8 = M (229 + 1) 8 := f1 _ _ (by omega)
  have r1_11 : M1 (229 + 1) 11 = M (229 + 1) 11 := f1 _ _ (by omega)
  have r2_11 : M2 (229 + 1) 11 = M1 (229 + 1) 11 := f2 _ _ (by omega)
  have r1_15 : M1 (229 + 1) 15 = M (229 + 1) 15 := f1 _ _ (by omega)
  have r2_15 : M2 (229 + 1) 15 = M1 (229 + 1) 15 := f2 _ _ (by omega)
  have r1_r : M1 229 41 = M 229 41 := f1 _ _ (by omega)
  have r2_r : M2 229 41 = M1 229 41 := f2 _ _ (by omega)
  have c0_4 : M2 0 4 = M 0 4 := (f2 _ _ (by omega)).trans (f1 _ _ (by omega))
  refine ⟨by omega, ⟨⟨t, n, tx.frame (fun c j q => (f2 c j (by omega)).trans (f1 c j (by omega))), ty.frame (fun c j q => (f2 c j (by omega)).trans (f1 c j (by omega)))⟩, by omega⟩, ⟨by omega, by omega, by omega, by omega, by omega, by omega, by omega, by omega, by omega, fun j hj hv => ?_⟩, im.kp (fun u v q => (f2 u v (by omega)).trans (f1 u v (by omega))) (fun j _ => (f2 _ j (by omega)).trans (f1 _ j (by omega))) (fun k _ => (f2 _ k (by omega)).trans (f1 _ k (by omega)))⟩
  have q := v j hj (by omega)
  have e1 : M2 (45 + 1 + 1) j = M (45 + 1 + 1) j := (f2 _ _ (by omega)).trans (f1 _ _ (by omega))
  have e2 : M2 (229 + 6) j = M (229 + 6) j := (f2 _ _ (by omega)).trans (f1 _ _ (by omega))
  omega
theorem rel_days {a : Int} (h : RelC M) (p1 : qctX9_days2 M a z1 M1) (p2 : qctX10_days3 M1 a z2 M2) : z1 = z2 ∧ RelC M2 := by
  obtain ⟨f1, -, x⟩ := p1
  obtain ⟨f2, -, -, -, -, y⟩ := p2
  obtain ⟨⟨⟨t, n, tx, ty⟩, hr⟩, ⟨h0, h1, h3, a0, a1, a2, a3, b6, w, v⟩, im⟩ := h
  have c37_0 : M2 37 0 = M 37 0 := (f2 _ _ (by omega)).trans (f1 _ _ (by omega))
  have c37_1 : M2 37 1 = M 37 1 := (f2 _ _ (by omega)).trans (f1 _ _ (by omega))
  have c37_3 : M2 37 3 = M 37 3 := (f2 _ _ (by omega)).trans (f1 _ _ (by omega))
  have c45_1_0 : M2 (45 + 1) 0 = M1 (45 + 1) 0 := f2 _ _ (by omega)
  have c45_1_1 : M2 (45 + 1) 1 = M (45 + 1) 1 := (f2 _ _ (by omega)).trans (f1 _ _ (by omega))
  have c45_1_2 : M2 (45 + 1) 2 = M (45 + 1) 2 := (f2 _ _ (by omega)).trans (f1 _ _ (by omega))
  have c45_1_3 : M2 (45 + 1) 3 = M (45 + 1) 3 := (f2 _ _ (by omega)).trans (f1 _ _ (by omega))
  have c45_11_6 : M2 (45 + 11) 6 = M (45 + 11) 6 := (f2 _ _ (by omega)).trans (f1 _ _ (by omega))
  have r1_0 : M1 (229 + 1) 0 = M (229 + 1) 0 := f1 _ _ (by omega)
  have r2_0 : M2 (229 + 1) 0 = M1 (229 + 1) 0 := f2 _ _ (by omega)
  have r1_1 : M1 (229 + 1) 1 = M (229 + 1) 1 := f1 _ _ (by omega)
  have r2_1 : M2 (229 + 1) 1 = M1 (229 + 1) 1 := f2 _ _ (by omega)
  have r1_3 : M1 (229 + 1) 3 = M (229 + 1) 3 := f1 _ _ (by omega)
  have r2_3 : M2 (229 + 1) 3 = M1 (229 + 1) 3 := f2 _ _ (by omega)
  have r1_5 : M1 (229 + 1) 5 = M (229 + 1) 5 := f1 _ _ (by omega)
  have r2_5 : M2 (229 + 1) 5 = M1 (229 + 1) 5 := f2 _ _ (by omega)
  have r1_7 : M1 (229 + 1) 7 = M (229 + 1) 7 := f1 _ _ (by omega)
  have r1_8 : M1 (229 + 1) 8 = M (229 + 1) 8 := f1 _ _ (by omega)
  have r2_8 : M2 (229 + 1) 8 = M1 (229 + 1) 8 := f2 _ _ (by omega)
  have r1_11 : M1 (229 + 1) 11 = M (229 + 1) 11 := f1 _ _ (by omega)
  have r2_11 : M2 (229 + 1) 11 = M1 (229 + 1) 11 := f2 _ _ (by omega)
  have r1_15 : M1 (229 + 1) 15 = M (229 + 1) 15 := f1 _ _ (by omega)
  have r2_15 : M2 (229 + 1) 15 = M1 (229 + 1) 15 := f2 _ _ (by omega)
  have r1_r : M1 229 41 = M 229 41 := f1 _ _ (by omega)
  have r2_r : M2 229 41 = M1 229 41 := f2 _ _ (by omega)
  have c0_4 : M2 0 4 = M 0 4 := (f2 _ _ (by omega)).trans (f1 _ _ (by omega))
  refine ⟨by omega, ⟨⟨t, n, tx.frame (fun c j q => (f2 c j (by omega)).trans (f1 c j (by omega))), ty.frame (fun c j q => (f2 c j (by omega)).trans (f1 c j (by omega)))⟩, by omega⟩, ⟨by omega, by omega, by omega, by omega, by omega, by omega, by omega, by omega, by omega, fun j hj hv => ?_⟩, im.kp (fun u v q => (f2 u v (by omega)).trans (f1 u v (by omega))) (fun j _ => (f2 _ j (by omega)).trans (f1 _ j (by omega))) (fun k _ => (f2 _ k (by omega)).trans (f1 _ k (by omega)))⟩
  have q := v j hj (by omega)
  have e1 : M2 (45 + 1 + 1) j = M (45 + 1 + 1) j := (f2 _ _ (by omega)).trans (f1 _ _ (by omega))
  have e2 : M2 (229 + 6) j = M (229 + 6) j := (f2 _ _ (by omega)).trans (f1 _ _ (by omega))
  omega
theorem rel_sight {a b c : Int} (h : RelC M) (p1 : qctX9_sight2 M a b c z1 M1) (p2 : qctX10_sight3 M1 a b c z2 M2) : z1 = z2 ∧ RelC M2 := by
  obtain ⟨f1, -, x⟩ := p1
  obtain ⟨f2, y⟩ := p2
  obtain ⟨⟨⟨t, n, tx, ty⟩, hr⟩, ⟨h0, h1, h3, a0, a1, a2, a3, b6, w, v⟩, im⟩ := h
  have c37_0 : M2 37 0 = M 37 0 := (f2 _ _ (by omega)).trans (f1 _ _ (by omega))
  have c37_1 : M2 37 1 = M 37 1 := (f2 _ _ (by omega)).trans (f1 _ _ (by omega))
  have c37_3 : M2 37 3 = M 37 3 := (f2 _ _ (by omega)).trans (f1 _ _ (by omega))
  have c45_1_0 : M2 (45 + 1) 0 = M (45 + 1) 0 := (f2 _ _ (by omega)).trans (f1 _ _ (by omega))
  have c45_1_1 : M2 (45 + 1) 1 = M (45 + 1) 1 := (f2 _ _ (by omega)).trans (f1 _ _ (by omega))
  have c45_1_2 : M2 (45 + 1) 2 = M (45 + 1) 2 := (f2 _ _ (by omega)).trans (f1 _ _ (by omega))
  have c45_1_3 : M2 (45 + 1) 3 = M (45 + 1) 3 := (f2 _ _ (by omega)).trans (f1 _ _ (by omega))
  have c45_11_6 : M2 (45 + 11) 6 = M1 (45 + 11) 6 := f2 _ _ (by omega)
  have r1_0 : M1 (229 + 1) 0 = M (229 + 1) 0 := f1 _ _ (by omega)
  have r2_0 : M2 (229 + 1) 0 = M1 (229 + 1) 0 := f2 _ _ (by omega)
  have r1_1 : M1 (229 + 1) 1 = M (229 + 1) 1 := f1 _ _ (by omega)
  have r2_1 : M2 (229 + 1) 1 = M1 (229 + 1) 1 := f2 _ _ (by omega)
  have r1_3 : M1 (229 + 1) 3 = M (229 + 1) 3 := f1 _ _ (by omega)
  have r2_3 : M2 (229 + 1) 3 = M1 (229 + 1) 3 := f2 _ _ (by omega)
  have r1_5 : M1 (229 + 1) 5 = M (229 + 1) 5 := f1 _ _ (by omega)
  have r2_5 : M2 (229 + 1) 5 = M1 (229 + 1) 5 := f2 _ _ (by omega)
  have r1_7 : M1 (229 + 1) 7 = M (229 + 1) 7 := f1 _ _ (by omega)
  have r2_7 : M2 (229 + 1) 7 = M1 (229 + 1) 7 := f2 _ _ (by omega)
  have r1_8 : M1 (229 + 1) 8 = M (229 + 1) 8 := f1 _ _ (by omega)
  have r2_8 : M2 (229 + 1) 8 = M1 (229 + 1) 8 := f2 _ _ (by omega)
  have r1_11 : M1 (229 + 1) 11 = M (229 + 1) 11 := f1 _ _ (by omega)
  have r1_15 : M1 (229 + 1) 15 = M (229 + 1) 15 := f1 _ _ (by omega)
  have r2_15 : M2 (229 + 1) 15 = M1 (229 + 1) 15 := f2 _ _ (by omega)
  have r1_r : M1 229 41 = M 229 41 := f1 _ _ (by omega)
  have r2_r : M2 229 41 = M1 229 41 := f2 _ _ (by omega)
  have c0_4 : M2 0 4 = M 0 4 := (f2 _ _ (by omega)).trans (f1 _ _ (by omega))
  refine ⟨by omega, ⟨⟨t, n, tx.frame (fun c j q => (f2 c j (by omega)).trans (f1 c j (by omega))), ty.frame (fun c j q => (f2 c j (by omega)).trans (f1 c j (by omega)))⟩, by omega⟩, ⟨by omega, by omega, by omega, by omega, by omega, by omega, by omega, by omega, by omega, fun j hj hv => ?_⟩, im.kp (fun u v q => (f2 u v (by omega)).trans (f1 u v (by omega))) (fun j _ => (f2 _ j (by omega)).trans (f1 _ j (by omega))) (fun k _ => (f2 _ k (by omega)).trans (f1 _ k (by omega)))⟩
  have q := v j hj (by omega)
  have e1 : M2 (45 + 1 + 1) j = M (45 + 1 + 1) j := (f2 _ _ (by omega)).trans (f1 _ _ (by omega))
  have e2 : M2 (229 + 6) j = M (229 + 6) j := (f2 _ _ (by omega)).trans (f1 _ _ (by omega))
  omega
theorem rel_image {k : Int} (h : RelC M) (p1 : qctX9_image2 M k z1 M1) (p2 : qctX10_image3 M1 k z2 M2) : z1 = z2 ∧ RelC M2 := by
  obtain ⟨f1, -, x1, x2, x3, x4⟩ := p1
  obtain ⟨f2, y1, y2, y3, y4⟩ := p2
  have d1 : M1 (229 + 1) 7 = M (229 + 1) 7 := f1 _ _ (by omega)
  have d2 := h.2.1.2.2.2.1
  refine ⟨by omega, ?_⟩
  by_cases hk : 0 ≤ k ∧ k < 4
  · obtain ⟨-, -, -, e1⟩ := x1 (101 + 32 * k.toNat) (by omega) hk.1 hk.2
    have c4 := x4 (101 + 32 * k.toNat) (by omega) hk.1 hk.2
    obtain ⟨m57, tk, lo⟩ := y1 hk.1 hk.2
    refine ⟨(h.1.cls (fun u v q => f1 u v (by omega))).ref (fun u v q => f2 u v (by omega)), h.2.1.mv (Cb.of (fun u v q => (f2 u v (by omega)).trans (f1 u v (by omega)))) (SmB.of (fun u v q => (f2 u v (by omega)).trans (f1 u v (by omega)))), fun j hj hm => ?_⟩
    by_cases z : j = k.toNat
    · subst z
      refine h.2.1.mv (c4.fr (fun u v q => f2 u v (by omega))) ⟨fun v hv => ?_, fun v hv => ?_⟩
      · exact (tk (229 + 1) v (by omega) (by omega) (by rw [zln1]; omega)).trans (f1 _ _ (by omega))
      · exact (tk (229 + 6) v (by omega) (by omega) (by rw [zln6]; omega)).trans (f1 _ _ (by omega))
    · rw [y3 j z, f1 _ _ (by omega)] at hm
      refine (h.2.2 j hj hm).mv (Cb.of (fun u v q => (f2 u v (by omega)).trans (e1 u v (by omega)))) ⟨fun v hv => ?_, fun v hv => ?_⟩
      · exact (lo _ (by rw [zof1]; omega)).trans (f1 _ _ (by omega))
      · exact (lo _ (by rw [zof6]; omega)).trans (f1 _ _ (by omega))
  · have e1 : M = M1 := x2 (by omega)
    have e2 : M1 = M2 := y2 (by omega)
    subst e1; subst e2; exact h
theorem rel_back {k : Int} (hI : zIv M) (hi : Inv M) (h : RelC M) (p1 : qctX9_back3 M k z1 M1) (p2 : qctX10_back3 M1 k z2 M2) : z1 = z2 ∧ RelC M2 := by
  obtain ⟨f1, -, x1, x2, x3, x4, x5, x6⟩ := p1
  obtain ⟨f2, y1, y2, y3, y4⟩ := p2
  by_cases hk : 0 ≤ k ∧ k < 4
  · have mk := hi.mk k.toNat (by omega)
    have c57 : M1 (229 + 57) k.toNat = M (229 + 57) k.toNat := f1 _ _ (by omega)
    have i57 : (0 : Int) ≤ M (229 + 57) k.toNat ∧ M (229 + 57) k.toNat ≤ 1 := hI 286 k.toNat
    by_cases hm : M (229 + 57) k.toNat = 1
    · obtain ⟨q1, cb⟩ := x5 (101 + 32 * k.toNat) (by omega) hk.1 hk.2 (by omega)
      have b2 := y1 hk.1 hk.2 (by omega)
      have q2 := y3 hk.1 hk.2 (by omega)
      have al : Al M2 37 (45 + 1) (45 + 11) M2 := (h.2.2 k.toNat (by omega) hm).mv (cb.fr (fun u v q => f2 u v (by omega))) ⟨fun v hv => (b2 (229 + 1) v (by omega) (by omega) (by rw [zln1]; omega)).trans (f1 _ _ (by omega)), fun v hv => (b2 (229 + 6) v (by omega) (by omega) (by rw [zln6]; omega)).trans (f1 _ _ (by omega))⟩
      have e7 := al.2.2.2.1
      have e8 : M2 (45 + 1) 0 = M1 (45 + 1) 0 := f2 _ _ (by omega)
      exact ⟨by omega, (h.1.cls (fun u v q => f1 u v (by omega))).ref (fun u v q => f2 u v (by omega)), al, h.2.2.kp (fun u v q => (f2 u v (by omega)).trans (f1 u v (by omega))) (fun j _ => (f2 _ j (by omega)).trans (f1 _ j (by omega))) (fun k _ => (f2 _ k (by omega)).trans (f1 _ k (by omega)))⟩
    · have e1 : M = M1 := x3 (101 + 32 * k.toNat) (by omega) hk.1 hk.2 (by omega)
      have q1 := x6 (101 + 32 * k.toNat) (by omega) hk.1 hk.2 (by omega)
      have q2 := y4 (by omega)
      have e2 : M1 = M2 := y2 (by omega)
      subst e1; subst e2; exact ⟨by omega, h⟩
  · have e1 : M = M1 := x2 (by omega)
    have q1 := x4 (by omega)
    have q2 := y4 (by omega)
    have e2 : M1 = M2 := y2 (by omega)
    subst e1; subst e2; exact ⟨by omega, h⟩
theorem relc_feed {a b c d e : Int} (h : RelC M) (htx : Tx M t n) (hty : Ty M1 t n) (p1 : qctX9_feed2 M a b c d e t n z1 M1) (p2 : qctX10_feed3 M1 a b c d e t n z2 M2) : z1 = z2 ∧ RelC M2 := by
  have q := rel_feed htx hty h.1.2 p1 p2
  exact ⟨q.1, q.2, h.2.both (fun u v c => (p2.1 u v (by omega)).trans (p1.1 u v (by omega)))⟩
theorem relc_end {a : Int} (h : RelC M) (htx : Tx M t n) (hty : Ty M1 t n) (p1 : qctX9_end2 M a z1 M1) (p2 : qctX10_end3 M1 a z2 M2) : z1 = z2 ∧ RelC M2 := by
  have q := rel_end htx hty h.1.2 p1 p2
  exact ⟨q.1, q.2, h.2.both (fun u v c => (p2.1 u v (by omega)).trans (p1.1 u v (by omega)))⟩
theorem relc_rule (h : RelC M) (htx : Tx M t n) (hty : Ty M1 t n) (p1 : qctX9_rule2 M t n z1 M1) (p2 : qctX10_rule3 M1 t n z2 M2) : z1 = z2 ∧ RelC M2 := by
  have q := rel_rule htx hty h.1.2 p1 p2
  exact ⟨q.1, q.2, h.2.both (fun u v c => (p2.1 u v (by omega)).trans (p1.1 u v (by omega)))⟩
theorem ok_inj {a a' : Nat} {b v w l x b' v' w' l' x' : Int} (h : (Except.ok (a, b, v, w, l, x) : Pr9) = .ok (a', b', v', w', l', x')) : b = b' ∧ v = v' ∧ l = l' := by
  cases h; exact ⟨rfl, rfl, rfl⟩
theorem relc_river (h : RelC M) (p1 : qctX9_river3 M t n z1 M1) (p2 : qctX10_river3 M1 t n z2 M2) : z1 = z2 ∧ RelC M2 := by
  obtain ⟨f1, -, x1, x⟩ := p1
  obtain ⟨f2, -, -, -, -, y1, y⟩ := p2
  have e1 : M2 0 4 = M 0 4 := (f2 0 4 (by omega)).trans (f1 0 4 (by omega))
  have e2 : M2 229 41 = M 229 41 := (f2 229 41 (by omega)).trans (f1 229 41 (by omega))
  have e3 : M2 7 1 = M1 7 1 := f2 7 1 (by omega)
  have hr := h.1.2
  have ra : RelA M2 := ⟨⟨t, 0, ⟨by omega, fun j hj => absurd hj (by omega)⟩, ⟨by omega, fun j hj => absurd hj (by omega)⟩⟩, by omega⟩
  have im : ImB M2 := h.2.2.kp (fun u v q => (f2 u v (by omega)).trans (f1 u v (by omega))) (fun j _ => (f2 _ j (by omega)).trans (f1 _ j (by omega))) (fun k _ => (f2 _ k (by omega)).trans (f1 _ k (by omega)))
  rcases x with ⟨fa, xe, xz, xf⟩ | ⟨⟨a, w, o, xe⟩, xz, u0, u1, u2, u3, u6, uv⟩ <;> rcases y with ⟨fb, ye, yz, yf⟩ | ⟨⟨a', w', o', ye⟩, yz, v7, v8, v15, v5, v11, vv⟩ <;> rw [xe] at ye
  · cases ye
    exact ⟨by omega, ra, h.2.1.mv (Cb.of (fun u v q => (f2 u v (by omega)).trans (xf u v (by omega)))) (SmB.of (fun u v q => (yf u v (by omega)).trans (f1 u v (by omega)))), im⟩
  · cases ye
  · cases ye
  · obtain ⟨b0, b1, b3⟩ := ok_inj ye
    have g0 : M2 37 0 = M1 37 0 := f2 _ _ (by omega)
    have g1 : M2 37 1 = M1 37 1 := f2 _ _ (by omega)
    have g3 : M2 37 3 = M1 37 3 := f2 _ _ (by omega)
    have k0 : M2 (45 + 1) 0 = M1 (45 + 1) 0 := f2 _ _ (by omega)
    have k1 : M2 (45 + 1) 1 = M1 (45 + 1) 1 := f2 _ _ (by omega)
    have k2 : M2 (45 + 1) 2 = M1 (45 + 1) 2 := f2 _ _ (by omega)
    have k3 : M2 (45 + 1) 3 = M1 (45 + 1) 3 := f2 _ _ (by omega)
    have k6 : M2 (45 + 11) 6 = M1 (45 + 11) 6 := f2 _ _ (by omega)
    refine ⟨by omega, ra, ⟨by omega, by omega, by omega, by omega, by omega, by omega, by omega, by omega, by omega, fun j hj hv => ?_⟩, im⟩
    have kv : M2 (45 + 1 + 1) j = M1 (45 + 1 + 1) j := f2 _ _ (by omega)
    rw [kv, uv j hj, vv j hj]
end RELC
