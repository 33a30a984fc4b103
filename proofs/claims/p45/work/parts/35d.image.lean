/-! images of the reference: the 28 rows in one -/
def zOf : List Nat := [0, 17, 26, 35, 39, 45, 51, 57, 93, 105, 117, 129, 141, 153, 165, 177, 189, 201, 273, 293, 313, 333, 353, 373, 385, 397, 409, 421]
def zof (c : Nat) : Nat := zOf.getD (c - 230) 0
abbrev bl (M : zM) (k : Nat) : zM := fun c j => M (229 + 56) (900 * k + zof c + j)
def Sm (M M' : zM) : Prop := ∀ c j : Nat, 230 ≤ c → c ≤ 257 → j < zln c → M' c j = M c j
theorem zof_le {c : Nat} (h1 : 230 ≤ c) (h2 : c ≤ 257) : zof c + zln c ≤ 781 := by
  have h : ∀ i : Fin 28, zof (230 + i.1) + zln (230 + i.1) ≤ 781 := by decide
  have q := h ⟨c - 230, by omega⟩
  rwa [show 230 + (c - 230) = c by omega] at q
theorem Gm.same {M M' : zM} (h : Gm M) (l1 : M (229 + 1) 1 ≤ 6) (l3 : M (229 + 1) 3 ≤ 12) (f : Sm M M') : Gm M' := by
  obtain ⟨h1, h2, h3, h4, h5, h6⟩ := h
  have e1 : M' (229 + 1) 1 = M (229 + 1) 1 := f (229 + 1) 1 (by omega) (by omega) (by decide)
  have e3 : M' (229 + 1) 3 = M (229 + 1) 3 := f (229 + 1) 3 (by omega) (by omega) (by decide)
  have n5 : zln (229 + 5) = 6 := rfl
  have n9 : zln (229 + 9) = 12 := rfl
  have n12 : zln (229 + 12) = 12 := rfl
  have n17 : zln (229 + 17) = 12 := rfl
  have n18 : zln (229 + 18) = 72 := rfl
  refine ⟨fun v hv => ?_, fun l hl => ?_, fun l hl => ?_, fun q hq => ?_, fun k hk => ?_, ?_⟩
  · rw [e1] at hv; rw [f (229 + 5) v (by omega) (by omega) (by omega)]; exact h1 v hv
  · rw [e3] at hl; rw [f (229 + 9) l (by omega) (by omega) (by omega)]; exact h2 l hl
  · rw [e3] at hl; rw [f (229 + 12) l (by omega) (by omega) (by omega), e1]; exact h3 l hl
  · rw [e3] at hq; rw [f (229 + 18) q (by omega) (by omega) (by omega)]; exact h4 q hq
  · rw [e3] at hk; rw [f (229 + 17) k (by omega) (by omega) (by omega), e3]; exact h5 k hk
  · rw [e1, e3]; exact h6
theorem On.same {M M' : zM} (h : On M) (l3 : M (229 + 1) 3 ≤ 12) (f : Sm M M') : On M' := by
  have e3 : M' (229 + 1) 3 = M (229 + 1) 3 := f (229 + 1) 3 (by omega) (by omega) (by decide)
  have n17 : zln (229 + 17) = 12 := rfl
  intro l hl
  rw [e3] at hl
  obtain ⟨k, q1, q2⟩ := h l hl
  exact ⟨k, by rw [e3]; exact q1, by rw [f (229 + 17) k (by omega) (by omega) (by omega)]; exact q2⟩
def Lw (N : zM) (rs : Int) : Prop := (N (229 + 1) 5 = 3 → 0 ≤ N (229 + 1) 6) ∧ N (229 + 1) 6 < rs ∧ N (229 + 1) 15 < rs ∧ ∀ v : Nat, (v : Int) < N (229 + 1) 1 → N (229 + 6) v < rs
theorem Rl.lw {M : zM} (h : Rl M) : Lw M (M 229 41) := ⟨h.1, h.2.1, h.2.2.1, h.2.2.2.1⟩
theorem Lw.same {N N' : zM} {rs : Int} (h : Lw N rs) (l1 : N (229 + 1) 1 ≤ 6) (f : Sm N N') : Lw N' rs := by
  obtain ⟨h1, h2, h3, h4⟩ := h
  have e1 : N' (229 + 1) 1 = N (229 + 1) 1 := f (229 + 1) 1 (by omega) (by omega) (by decide)
  have e5 : N' (229 + 1) 5 = N (229 + 1) 5 := f (229 + 1) 5 (by omega) (by omega) (by decide)
  have e6 : N' (229 + 1) 6 = N (229 + 1) 6 := f (229 + 1) 6 (by omega) (by omega) (by decide)
  have e15 : N' (229 + 1) 15 = N (229 + 1) 15 := f (229 + 1) 15 (by omega) (by omega) (by decide)
  have n6 : zln (229 + 6) = 6 := rfl
  refine ⟨by rw [e5, e6]; exact h1, by rw [e6]; exact h2, by rw [e15]; exact h3, fun v hv => ?_⟩
  rw [e1] at hv; rw [f (229 + 6) v (by omega) (by omega) (by omega)]; exact h4 v hv
theorem Lw.mono {N : zM} {rs rs' : Int} (h : Lw N rs) (hl : rs ≤ rs') : Lw N rs' := ⟨h.1, Int.lt_of_lt_of_le h.2.1 hl, Int.lt_of_lt_of_le h.2.2.1 hl, fun v hv => Int.lt_of_lt_of_le (h.2.2.2 v hv) hl⟩
theorem Rl.of {M M' : zM} (h : Rl M) (g : Lw M' (M' 229 41)) (f : ∀ c j : Nat, ((c = 229 ∧ j = 41) ∨ (229 + 38 ≤ c ∧ c ≤ 229 + 44)) → M' c j = M c j) : Rl M' := by
  obtain ⟨g1, g2, g3, g4⟩ := g
  refine ⟨g1, g2, g3, g4, fun r hr => ?_⟩
  rw [f 229 41 (by omega)] at hr
  obtain ⟨q1, q2⟩ := h.2.2.2.2 r hr
  rw [f (229 + 40) r (by omega)]
  refine ⟨q1, fun n hn => ?_⟩
  obtain ⟨c1, c2⟩ := q2 n hn
  unfold CO
  rw [f (229 + 42) _ (by omega), f (229 + 43) _ (by omega), f (229 + 44) _ (by omega)]
  exact ⟨c1.same (fun i _ _ => f _ _ (by omega)) (fun i _ _ => f _ _ (by omega)), c2.same (fun i _ _ => f _ _ (by omega)) (fun i _ _ => f _ _ (by omega))⟩
def BlR (M : zM) (k : Nat) : Prop := ∀ c j : Nat, 230 ≤ c → c ≤ 257 → j < zln c → (zlo c j ≤ M (229 + 56) (900 * k + zof c + j) ∧ M (229 + 56) (900 * k + zof c + j) ≤ zhi c j)
def BlOk (M : zM) (k : Nat) : Prop := BlR M k ∧ Gm (bl M k) ∧ On (bl M k) ∧ Lw (bl M k) (M 229 41) ∧ bl M k (229 + 1) 7 ≤ 9999
theorem bl_same {M M' : zM} {k : Nat} (f : ∀ j : Nat, 900 * k ≤ j → j < 900 * k + 900 → M' (229 + 56) j = M (229 + 56) j) : Sm (bl M k) (bl M' k) := by
  intro c j h1 h2 h3
  have q := zof_le h1 h2
  exact f _ (by omega) (by omega)
theorem BlOk.l1 {M : zM} {k : Nat} (h : BlOk M k) : bl M k (229 + 1) 1 ≤ 6 := (h.1 (229 + 1) 1 (by omega) (by omega) (by decide)).2
theorem BlOk.l3 {M : zM} {k : Nat} (h : BlOk M k) : bl M k (229 + 1) 3 ≤ 12 := (h.1 (229 + 1) 3 (by omega) (by omega) (by decide)).2
theorem BlOk.frame {M M' : zM} {k : Nat} (h : BlOk M k) (f : ∀ c j : Nat, ((c = 229 ∧ j = 41) ∨ (c = 229 + 56 ∧ 900 * k ≤ j ∧ j < 900 * k + 900)) → M' c j = M c j) : BlOk M' k := by
  have s := bl_same (M := M) (M' := M') (k := k) (fun j h1 h2 => f _ _ (by omega))
  refine ⟨fun c j h1 h2 h3 => ?_, h.2.1.same h.l1 h.l3 s, h.2.2.1.same h.l3 s, ?_, by rw [s (229 + 1) 7 (by omega) (by omega) (by decide)]; exact h.2.2.2.2⟩
  · have q := s c j h1 h2 h3
    have q2 : M' (229 + 56) (900 * k + zof c + j) = M (229 + 56) (900 * k + zof c + j) := q
    rw [q2]; exact h.1 c j h1 h2 h3
  · rw [f 229 41 (by omega)]; exact h.2.2.2.1.same h.l1 s
theorem BlOk.take {M M' : zM} {k : Nat} (hI : ∀ c j : Nat, zlo c j ≤ M c j ∧ M c j ≤ zhi c j) (g : Gm M) (o : On M) (r : Rl M) (hd : M (229 + 1) 7 ≤ 9999) (e : M' 229 41 = M 229 41) (f : ∀ c j : Nat, 230 ≤ c → c ≤ 257 → j < zln c → M' (229 + 56) (900 * k + zof c + j) = M c j) : BlOk M' k := by
  have s : Sm M (bl M' k) := f
  refine ⟨fun c j h1 h2 h3 => ?_, g.same (hI 230 1).2 (hI 230 3).2 s, o.same (hI 230 3).2 s, ?_, by rw [s (229 + 1) 7 (by omega) (by omega) (by decide)]; exact hd⟩
  · rw [f c j h1 h2 h3]; exact hI c j
  · rw [e]; exact r.lw.same (hI 230 1).2 s
theorem BlOk.gm {M M' : zM} {k : Nat} (h : BlOk M k) (f : ∀ c j : Nat, 230 ≤ c → c ≤ 257 → j < zln c → M' c j = M (229 + 56) (900 * k + zof c + j)) : Gm M' := h.2.1.same h.l1 h.l3 f
theorem BlOk.on {M M' : zM} {k : Nat} (h : BlOk M k) (f : ∀ c j : Nat, 230 ≤ c → c ≤ 257 → j < zln c → M' c j = M (229 + 56) (900 * k + zof c + j)) : On M' := h.2.2.1.same h.l3 f
theorem BlOk.rl {M M' : zM} {k : Nat} (h : BlOk M k) (r : Rl M) (f : ∀ c j : Nat, 230 ≤ c → c ≤ 257 → j < zln c → M' c j = M (229 + 56) (900 * k + zof c + j)) (fr : ∀ c j : Nat, ((c = 229 ∧ j = 41) ∨ (229 + 38 ≤ c ∧ c ≤ 229 + 44)) → M' c j = M c j) : Rl M' :=
  r.of (by rw [fr 229 41 (by omega)]; exact h.2.2.2.1.same h.l1 f) fr
/-- images that were made are well -/
def ImR (M : zM) : Prop := ∀ k : Nat, k < 4 → M (229 + 57) k = 1 → BlOk M k
theorem ImR.frame {M M' : zM} (h : ImR M) (f : ∀ c j : Nat, ((c = 229 ∧ j = 41) ∨ (c = 229 + 56 ∧ j < 3600) ∨ c = 229 + 57) → M' c j = M c j) : ImR M' := by
  intro k hk hm
  rw [f (229 + 57) k (by omega)] at hm
  exact (h k hk hm).frame (fun c j hcj => f c j (by omega))
/-- as ahead goes -/
def Hx (M : zM) (l was at_ k : Int) : Prop := (was < at_ → Hl M l at_) ∧ (at_ ≤ was → Hl M l k)
theorem Hx.of {M : zM} {l was at_ k : Int} (h : Hl M l k) (h1 : at_ ≤ k) (h2 : k ≤ at_ ∨ k = was) (h3 : was ≤ k) : Hx M l was at_ was :=
  ⟨fun q => by rw [show at_ = k by omega]; exact h, fun q => by rw [show was = k by omega]; exact h⟩
theorem Hx.fin {M : zM} {l was at_ k : Int} (h : Hx M l was at_ k) (h1 : k ≤ at_) (h2 : at_ ≤ k ∨ k = was) (h3 : k ≤ was) : Hl M l at_ := by
  by_cases q : was < at_
  · exact h.1 q
  · rw [show at_ = k by omega]; exact h.2 (by omega)
theorem Hx.go {M M' : zM} {l was at_ k k' : Int} (h : Hx M l was at_ k) (h1 : at_ < k) (h2 : k ≤ was) (h0 : 0 ≤ at_) (hk : k' = k - 1) (hl : k < M (229 + 1) 3) (e : M' (229 + 17) k.toNat = M (229 + 17) k'.toNat) (f : ∀ c j : Nat, (c ≠ 229 + 17 ∨ j ≠ k.toNat) → M' c j = M c j) : Hx M' l was at_ k' :=
  ⟨fun q => absurd q (by omega), fun _ => Hl.go (h.2 (by omega)) (by omega) (by omega) hl (by omega) e f⟩
theorem BlOk.dy {M M' : zM} {k : Nat} (h : BlOk M k) (f : ∀ c j : Nat, 230 ≤ c → c ≤ 257 → j < zln c → M' c j = M (229 + 56) (900 * k + zof c + j)) : M' (229 + 1) 7 ≤ 9999 := by
  rw [f (229 + 1) 7 (by omega) (by omega) (by decide)]; exact h.2.2.2.2
