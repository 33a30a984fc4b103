/-! RULES as the reference holds them: entries in a row that a stack answers -/
def hgt (f : Nat → Int) (a : Nat) : Nat → Int
  | 0 => 0
  | n + 1 => hgt f a n + (if f (a + n) ≤ 1 then 1 else if f (a + n) = 9 then 0 else -1)
def Rn (f g : Nat → Int) (a b : Nat) (d : Int) : Prop :=
  a ≤ b ∧ hgt f a (b - a) = d ∧ ∀ n : Nat, n < b - a → (0 ≤ f (a + n) ∧ (f (a + n) = 1 → (0 ≤ g (a + n) ∧ g (a + n) ≤ 12)) ∧ (f (a + n) = 9 → 1 ≤ hgt f a n) ∧ (2 ≤ f (a + n) → f (a + n) ≠ 9 → 2 ≤ hgt f a n))
theorem hgt_up {f : Nat → Int} {a n : Nat} (h : f (a + n) ≤ 1) : hgt f a (n + 1) = hgt f a n + 1 := by
  show hgt f a n + _ = _
  rw [if_pos h]
theorem hgt_on {f : Nat → Int} {a n : Nat} (h : f (a + n) = 9) : hgt f a (n + 1) = hgt f a n := by
  show hgt f a n + _ = _
  rw [if_neg (by omega), if_pos h]; omega
theorem hgt_dn {f : Nat → Int} {a n : Nat} (h : 2 ≤ f (a + n)) (h9 : f (a + n) ≠ 9) : hgt f a (n + 1) = hgt f a n - 1 := by
  show hgt f a n + _ = _
  rw [if_neg (by omega), if_neg h9]; omega
theorem Rn.nil {f g : Nat → Int} {a : Nat} : Rn f g a a 0 := ⟨Nat.le_refl _, by rw [Nat.sub_self]; rfl, fun n hn => absurd hn (by omega)⟩
theorem Rn.snoc {f g : Nat → Int} {a b : Nat} {d e : Int} (h : Rn f g a b d) (h0 : 0 ≤ f b) (h1 : f b = 1 → (0 ≤ g b ∧ g b ≤ 12)) (h9 : f b = 9 → 1 ≤ d) (h2 : 2 ≤ f b → f b ≠ 9 → 2 ≤ d) (he : e = d + (if f b ≤ 1 then 1 else if f b = 9 then 0 else -1)) : Rn f g a (b + 1) e := by
  obtain ⟨q1, q2, q3⟩ := h
  have ea : a + (b - a) = b := by omega
  refine ⟨by omega, ?_, fun n hn => ?_⟩
  · rw [show b + 1 - a = (b - a) + 1 by omega]
    show hgt f a (b - a) + _ = e
    rw [ea, q2, he]
  · by_cases hb : n < b - a
    · exact q3 n hb
    · have en : n = b - a := by omega
      subst en
      rw [ea, q2]
      exact ⟨h0, h1, h9, h2⟩
theorem hgt_cat {f : Nat → Int} {a m : Nat} : ∀ n : Nat, hgt f a (m + n) = hgt f a m + hgt f (a + m) n
  | 0 => by show hgt f a m = hgt f a m + 0; omega
  | n + 1 => by
    show hgt f a (m + n) + _ = hgt f a m + (hgt f (a + m) n + _)
    rw [hgt_cat n, Nat.add_assoc a m n]; exact Int.add_assoc _ _ _
theorem hgt_pos {f g : Nat → Int} {a b : Nat} {d : Int} (h : Rn f g a b d) : ∀ n : Nat, n ≤ b - a → (0 ≤ hgt f a n ∧ hgt f a n ≤ n)
  | 0, _ => by constructor <;> (show _ ≤ _; simp [hgt])
  | n + 1, hn => by
    have ih := hgt_pos h n (by omega)
    obtain ⟨q0, q1, q9, q2⟩ := h.2.2 n (by omega)
    by_cases c1 : f (a + n) ≤ 1
    · rw [hgt_up c1]; omega
    · by_cases c9 : f (a + n) = 9
      · rw [hgt_on c9]; omega
      · rw [hgt_dn (by omega) c9]; have := q2 (by omega) c9; omega
theorem Rn.le {f g : Nat → Int} {a b : Nat} {d : Int} (h : Rn f g a b d) : a ≤ b ∧ 0 ≤ d ∧ d ≤ b - a := by
  have q := hgt_pos h (b - a) (Nat.le_refl _)
  rw [h.2.1] at q
  have := h.1
  omega
theorem Rn.cat {f g : Nat → Int} {a b c : Nat} {d e : Int} (h : Rn f g a b d) (k : Rn f g b c e) : Rn f g a c (d + e) := by
  have hp := h.le
  obtain ⟨q1, q2, q3⟩ := h
  obtain ⟨r1, r2, r3⟩ := k
  have ea : a + (b - a) = b := by omega
  refine ⟨by omega, ?_, fun n hn => ?_⟩
  · rw [show c - a = (b - a) + (c - b) by omega, hgt_cat, ea, q2, r2]
  · by_cases hb : n < b - a
    · exact q3 n hb
    · obtain ⟨s0, s1, s9, s2⟩ := r3 (n - (b - a)) (by omega)
      have e2 : b + (n - (b - a)) = a + n := by omega
      rw [e2] at s0 s1 s9 s2
      have e3 : hgt f a n = d + hgt f b (n - (b - a)) := by
        rw [show n = (b - a) + (n - (b - a)) by omega, hgt_cat, ea, q2, show b - a + (n - (b - a)) - (b - a) = n - (b - a) by omega]
      rw [e3]
      exact ⟨s0, s1, fun q => by have := s9 q; omega, fun q q' => by have := s2 q q'; omega⟩
theorem Rn.congr {f g f' g' : Nat → Int} {a b : Nat} {d : Int} (h : Rn f g a b d) (hf : ∀ i : Nat, a ≤ i → i < b → f' i = f i) (hg : ∀ i : Nat, a ≤ i → i < b → g' i = g i) : Rn f' g' a b d := by
  obtain ⟨q1, q2, q3⟩ := h
  have key : ∀ n : Nat, n ≤ b - a → hgt f' a n = hgt f a n := by
    intro n
    induction n with
    | zero => intro _; rfl
    | succ n ih =>
      intro hn
      show hgt f' a n + _ = hgt f a n + _
      rw [ih (by omega), hf (a + n) (by omega) (by omega)]
  refine ⟨q1, by rw [key _ (Nat.le_refl _)]; exact q2, fun n hn => ?_⟩
  rw [key n (by omega), hf (a + n) (by omega) (by omega), hg (a + n) (by omega) (by omega)]
  exact q3 n hn
theorem Rn.step {f g : Nat → Int} {a b k : Nat} {d n : Int} (h : Rn f g a b d) (p : Rn f g a k n) (hk : k < b) : 0 ≤ f k ∧ (f k = 1 → (0 ≤ g k ∧ g k ≤ 12)) ∧ (f k = 9 → 1 ≤ n) ∧ (2 ≤ f k → f k ≠ 9 → 2 ≤ n) ∧ 0 ≤ n ∧ n ≤ k - a := by
  have hp := p.le
  have q := h.2.2 (k - a) (by omega)
  rw [p.2.1, show a + (k - a) = k by omega] at q
  exact ⟨q.1, q.2.1, q.2.2.1, q.2.2.2, hp.2.1, hp.2.2⟩
/-- the entries of a RULE of the reference -/
abbrev sf (M : zM) (r : Nat) : Nat → Int := fun i => M (229 + 38) (300 * r + i)
abbrev nf (M : zM) (r : Nat) : Nat → Int := fun i => M (229 + 39) (300 * r + i)
def RunOk (M : zM) (r : Nat) (a b : Int) : Prop := 0 ≤ a ∧ a ≤ b ∧ ∃ d, Rn (sf M r) (nf M r) a.toNat b.toNat d
def CO (M : zM) (r c : Nat) : Prop := RunOk M r (M (229 + 42) c) (M (229 + 43) c) ∧ RunOk M r (M (229 + 43) c) (M (229 + 44) c)
def Rl (M : zM) : Prop :=
  (M (229 + 1) 5 = 3 → 0 ≤ M (229 + 1) 6) ∧ M (229 + 1) 6 < M 229 41 ∧ M (229 + 1) 15 < M 229 41 ∧ (∀ v : Nat, (v : Int) < M (229 + 1) 1 → M (229 + 6) v < M 229 41) ∧
  (∀ r : Nat, (r : Int) < M 229 41 → (M (229 + 40) r ≤ 12 ∧ ∀ n : Nat, (n : Int) < M (229 + 40) r → CO M r (12 * r + n)))
theorem RunOk.same {M M' : zM} {r : Nat} {a b : Int} (h : RunOk M r a b) (f1 : ∀ i : Nat, a ≤ i → (i : Int) < b → M' (229 + 38) (300 * r + i) = M (229 + 38) (300 * r + i)) (f2 : ∀ i : Nat, a ≤ i → (i : Int) < b → M' (229 + 39) (300 * r + i) = M (229 + 39) (300 * r + i)) : RunOk M' r a b := by
  obtain ⟨h0, h1, d, hd⟩ := h
  exact ⟨h0, h1, d, hd.congr (fun i q1 q2 => f1 i (by omega) (by omega)) (fun i q1 q2 => f2 i (by omega) (by omega))⟩
theorem Rl.frame {M M' : zM} (h : Rl M) (f : ∀ c j : Nat, ((c = 229 ∧ j = 41) ∨ (c = 229 + 1 ∧ (j = 1 ∨ j = 5 ∨ j = 6 ∨ j = 15)) ∨ c = 229 + 6 ∨ (229 + 38 ≤ c ∧ c ≤ 229 + 44)) → M' c j = M c j) : Rl M' := by
  obtain ⟨h1, h2, h3, h4, h5⟩ := h
  have e := f 229 41 (by omega)
  refine ⟨?_, ?_, ?_, fun v hv => ?_, fun r hr => ?_⟩
  · rw [f (229 + 1) 5 (by omega), f (229 + 1) 6 (by omega)]; exact h1
  · rw [f (229 + 1) 6 (by omega), e]; exact h2
  · rw [f (229 + 1) 15 (by omega), e]; exact h3
  · rw [f (229 + 1) 1 (by omega)] at hv; rw [f (229 + 6) v (by omega), e]; exact h4 v hv
  · rw [e] at hr
    obtain ⟨q1, q2⟩ := h5 r hr
    rw [f (229 + 40) r (by omega)]
    refine ⟨q1, fun n hn => ?_⟩
    obtain ⟨c1, c2⟩ := q2 n hn
    unfold CO
    rw [f (229 + 42) _ (by omega), f (229 + 43) _ (by omega), f (229 + 44) _ (by omega)]
    exact ⟨c1.same (fun i _ _ => f _ _ (by omega)) (fun i _ _ => f _ _ (by omega)), c2.same (fun i _ _ => f _ _ (by omega)) (fun i _ _ => f _ _ (by omega))⟩
theorem Rl.law {M : zM} (h : Rl M) (h3 : M (229 + 1) 5 = 3) : 0 ≤ M (229 + 1) 6 := h.1 h3
theorem Rl.lawr {M : zM} (h : Rl M) : M (229 + 1) 6 < M 229 41 := h.2.1
theorem Rl.force {M : zM} (h : Rl M) : M (229 + 1) 15 < M 229 41 := h.2.2.1
theorem Rl.bound {M : zM} (h : Rl M) (v : Nat) (hv : (v : Int) < M (229 + 1) 1) : M (229 + 6) v < M 229 41 := h.2.2.2.1 v hv
theorem Rl.many {M : zM} (h : Rl M) (r : Int) (h0 : 0 ≤ r) (hr : r < M 229 41) : M (229 + 40) r.toNat ≤ 12 := (h.2.2.2.2 r.toNat (by omega)).1
theorem Rl.sum {M : zM} (h : Rl M) (r c : Int) (h0 : 0 ≤ r) (hr : r < M 229 41) (h1 : 12 * r ≤ c) (h2 : c < 12 * r + M (229 + 40) r.toNat) : RunOk M r.toNat (M (229 + 42) c.toNat) (M (229 + 43) c.toNat) := by
  have q := ((h.2.2.2.2 r.toNat (by omega)).2 (c.toNat - 12 * r.toNat) (by omega)).1
  rwa [show 12 * r.toNat + (c.toNat - 12 * r.toNat) = c.toNat by omega] at q
theorem Rl.test {M : zM} (h : Rl M) (r c : Int) (h0 : 0 ≤ r) (hr : r < M 229 41) (h1 : 12 * r ≤ c) (h2 : c < 12 * r + M (229 + 40) r.toNat) : RunOk M r.toNat (M (229 + 43) c.toNat) (M (229 + 44) c.toNat) := by
  have q := ((h.2.2.2.2 r.toNat (by omega)).2 (c.toNat - 12 * r.toNat) (by omega)).2
  rwa [show 12 * r.toNat + (c.toNat - 12 * r.toNat) = c.toNat by omega] at q
/-- as answer goes -/
def Pf (M : zM) (r : Int) (a k n : Int) : Prop := 0 ≤ a ∧ a ≤ k ∧ Rn (sf M r.toNat) (nf M r.toNat) a.toNat k.toNat n
theorem Pf.nil {M : zM} {r a : Int} (h : 0 ≤ a) : Pf M r a a 0 := ⟨h, Int.le_refl _, Rn.nil⟩
theorem Pf.step {M : zM} {r a b k n : Int} (h : RunOk M r.toNat a b) (p : Pf M r a k n) (hk : k < b) (i : Nat) (hi : i = 300 * r.toNat + k.toNat) :
    0 ≤ M (229 + 38) i ∧ (M (229 + 38) i = 1 → (0 ≤ M (229 + 39) i ∧ M (229 + 39) i ≤ 12)) ∧ (M (229 + 38) i = 9 → 1 ≤ n) ∧ (2 ≤ M (229 + 38) i → M (229 + 38) i ≠ 9 → 2 ≤ n) ∧ 0 ≤ n ∧ n ≤ k - a := by
  obtain ⟨h0, h1, d, hd⟩ := h
  obtain ⟨p0, p1, hp⟩ := p
  subst hi
  have q := hd.step hp (by omega)
  exact ⟨q.1, q.2.1, q.2.2.1, q.2.2.2.1, q.2.2.2.2.1, by have := q.2.2.2.2.2; omega⟩
theorem Pf.go {M : zM} {r a b k n m k' : Int} (h : RunOk M r.toNat a b) (p : Pf M r a k n) (hk : k < b) (i : Nat) (hi : i = 300 * r.toNat + k.toNat) (hk' : k' = k + 1)
    (hm : (M (229 + 38) i ≤ 1 ∧ m = n + 1) ∨ (M (229 + 38) i = 9 ∧ m = n) ∨ (2 ≤ M (229 + 38) i ∧ M (229 + 38) i ≠ 9 ∧ m = n - 1)) : Pf M r a k' m := by
  have s := Pf.step h p hk i hi
  obtain ⟨p0, p1, hp⟩ := p
  subst hi
  refine ⟨p0, by omega, ?_⟩
  rw [show k'.toNat = k.toNat + 1 by omega]
  refine hp.snoc s.1 s.2.1 s.2.2.1 s.2.2.2.1 ?_
  show m = n + (if M (229 + 38) (300 * r.toNat + k.toNat) ≤ 1 then 1 else if M (229 + 38) (300 * r.toNat + k.toNat) = 9 then 0 else -1)
  rcases hm with ⟨q1, q2⟩ | ⟨q1, q2⟩ | ⟨q1, q3, q2⟩
  · rw [if_pos q1]; exact q2
  · rw [if_neg (by omega), if_pos q1]; omega
  · rw [if_neg (by omega), if_neg q3]; omega
/-- every LOG is somewhere in the ORDER -/
def On (M : zM) : Prop := ∀ l : Nat, (l : Int) < M (229 + 1) 3 → ∃ k : Nat, (k : Int) < M (229 + 1) 3 ∧ M (229 + 17) k = l
theorem On.frame {M M' : zM} (h : On M) (f : ∀ c j : Nat, ((c = 229 + 1 ∧ j = 3) ∨ c = 229 + 17) → M' c j = M c j) : On M' := by
  intro l hl
  rw [f (229 + 1) 3 (by omega)] at hl
  obtain ⟨k, q1, q2⟩ := h l hl
  exact ⟨k, by rw [f (229 + 1) 3 (by omega)]; exact q1, by rw [f (229 + 17) k (by omega)]; exact q2⟩
/-- the LOG isn't ahead of a place -/
def Pn (M : zM) (l k : Int) : Prop := ∀ j : Nat, (j : Int) < k → M (229 + 17) j ≠ l
theorem Pn.lt {M : zM} {l k : Int} (h : Pn M l k) (o : On M) (h0 : 0 ≤ l) (hl : l < M (229 + 1) 3) : k < M (229 + 1) 3 := by
  obtain ⟨q, q1, q2⟩ := o l.toNat (by omega)
  by_cases hk : (q : Int) < k
  · exact absurd (show M (229 + 17) q = l by omega) (h q hk)
  · omega
theorem Pn.nil {M : zM} {l : Int} : Pn M l 0 := fun j hj => absurd hj (by omega)
theorem Pn.go {M : zM} {l k : Int} (h : Pn M l k) (h0 : 0 ≤ k) (hk : M (229 + 17) k.toNat ≠ l) : Pn M l (k + 1) := by
  intro j hj
  by_cases e : (j : Int) = k
  · have : j = k.toNat := by omega
    subst this; exact hk
  · exact h j (by omega)
/-- all LOGS but one are in the ORDER elsewhere than at a place -/
def Hl (M : zM) (l h : Int) : Prop := ∀ i : Nat, (i : Int) < M (229 + 1) 3 → (i : Int) ≠ l → ∃ q : Nat, (q : Int) < M (229 + 1) 3 ∧ (q : Int) ≠ h ∧ M (229 + 17) q = i
theorem Hl.of {M : zM} {l h : Int} (o : On M) (h0 : 0 ≤ h) (e : M (229 + 17) h.toNat = l) : Hl M l h := by
  intro i hi hn
  obtain ⟨q, q1, q2⟩ := o i hi
  refine ⟨q, q1, fun z => hn ?_, q2⟩
  have : q = h.toNat := by omega
  subst this; omega
theorem Hl.go {M M' : zM} {l h h' : Int} (o : Hl M l h) (h0 : 0 ≤ h) (h0' : 0 ≤ h') (hl : h < M (229 + 1) 3) (hne : h ≠ h') (e : M' (229 + 17) h.toNat = M (229 + 17) h'.toNat) (f : ∀ c j : Nat, (c ≠ 229 + 17 ∨ j ≠ h.toNat) → M' c j = M c j) : Hl M' l h' := by
  intro i hi hn
  rw [f (229 + 1) 3 (by omega)] at hi
  obtain ⟨q, q1, q2, q3⟩ := o i hi hn
  by_cases z : (q : Int) = h'
  · refine ⟨h.toNat, by rw [f (229 + 1) 3 (by omega)]; omega, by omega, ?_⟩
    rw [e, show h'.toNat = q by omega]; exact q3
  · exact ⟨q, by rw [f (229 + 1) 3 (by omega)]; omega, z, by rw [f (229 + 17) q (by omega)]; exact q3⟩
theorem Hl.fin {M M' : zM} {l h : Int} (o : Hl M l h) (h0 : 0 ≤ h) (hl : h < M (229 + 1) 3) (e : M' (229 + 17) h.toNat = l) (f : ∀ c j : Nat, (c ≠ 229 + 17 ∨ j ≠ h.toNat) → M' c j = M c j) : On M' := by
  intro i hi
  rw [f (229 + 1) 3 (by omega)] at hi
  by_cases z : (i : Int) = l
  · exact ⟨h.toNat, by rw [f (229 + 1) 3 (by omega)]; omega, by rw [e]; exact z.symm⟩
  · obtain ⟨q, q1, q2, q3⟩ := o i hi z
    exact ⟨q, by rw [f (229 + 1) 3 (by omega)]; omega, by rw [f (229 + 17) q (by omega)]; exact q3⟩
/-- the first n LOGS are in the first n places -/
def Ol (M : zM) (n : Int) : Prop := ∀ i : Nat, (i : Int) < n → ∃ k : Nat, (k : Int) < n ∧ M (229 + 17) k = i
def Oh (M : zM) (n h : Int) : Prop := ∀ i : Nat, (i : Int) < n → ∃ q : Nat, (q : Int) ≤ n ∧ (q : Int) ≠ h ∧ M (229 + 17) q = i
theorem Ol.nil {M : zM} : Ol M 0 := fun i hi => absurd hi (by omega)
theorem Ol.hole {M : zM} {n : Int} (h : Ol M n) : Oh M n n := by
  intro i hi
  obtain ⟨k, q1, q2⟩ := h i hi
  exact ⟨k, by omega, by omega, q2⟩
theorem Oh.go {M M' : zM} {n h h' : Int} (o : Oh M n h) (h0 : 0 < h) (hn : h ≤ n) (hh : h' = h - 1) (e : M' (229 + 17) h.toNat = M (229 + 17) h'.toNat) (f : ∀ c j : Nat, (c ≠ 229 + 17 ∨ j ≠ h.toNat) → M' c j = M c j) : Oh M' n h' := by
  intro i hi
  obtain ⟨q, q1, q2, q3⟩ := o i hi
  by_cases z : (q : Int) = h'
  · refine ⟨h.toNat, by omega, by omega, ?_⟩
    rw [e, show h'.toNat = q by omega]; exact q3
  · exact ⟨q, q1, z, by rw [f (229 + 17) q (by omega)]; exact q3⟩
theorem Oh.fin {M M' : zM} {n h n' : Int} (o : Oh M n h) (h0 : 0 ≤ h) (hn : h ≤ n) (hn' : n' = n + 1) (e : M' (229 + 17) h.toNat = n) (f : ∀ c j : Nat, (c ≠ 229 + 17 ∨ j ≠ h.toNat) → M' c j = M c j) : Ol M' n' := by
  intro i hi
  by_cases z : (i : Int) = n
  · exact ⟨h.toNat, by omega, by rw [e]; exact z.symm⟩
  · obtain ⟨q, q1, q2, q3⟩ := o i (by omega)
    exact ⟨q, by omega, by rw [f (229 + 17) q (by omega)]; exact q3⟩
theorem Ol.on {M : zM} {n : Int} (o : Ol M n) (h : n = M (229 + 1) 3) : On M := by
  subst h; exact o
