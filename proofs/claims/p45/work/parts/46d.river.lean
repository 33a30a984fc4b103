/-! RIVERS as the reference reads them: rows 29 newScalar, 32 newBend, 33 newWood, 36 newFelled -/
def Nw (M : zM) : Prop := M 229 39 = 0 → (0 ≤ M (229 + 29) 0 ∧ M (229 + 29) 0 ≤ 9 ∧ (∀ v : Nat, (v : Int) < M (229 + 29) 1 → (0 ≤ M (229 + 32) v ∧ M (229 + 32) v ≤ 8)) ∧
  (∀ l : Nat, (l : Int) < M (229 + 29) 3 → (0 ≤ M (229 + 33) l ∧ M (229 + 33) l ≤ 3 ∧ 0 ≤ M (229 + 36) l ∧ M (229 + 36) l < M (229 + 29) 1)))
theorem Nw.nil {M : zM} (h0 : M (229 + 29) 0 = 0) (h1 : M (229 + 29) 1 = 0) (h3 : M (229 + 29) 3 = 0) : Nw M :=
  fun _ => ⟨by omega, by omega, fun v hv => absurd hv (by omega), fun l hl => absurd hl (by omega)⟩
theorem Nw.vac {M : zM} (h : M 229 39 ≠ 0) : Nw M := fun q => absurd q h
theorem Nw.n0 {M : zM} (h : Nw M) (h0 : M 229 39 = 0) : 0 ≤ M (229 + 29) 0 ∧ M (229 + 29) 0 ≤ 9 := ⟨(h h0).1, (h h0).2.1⟩
theorem Nw.gen {M M' : zM} (h : Nw M) (hs : M' 229 39 = 0 → M 229 39 = 0) (f9 : ∀ j : Nat, (j = 0 ∨ j = 1 ∨ j = 3) → M' (229 + 29) j = M (229 + 29) j) (f2 : ∀ v : Nat, (v : Int) < M (229 + 29) 1 → M' (229 + 32) v = M (229 + 32) v)
    (f3 : ∀ l : Nat, (l : Int) < M (229 + 29) 3 → M' (229 + 33) l = M (229 + 33) l) (f6 : ∀ l : Nat, (l : Int) < M (229 + 29) 3 → M' (229 + 36) l = M (229 + 36) l) : Nw M' := by
  intro q
  obtain ⟨h1, h2, h3, h4⟩ := h (hs q)
  have e0 := f9 0 (by omega)
  have e1 := f9 1 (by omega)
  have e3 := f9 3 (by omega)
  refine ⟨by omega, by omega, fun v hv => ?_, fun l hl => ?_⟩
  · rw [e1] at hv; rw [f2 v hv]; exact h3 v hv
  · rw [e3] at hl; rw [f3 l hl, f6 l hl, e1]; exact h4 l hl
theorem Nw.bends {M M' : zM} {v : Int} (h : Nw M) (e : M' (229 + 29) 0 = v) (hv : M 229 39 = 0 → (0 ≤ v ∧ v ≤ 9)) (f : ∀ c j : Nat, (c ≠ 229 + 29 ∨ j ≠ 0) → M' c j = M c j) : Nw M' := by
  intro q
  rw [f 229 39 (by omega)] at q
  obtain ⟨h1, h2, h3, h4⟩ := h q
  have := hv q
  have e1 := f (229 + 29) 1 (by omega)
  have e3 := f (229 + 29) 3 (by omega)
  refine ⟨by omega, by omega, fun v hv => ?_, fun l hl => ?_⟩
  · rw [e1] at hv; rw [f (229 + 32) v (by omega)]; exact h3 v hv
  · rw [e3] at hl; rw [f (229 + 33) l (by omega), f (229 + 36) l (by omega), e1]; exact h4 l hl
theorem Nw.vil {M M' : zM} {w : Int} {i : Nat} (h : Nw M) (e : M' (229 + 29) 1 = w) (hw : w = M (229 + 29) 1 + 1) (hi : (i : Int) = M (229 + 29) 1) (hb : M 229 39 = 0 → (0 ≤ M (229 + 32) i ∧ M (229 + 32) i ≤ 8)) (f : ∀ c j : Nat, (c ≠ 229 + 29 ∨ j ≠ 1) → M' c j = M c j) : Nw M' := by
  intro q
  rw [f 229 39 (by omega)] at q
  obtain ⟨h1, h2, h3, h4⟩ := h q
  have b := hb q
  have e0 := f (229 + 29) 0 (by omega)
  have e3 := f (229 + 29) 3 (by omega)
  refine ⟨by omega, by omega, fun v hv => ?_, fun l hl => ?_⟩
  · rw [f (229 + 32) v (by omega)]
    by_cases z : v = i
    · subst z; exact b
    · exact h3 v (by omega)
  · rw [e3] at hl; rw [f (229 + 33) l (by omega), f (229 + 36) l (by omega), e]
    have := h4 l hl
    omega
theorem Nw.log {M M' : zM} {w : Int} {i : Nat} (h : Nw M) (e : M' (229 + 29) 3 = w) (hw : w = M (229 + 29) 3 + 1) (hi : (i : Int) = M (229 + 29) 3) (hb : M 229 39 = 0 → (0 ≤ M (229 + 33) i ∧ M (229 + 33) i ≤ 3 ∧ 0 ≤ M (229 + 36) i ∧ M (229 + 36) i < M (229 + 29) 1)) (f : ∀ c j : Nat, (c ≠ 229 + 29 ∨ j ≠ 3) → M' c j = M c j) : Nw M' := by
  intro q
  rw [f 229 39 (by omega)] at q
  obtain ⟨h1, h2, h3, h4⟩ := h q
  have b := hb q
  have e0 := f (229 + 29) 0 (by omega)
  have e1 := f (229 + 29) 1 (by omega)
  refine ⟨by omega, by omega, fun v hv => ?_, fun l hl => ?_⟩
  · rw [e1] at hv; rw [f (229 + 32) v (by omega)]; exact h3 v hv
  · rw [f (229 + 33) l (by omega), f (229 + 36) l (by omega), e1]
    by_cases z : l = i
    · subst z; exact b
    · exact h4 l (by omega)
/-- as begins goes -/
def Bg (M N : zM) (l : Int) : Prop := (∀ i : Nat, (i : Int) < l → ((0 ≤ N (229 + 36) i → N (229 + 36) i ≤ 5 → M (229 + 12) i = 20 + N (229 + 36) i) ∧ M (229 + 18) (6 * i) = N (229 + 36) i ∧ M (229 + 17) i = i)) ∧ ∀ q : Nat, q % 6 ≠ 0 → M (229 + 18) q = N (229 + 18) q
theorem Bg.nil {M N : zM} (f : ∀ q : Nat, M (229 + 18) q = N (229 + 18) q) : Bg M N 0 := ⟨fun i hi => absurd hi (by omega), fun q _ => f q⟩
theorem Bg.go {A B N : zM} {l l' : Int} (h : Bg A N l) (h0 : 0 ≤ l) (hl : l' = l + 1) (p : 0 ≤ N (229 + 36) l.toNat → N (229 + 36) l.toNat ≤ 5 → B (229 + 12) l.toNat = 20 + N (229 + 36) l.toNat) (n : B (229 + 18) (6 * l.toNat) = N (229 + 36) l.toNat) (o : B (229 + 17) l.toNat = l)
    (fp : ∀ j : Nat, j ≠ l.toNat → B (229 + 12) j = A (229 + 12) j) (fn : ∀ j : Nat, j ≠ 6 * l.toNat → B (229 + 18) j = A (229 + 18) j) (fo : ∀ j : Nat, j ≠ l.toNat → B (229 + 17) j = A (229 + 17) j) : Bg B N l' := by
  refine ⟨fun i hi => ?_, fun q hq => ?_⟩
  · by_cases z : i = l.toNat
    · subst z; exact ⟨p, n, by rw [o]; omega⟩
    · rw [fp i z, fn (6 * i) (by omega), fo i z]; exact h.1 i (by omega)
  · rw [fn q (by omega)]; exact h.2 q hq
theorem Bg.to {M N : zM} {l l' : Int} (h : Bg M N l) (e : l' = l) : Bg M N l' := by subst e; exact h
theorem Gm.begins {M M' : zM} (hI : zIv M) (g : Gm M) (nw : Nw M) (h39 : M 229 39 = 0) (b : Bg M' M 12) (e1 : M' (229 + 1) 1 = M (229 + 29) 1) (e3 : M' (229 + 1) 3 = M (229 + 29) 3) (f5 : ∀ j : Nat, j < 6 → M' (229 + 5) j = M (229 + 32) j) (f9 : ∀ j : Nat, j < 12 → M' (229 + 9) j = M (229 + 33) j) : Gm M' := by
  obtain ⟨n1, n2, n3, n4⟩ := nw h39
  have i1 : (0 : Int) ≤ M (229 + 29) 1 ∧ M (229 + 29) 1 ≤ 6 := hI 258 1
  have i3 : (0 : Int) ≤ M (229 + 29) 3 ∧ M (229 + 29) 3 ≤ 12 := hI 258 3
  refine ⟨fun v hv => ?_, fun l hl => ?_, fun l hl => ?_, fun q hq => ?_, fun k hk => ?_, fun h3 => ?_⟩
  · rw [f5 v (by omega)]; exact n3 v (by omega)
  · rw [f9 l (by omega)]; have := n4 l (by omega); omega
  · have q := n4 l (by omega)
    have w := (b.1 l (by omega)).1 (by omega) (by omega)
    rw [w, e1]; unfold PlOk; omega
  · by_cases z : q % 6 = 0
    · have w := (b.1 (q / 6) (by omega)).2.1
      rw [show 6 * (q / 6) = q by omega] at w
      have q4 := n4 (q / 6) (by omega)
      omega
    · rw [b.2 q z]; exact g.2.2.2.1 q ⟨hq.1, Or.inr z⟩
  · have w := (b.1 k (by omega)).2.2
    omega
  · have q := n4 0 (by omega)
    omega
theorem On.begins {M M' : zM} (b : Bg M' M 12) (h : M' (229 + 1) 3 ≤ 12) : On M' :=
  fun l hl => ⟨l, hl, (b.1 l (by omega)).2.2⟩
def Vr (M : zM) (v : Int) : Prop := ∀ i : Nat, (i : Int) < v → M (229 + 6) i = -1
theorem Vr.nil {M : zM} : Vr M 0 := fun i hi => absurd hi (by omega)
theorem Vr.go {A B : zM} {v v' : Int} (h : Vr A v) (h0 : 0 ≤ v) (hv : v' = v + 1) (e : B (229 + 6) v.toNat = -1) (f : ∀ j : Nat, j ≠ v.toNat → B (229 + 6) j = A (229 + 6) j) : Vr B v' := by
  intro i hi
  by_cases z : i = v.toNat
  · subst z; exact e
  · rw [f i z]; exact h i (by omega)
theorem Rl.begins {M M' : zM} (h : Rl M) (h41 : 0 ≤ M 229 41) (h1 : M' (229 + 1) 1 ≤ 6) (v : Vr M' 6) (e5 : M' (229 + 1) 5 = 0) (e6 : M' (229 + 1) 6 = -1) (e15 : M' (229 + 1) 15 = -1) (f : ∀ c j : Nat, ((c = 229 ∧ j = 41) ∨ (229 + 38 ≤ c ∧ c ≤ 229 + 44)) → M' c j = M c j) : Rl M' := by
  have e41 := f 229 41 (by omega)
  exact h.of ⟨fun q => by omega, by omega, by omega, fun i hi => by have := v i (by omega); omega⟩ f
/-! RULES: clauses that were read -/
theorem RunOk.nil {M : zM} {r : Nat} {a : Int} (h : 0 ≤ a) : RunOk M r a a := ⟨h, Int.le_refl _, 0, Rn.nil⟩
theorem RunOk.kp {M M' : zM} {r : Nat} {a b : Int} (h : RunOk M r a b) (k : Kp M M') (hr : (r : Int) = M 229 40) (hb : b ≤ M 229 42) : RunOk M' r a b :=
  h.same (fun i _ q2 => (k.2.2 _ (by omega)).1) (fun i _ q2 => (k.2.2 _ (by omega)).2)
theorem CO.of {M : zM} {r c : Nat} {x y z : Int} (e1 : M (229 + 42) c = x) (e2 : M (229 + 43) c = y) (e3 : M (229 + 44) c = z) (h1 : RunOk M r x y) (h2 : RunOk M r y z) : CO M r c := by
  unfold CO; rw [e1, e2, e3]; exact ⟨h1, h2⟩
def Cs (M : zM) (n : Int) : Prop := M 229 39 = 0 → ∀ i : Nat, (i : Int) < n → (CO M (M 229 40).toNat (12 * (M 229 40).toNat + i) ∧ M (229 + 44) (12 * (M 229 40).toNat + i) ≤ M 229 42)
theorem Cs.nil {M : zM} : Cs M 0 := fun _ i hi => absurd hi (by omega)
theorem Cs.mv {M M' : zM} {n : Int} (h : Cs M n) (hs : M' 229 39 = 0 → M 229 39 = 0) (f : ∀ c j : Nat, ((c = 229 ∧ (j = 40 ∨ j = 42)) ∨ c = 229 + 38 ∨ c = 229 + 39 ∨ (229 + 42 ≤ c ∧ c ≤ 229 + 44)) → M' c j = M c j) : Cs M' n := by
  intro q i hi
  obtain ⟨⟨c1, c2⟩, c3⟩ := h (hs q) i hi
  rw [f 229 40 (by omega), f 229 42 (by omega), f (229 + 44) _ (by omega)]
  refine ⟨?_, c3⟩
  exact CO.of (f (229 + 42) _ (by omega)) (f (229 + 43) _ (by omega)) (f (229 + 44) _ (by omega)) (c1.same (fun i _ _ => f _ _ (by omega)) (fun i _ _ => f _ _ (by omega))) (c2.same (fun i _ _ => f _ _ (by omega)) (fun i _ _ => f _ _ (by omega)))
theorem Cs.go {M M' : zM} {n n' : Int} {m : Nat} (h : Cs M n) (h0 : M 229 39 = 0) (hS : 0 ≤ M 229 40) (hn0 : 0 ≤ n) (hm : m = n.toNat) (hn : n' = n + 1) (k : Kp M M') (f5 : ∀ c j : Nat, (c = 229 + 42 ∨ c = 229 + 43 ∨ c = 229 + 44) → j ≠ 12 * (M 229 40).toNat + m → M' c j = M c j)
    (f4 : M' 229 39 = 0 → (CO M' (M 229 40).toNat (12 * (M 229 40).toNat + m) ∧ M' (229 + 44) (12 * (M 229 40).toNat + m) ≤ M' 229 42)) : Cs M' n' := by
  intro q i hi
  rw [k.1]
  by_cases z : i = m
  · subst z; exact f4 q
  · obtain ⟨⟨c1, c2⟩, c3⟩ := h h0 i (by omega)
    have g2 := f5 (229 + 42) (12 * (M 229 40).toNat + i) (by omega) (by omega)
    have g3 := f5 (229 + 43) (12 * (M 229 40).toNat + i) (by omega) (by omega)
    have g4 := f5 (229 + 44) (12 * (M 229 40).toNat + i) (by omega) (by omega)
    have k2 := k.2.1
    have l2 := c2.2.1
    exact ⟨CO.of g2 g3 g4 (c1.kp k (by omega) (by omega)) (c2.kp k (by omega) (by omega)), by omega⟩
theorem Rl.read {M M' : zM} {m : Nat} (hI : zIv M) (h : Rl M) (hs : M 229 40 = M 229 41) (k : Kp M M') (f5 : ∀ c j : Nat, (c = 229 + 42 ∨ c = 229 + 43 ∨ c = 229 + 44) → j ≠ 12 * (M 229 40).toNat + m → M' c j = M c j)
    (f : ∀ c j : Nat, ((c = 229 ∧ j = 41) ∨ (c = 229 + 1 ∧ (j = 1 ∨ j = 5 ∨ j = 6 ∨ j = 15)) ∨ c = 229 + 6 ∨ c = 229 + 40) → M' c j = M c j) : Rl M' := by
  obtain ⟨h1, h2, h3, h4, h5⟩ := h
  have e := f 229 41 (by omega)
  refine ⟨?_, ?_, ?_, fun v hv => ?_, fun r hr => ?_⟩
  · rw [f (229 + 1) 5 (by omega), f (229 + 1) 6 (by omega)]; exact h1
  · rw [f (229 + 1) 6 (by omega), e]; exact h2
  · rw [f (229 + 1) 15 (by omega), e]; exact h3
  · rw [f (229 + 1) 1 (by omega)] at hv; rw [f (229 + 6) v (by omega), e]; exact h4 v hv
  · rw [e] at hr
    obtain ⟨q1, q2⟩ := h5 r hr
    rw [f (229 + 40) r (by omega)]
    refine ⟨q1, fun n hn => ?_⟩
    obtain ⟨c1, c2⟩ := q2 n hn
    have b3 : (0 : Int) ≤ M (229 + 43) (12 * r + n) ∧ M (229 + 43) (12 * r + n) ≤ 300 := hI 272 (12 * r + n)
    have b4 : (0 : Int) ≤ M (229 + 44) (12 * r + n) ∧ M (229 + 44) (12 * r + n) ≤ 300 := hI 273 (12 * r + n)
    have b0 : (0 : Int) ≤ M 229 42 ∧ M 229 42 ≤ 300 := hI 229 42
    refine CO.of (f5 _ _ (by omega) (by omega)) (f5 _ _ (by omega) (by omega)) (f5 _ _ (by omega) (by omega)) (c1.same (fun i _ q => (k.2.2 _ (by omega)).1) (fun i _ q => (k.2.2 _ (by omega)).2)) (c2.same (fun i _ q => (k.2.2 _ (by omega)).1) (fun i _ q => (k.2.2 _ (by omega)).2))
theorem Rl.cls {M M' : zM} {i : Nat} (h : Rl M) (hi : M 229 41 ≤ (i : Int)) (f : ∀ c j : Nat, (c ≠ 229 + 40 ∨ j ≠ i) → M' c j = M c j) : Rl M' := by
  obtain ⟨h1, h2, h3, h4, h5⟩ := h
  have e := f 229 41 (by omega)
  refine ⟨?_, ?_, ?_, fun v hv => ?_, fun r hr => ?_⟩
  · rw [f (229 + 1) 5 (by omega), f (229 + 1) 6 (by omega)]; exact h1
  · rw [f (229 + 1) 6 (by omega), e]; exact h2
  · rw [f (229 + 1) 15 (by omega), e]; exact h3
  · rw [f (229 + 1) 1 (by omega)] at hv; rw [f (229 + 6) v (by omega), e]; exact h4 v hv
  · rw [e] at hr
    obtain ⟨q1, q2⟩ := h5 r hr
    rw [f (229 + 40) r (by omega)]
    refine ⟨q1, fun n hn => ?_⟩
    obtain ⟨c1, c2⟩ := q2 n hn
    exact CO.of (f _ _ (by omega)) (f _ _ (by omega)) (f _ _ (by omega)) (c1.same (fun i _ _ => f _ _ (by omega)) (fun i _ _ => f _ _ (by omega))) (c2.same (fun i _ _ => f _ _ (by omega)) (fun i _ _ => f _ _ (by omega)))
theorem Rl.add {M M' : zM} {n w : Int} (h : Rl M) (cs : Cs M n) (hs : M 229 40 = M 229 41) (hc : M (229 + 40) (M 229 41).toNat = n) (e : M' 229 41 = w) (hw : w = M 229 41 ∨ (w = M 229 41 + 1 ∧ M 229 39 = 0 ∧ n ≤ 12 ∧ 0 ≤ M 229 41)) (f : ∀ c j : Nat, (c ≠ 229 ∨ j ≠ 41) → M' c j = M c j) : Rl M' := by
  obtain ⟨h1, h2, h3, h4, h5⟩ := h
  refine ⟨?_, ?_, ?_, fun v hv => ?_, fun r hr => ?_⟩
  · rw [f (229 + 1) 5 (by omega), f (229 + 1) 6 (by omega)]; exact h1
  · rw [f (229 + 1) 6 (by omega), e]; omega
  · rw [f (229 + 1) 15 (by omega), e]; omega
  · rw [f (229 + 1) 1 (by omega)] at hv; rw [f (229 + 6) v (by omega), e]; have := h4 v hv; omega
  · rw [f (229 + 40) r (by omega)]
    by_cases z : (r : Int) < M 229 41
    · obtain ⟨q1, q2⟩ := h5 r z
      refine ⟨q1, fun n hn => ?_⟩
      obtain ⟨c1, c2⟩ := q2 n hn
      exact CO.of (f _ _ (by omega)) (f _ _ (by omega)) (f _ _ (by omega)) (c1.same (fun i _ _ => f _ _ (by omega)) (fun i _ _ => f _ _ (by omega))) (c2.same (fun i _ _ => f _ _ (by omega)) (fun i _ _ => f _ _ (by omega)))
    · rcases hw with hw | ⟨hw, h9, hn, h0⟩
      · omega
      · have er : r = (M 229 41).toNat := by omega
        subst er
        rw [hc]
        refine ⟨hn, fun i hi => ?_⟩
        have q := cs h9 i hi
        rw [hs] at q
        obtain ⟨⟨c1, c2⟩, c3⟩ := q
        exact CO.of (f _ _ (by omega)) (f _ _ (by omega)) (f _ _ (by omega)) (c1.same (fun i _ _ => f _ _ (by omega)) (fun i _ _ => f _ _ (by omega))) (c2.same (fun i _ _ => f _ _ (by omega)) (fun i _ _ => f _ _ (by omega)))
theorem Rl.set {M M' : zM} (h : Rl M) (h5 : M' (229 + 1) 5 = 3 → 0 ≤ M' (229 + 1) 6) (h6 : M' (229 + 1) 6 < M 229 41) (h15 : M' (229 + 1) 15 < M 229 41) (hv : ∀ v : Nat, (v : Int) < M' (229 + 1) 1 → M' (229 + 6) v < M 229 41) (f : ∀ c j : Nat, ((c = 229 ∧ j = 41) ∨ (229 + 38 ≤ c ∧ c ≤ 229 + 44)) → M' c j = M c j) : Rl M' := by
  have e := f 229 41 (by omega)
  exact h.of ⟨h5, by omega, by omega, fun v q => by have := hv v q; omega⟩ f
theorem ImR.mono {M M' : zM} (h : ImR M) (hr : M 229 41 ≤ M' 229 41) (f : ∀ c j : Nat, ((c = 229 + 56 ∧ j < 3600) ∨ c = 229 + 57) → M' c j = M c j) : ImR M' := by
  intro k hk hm
  rw [f (229 + 57) k (by omega)] at hm
  have b := h k hk hm
  have s := bl_same (M := M) (M' := M') (k := k) (fun j h1 h2 => f _ _ (by omega))
  refine ⟨fun c j h1 h2 h3 => ?_, b.2.1.same b.l1 b.l3 s, b.2.2.1.same b.l3 s, (b.2.2.2.1.same b.l1 s).mono hr, by rw [s (229 + 1) 7 (by omega) (by omega) (by decide)]; exact b.2.2.2.2⟩
  have q : M' (229 + 56) (900 * k + zof c + j) = M (229 + 56) (900 * k + zof c + j) := s c j h1 h2 h3
  rw [q]; exact b.1 c j h1 h2 h3
