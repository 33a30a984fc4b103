/-! as the reference reads RULES: fields 37 taped, 38 p, 39 fault, 40 slot, 42 entries, 44 counted, 45 opened; rows 38 sort, 39 number, 45 open -/
def Kp (M M' : zM) : Prop := M' 229 40 = M 229 40 ∧ M 229 42 ≤ M' 229 42 ∧ ∀ i : Nat, (i : Int) < 300 * M 229 40 + M 229 42 → (M' (229 + 38) i = M (229 + 38) i ∧ M' (229 + 39) i = M (229 + 39) i)
theorem Kp.refl {M : zM} : Kp M M := ⟨rfl, Int.le_refl _, fun _ _ => ⟨rfl, rfl⟩⟩
theorem Kp.trans {A B C : zM} (h : Kp A B) (k : Kp B C) : Kp A C := by
  obtain ⟨h1, h2, h3⟩ := h
  obtain ⟨k1, k2, k3⟩ := k
  refine ⟨by omega, by omega, fun i hi => ?_⟩
  have q := h3 i hi
  have r := k3 i (by omega)
  exact ⟨r.1.trans q.1, r.2.trans q.2⟩
theorem Kp.frame {M A B : zM} (h : Kp M A) (f : ∀ c j : Nat, ((c = 229 ∧ (j = 40 ∨ j = 42)) ∨ c = 229 + 38 ∨ c = 229 + 39) → B c j = A c j) : Kp M B :=
  h.trans ⟨f 229 40 (by omega), by rw [f 229 42 (by omega)]; exact Int.le_refl _, fun i _ => ⟨f _ _ (by omega), f _ _ (by omega)⟩⟩
theorem Kp.row {M A B : zM} {c i : Nat} (h : Kp M A) (hc : c = 229 + 38 ∨ c = 229 + 39) (hi : 300 * M 229 40 + M 229 42 ≤ (i : Int)) (f : ∀ c' j : Nat, (c' ≠ c ∨ j ≠ i) → B c' j = A c' j) : Kp M B := by
  obtain ⟨h1, h2, h3⟩ := h
  refine ⟨by rw [f 229 40 (by omega)]; exact h1, by rw [f 229 42 (by omega)]; exact h2, fun j hj => ?_⟩
  rw [f (229 + 38) j (by omega), f (229 + 39) j (by omega)]
  exact h3 j hj
theorem Kp.ent {M A B : zM} {v : Int} (h : Kp M A) (e : B 229 42 = v) (hv : A 229 42 ≤ v) (f : ∀ c j : Nat, (c ≠ 229 ∨ j ≠ 42) → B c j = A c j) : Kp M B := by
  obtain ⟨h1, h2, h3⟩ := h
  refine ⟨by rw [f 229 40 (by omega)]; exact h1, by omega, fun j hj => ?_⟩
  rw [f (229 + 38) j (by omega), f (229 + 39) j (by omega)]
  exact h3 j hj
/-- a run of entries is under way: begun at a, d high, n NOTS open, s to spare -/
def Rd (M : zM) (a d n s : Int) : Prop := M 229 39 = 0 → (M 229 38 ≤ M 229 37 ∧ M 229 44 ≤ 60 ∧ 0 ≤ a ∧ a ≤ M 229 42 ∧ 0 ≤ n ∧ 3 * (M 229 42 + d + n) + s ≤ 6 * M 229 44 + M 229 38 ∧ Rn (sf M (M 229 40).toNat) (nf M (M 229 40).toNat) a.toNat (M 229 42).toNat d)
theorem Rd.vac {M : zM} {a d n s : Int} (h : M 229 39 ≠ 0) : Rd M a d n s := fun q => absurd q h
theorem Rd.nums {M : zM} {a d n s : Int} (h : Rd M a d n s) (h0 : M 229 39 = 0) : M 229 38 ≤ M 229 37 ∧ M 229 44 ≤ 60 ∧ 0 ≤ a ∧ a ≤ M 229 42 ∧ 0 ≤ n ∧ 3 * (M 229 42 + d + n) + s ≤ 6 * M 229 44 + M 229 38 ∧ 0 ≤ d := by
  obtain ⟨h1, h2, h3, h4, h5, h6, h7⟩ := h h0
  exact ⟨h1, h2, h3, h4, h5, h6, h7.le.2.1⟩
theorem Rd.mvn {M M' : zM} {a d n s n' s' : Int} (h : Rd M a d n s) (f : ∀ c j : Nat, ((c = 229 ∧ (j = 37 ∨ j = 40 ∨ j = 42 ∨ j = 44)) ∨ c = 229 + 38 ∨ c = 229 + 39) → M' c j = M c j)
    (hp : M' 229 39 = 0 → (M 229 39 = 0 ∧ (M 229 38 ≤ M 229 37 → 0 ≤ n → (M' 229 38 ≤ M 229 37 ∧ 0 ≤ n' ∧ 3 * n' + s' + M 229 38 ≤ 3 * n + s + M' 229 38)))) : Rd M' a d n' s' := by
  intro q
  obtain ⟨q0, q1⟩ := hp q
  obtain ⟨h1, h2, h3, h4, h5, h6, h7⟩ := h q0
  obtain ⟨q2, q3, q4⟩ := q1 h1 h5
  have e37 := f 229 37 (by omega)
  have e40 := f 229 40 (by omega)
  have e42 := f 229 42 (by omega)
  have e44 := f 229 44 (by omega)
  refine ⟨by omega, by omega, h3, by omega, q3, by omega, ?_⟩
  rw [e40, e42]
  exact h7.congr (fun i _ _ => f _ _ (by omega)) (fun i _ _ => f _ _ (by omega))
theorem Rd.mv {M M' : zM} {a d n s : Int} (h : Rd M a d n s) (f : ∀ c j : Nat, ((c = 229 ∧ (j = 37 ∨ j = 40 ∨ j = 42 ∨ j = 44)) ∨ c = 229 + 38 ∨ c = 229 + 39) → M' c j = M c j)
    (hp : M' 229 39 = 0 → (M 229 39 = 0 ∧ (M 229 38 ≤ M 229 37 → (M' 229 38 ≤ M 229 37 ∧ M 229 38 ≤ M' 229 38)))) : Rd M' a d n s :=
  h.mvn f (fun q => ⟨(hp q).1, fun q1 q2 => ⟨((hp q).2 q1).1, q2, by have := ((hp q).2 q1).2; omega⟩⟩)
theorem Rd.frame {M M' : zM} {a d n s : Int} (h : Rd M a d n s) (f : ∀ c j : Nat, ((c = 229 ∧ (j = 37 ∨ j = 38 ∨ j = 39 ∨ j = 40 ∨ j = 42 ∨ j = 44)) ∨ c = 229 + 38 ∨ c = 229 + 39) → M' c j = M c j) : Rd M' a d n s :=
  h.mv (fun c j q => f c j (by omega)) (fun q => by rw [f 229 39 (by omega)] at q; rw [f 229 38 (by omega)]; exact ⟨q, fun w => ⟨w, Int.le_refl _⟩⟩)
theorem Rd.weak {M : zM} {a d n s s' : Int} (h : Rd M a d n s) (hs : s' ≤ s) : Rd M a d n s' :=
  fun q => by
    obtain ⟨h1, h2, h3, h4, h5, h6, h7⟩ := h q
    exact ⟨h1, h2, h3, h4, h5, by omega, h7⟩
theorem Rd.ct {M M' : zM} {a d n s : Int} (h : Rd M a d n s) (f : ∀ c j : Nat, ((c = 229 ∧ (j = 37 ∨ j = 38 ∨ j = 40 ∨ j = 42)) ∨ c = 229 + 38 ∨ c = 229 + 39) → M' c j = M c j)
    (hp : M' 229 39 = 0 → (M 229 39 = 0 ∧ M' 229 44 = M 229 44 + 1 ∧ M' 229 44 ≤ 60)) : Rd M' a d n (s + 6) := by
  intro q
  obtain ⟨q0, q1, q2⟩ := hp q
  obtain ⟨h1, h2, h3, h4, h5, h6, h7⟩ := h q0
  have e37 := f 229 37 (by omega)
  have e38 := f 229 38 (by omega)
  have e40 := f 229 40 (by omega)
  have e42 := f 229 42 (by omega)
  refine ⟨by omega, q2, h3, by omega, h5, by omega, ?_⟩
  rw [e40, e42]
  exact h7.congr (fun i _ _ => f _ _ (by omega)) (fun i _ _ => f _ _ (by omega))
theorem Rd.new {M : zM} {a d n s : Int} (h : Rd M a d n s) (hs : 0 ≤ s) : Rd M (M 229 42) 0 0 0 := by
  intro q
  have w := h.nums q
  exact ⟨w.1, w.2.1, by omega, Int.le_refl _, Int.le_refl _, by omega, Rn.nil⟩
theorem Rd.run {M : zM} {a d n s : Int} (h : Rd M a d n s) (h0 : M 229 39 = 0) : RunOk M (M 229 40).toNat a (M 229 42) := by
  obtain ⟨h1, h2, h3, h4, h5, h6, h7⟩ := h h0
  exact ⟨h3, h4, d, h7⟩
theorem Rd.ent {M M1 M2 M3 : zM} {a d n s e n' s' k v w : Int} {i1 i2 : Nat} (h : Rd M a d n s) (h0 : M 229 39 = 0) (hi1 : (i1 : Int) = 300 * M 229 40 + M 229 42) (hi2 : (i2 : Int) = 300 * M 229 40 + M 229 42) (hE : 0 ≤ M 229 42) (hS : 0 ≤ M 229 40)
    (e1 : M1 (229 + 38) i1 = k) (f1 : ∀ c j : Nat, (c ≠ 229 + 38 ∨ j ≠ i1) → M1 c j = M c j) (e2 : M2 (229 + 39) i2 = v) (f2 : ∀ c j : Nat, (c ≠ 229 + 39 ∨ j ≠ i2) → M2 c j = M1 c j) (e3 : M3 229 42 = w) (hw : w = M 229 42 + 1) (f3 : ∀ c j : Nat, (c ≠ 229 ∨ j ≠ 42) → M3 c j = M2 c j)
    (hk0 : 0 ≤ k) (hk1 : k = 1 → (0 ≤ v ∧ v ≤ 12)) (hm : (k ≤ 1 ∧ e = d + 1) ∨ (k = 9 ∧ 1 ≤ d ∧ e = d) ∨ (2 ≤ k ∧ k ≠ 9 ∧ 2 ≤ d ∧ e = d - 1)) (hn : 0 ≤ n → 0 ≤ n') (hs : 3 * (1 + e + n') + s' ≤ 3 * (d + n) + s) : Rd M3 a e n' s' := by
  intro _
  obtain ⟨h1, h2, h3, h4, h5, h6, h7⟩ := h h0
  have q37 : M3 229 37 = M 229 37 := by rw [f3 _ _ (by omega), f2 _ _ (by omega), f1 _ _ (by omega)]
  have q38 : M3 229 38 = M 229 38 := by rw [f3 _ _ (by omega), f2 _ _ (by omega), f1 _ _ (by omega)]
  have q40 : M3 229 40 = M 229 40 := by rw [f3 _ _ (by omega), f2 _ _ (by omega), f1 _ _ (by omega)]
  have q44 : M3 229 44 = M 229 44 := by rw [f3 _ _ (by omega), f2 _ _ (by omega), f1 _ _ (by omega)]
  refine ⟨by omega, by omega, h3, by omega, hn h5, by omega, ?_⟩
  have g1 : ∀ j : Nat, j ≠ i1 → M3 (229 + 38) j = M (229 + 38) j := fun j hj => by rw [f3 _ _ (by omega), f2 _ _ (by omega), f1 _ _ (by omega)]
  have g2 : ∀ j : Nat, j ≠ i2 → M3 (229 + 39) j = M (229 + 39) j := fun j hj => by rw [f3 _ _ (by omega), f2 _ _ (by omega), f1 _ _ (by omega)]
  have r := h7.congr (f' := sf M3 (M 229 40).toNat) (g' := nf M3 (M 229 40).toNat) (fun i _ _ => g1 _ (by omega)) (fun i _ _ => g2 _ (by omega))
  have k1 : sf M3 (M 229 40).toNat (M 229 42).toNat = k := by
    show M3 (229 + 38) (300 * (M 229 40).toNat + (M 229 42).toNat) = k
    rw [show 300 * (M 229 40).toNat + (M 229 42).toNat = i1 by omega, f3 _ _ (by omega), f2 _ _ (by omega)]; exact e1
  have k2 : nf M3 (M 229 40).toNat (M 229 42).toNat = v := by
    show M3 (229 + 39) (300 * (M 229 40).toNat + (M 229 42).toNat) = v
    rw [show 300 * (M 229 40).toNat + (M 229 42).toNat = i2 by omega, f3 _ _ (by omega)]; exact e2
  rw [q40, show (M3 229 42).toNat = (M 229 42).toNat + 1 by omega]
  refine r.snoc (by rw [k1]; exact hk0) (by rw [k1, k2]; exact hk1) (by rw [k1]; omega) (by rw [k1]; omega) ?_
  rw [k1]
  rcases hm with ⟨c1, c2⟩ | ⟨c1, c3, c2⟩ | ⟨c1, c3, c4, c2⟩
  · rw [if_pos c1]; exact c2
  · rw [if_neg (by omega), if_pos c1]; omega
  · rw [if_neg (by omega), if_neg c3]; omega
/-- what is open: ANDS and ORS; NOTS -/
def nbO (M : zM) : Nat → Int
  | 0 => 0
  | k + 1 => nbO M k + (if M (229 + 45) k = 10 ∨ M (229 + 45) k = 11 then 1 else 0)
def nnO (M : zM) : Nat → Int
  | 0 => 0
  | k + 1 => nnO M k + (if M (229 + 45) k = 9 then 1 else 0)
theorem nbO_same {M M' : zM} : ∀ k : Nat, (∀ j : Nat, j < k → M' (229 + 45) j = M (229 + 45) j) → nbO M' k = nbO M k
  | 0, _ => rfl
  | k + 1, h => by
    show nbO M' k + _ = nbO M k + _
    rw [nbO_same k (fun j hj => h j (by omega)), h k (by omega)]
theorem nnO_same {M M' : zM} : ∀ k : Nat, (∀ j : Nat, j < k → M' (229 + 45) j = M (229 + 45) j) → nnO M' k = nnO M k
  | 0, _ => rfl
  | k + 1, h => by
    show nnO M' k + _ = nnO M k + _
    rw [nnO_same k (fun j hj => h j (by omega)), h k (by omega)]
theorem nbO_pos {M : zM} : ∀ k : Nat, 0 ≤ nbO M k
  | 0 => Int.le_refl _
  | k + 1 => by
    have := nbO_pos (M := M) k
    show 0 ≤ nbO M k + _
    by_cases c : M (229 + 45) k = 10 ∨ M (229 + 45) k = 11
    · rw [if_pos c]; omega
    · rw [if_neg c]; omega
theorem nnO_pos {M : zM} : ∀ k : Nat, 0 ≤ nnO M k
  | 0 => Int.le_refl _
  | k + 1 => by
    have := nnO_pos (M := M) k
    show 0 ≤ nnO M k + _
    by_cases c : M (229 + 45) k = 9
    · rw [if_pos c]; omega
    · rw [if_neg c]; omega
theorem nO_top {M : zM} {o : Int} (h : 1 ≤ o) : (M (229 + 45) (o - 1).toNat = 9 → (nbO M o.toNat = nbO M (o - 1).toNat ∧ nnO M o.toNat = nnO M (o - 1).toNat + 1)) ∧ ((M (229 + 45) (o - 1).toNat = 10 ∨ M (229 + 45) (o - 1).toNat = 11) → (nbO M o.toNat = nbO M (o - 1).toNat + 1 ∧ nnO M o.toNat = nnO M (o - 1).toNat)) ∧ (M (229 + 45) (o - 1).toNat = 12 → (nbO M o.toNat = nbO M (o - 1).toNat ∧ nnO M o.toNat = nnO M (o - 1).toNat)) := by
  rw [show o.toNat = (o - 1).toNat + 1 by omega]
  refine ⟨fun e => ⟨?_, ?_⟩, fun e => ⟨?_, ?_⟩, fun e => ⟨?_, ?_⟩⟩
  · show nbO M _ + _ = _; rw [if_neg (by omega)]; omega
  · show nnO M _ + _ = _; rw [if_pos e]
  · show nbO M _ + _ = _; rw [if_pos e]
  · show nnO M _ + _ = _; rw [if_neg (by omega)]; omega
  · show nbO M _ + _ = _; rw [if_neg (by omega)]; omega
  · show nnO M _ + _ = _; rw [if_neg (by omega)]; omega
/-- as a TEST is read; w: a FACT is wanted -/
def Ts (M : zM) (a w : Int) : Prop := (M 229 39 = 0 → M 229 45 ≤ M 229 38) ∧ Rd M a (nbO M (M 229 45).toNat + 1 - w) (nnO M (M 229 45).toNat) 0
theorem Ts.mv {M M' : zM} {a w : Int} (h : Ts M a w) (f : ∀ c j : Nat, ((c = 229 ∧ (j = 37 ∨ j = 40 ∨ j = 42 ∨ j = 44 ∨ j = 45)) ∨ c = 229 + 38 ∨ c = 229 + 39 ∨ c = 229 + 45) → M' c j = M c j)
    (hp : M' 229 39 = 0 → (M 229 39 = 0 ∧ (M 229 38 ≤ M 229 37 → (M' 229 38 ≤ M 229 37 ∧ M 229 38 ≤ M' 229 38)))) : Ts M' a w := by
  obtain ⟨h1, h2⟩ := h
  have e := f 229 45 (by omega)
  refine ⟨fun q => ?_, ?_⟩
  · have w1 := hp q
    have w2 := (h2.nums w1.1).1
    have w3 := (w1.2 w2).2
    have w4 := h1 w1.1
    omega
  · rw [e, nbO_same _ (fun j _ => f _ j (by omega)), nnO_same _ (fun j _ => f _ j (by omega))]
    exact h2.mv (fun c j q => f c j (by omega)) hp
theorem Ts.vac {M : zM} {a w : Int} (h : M 229 39 ≠ 0) : Ts M a w := ⟨fun q => absurd q h, Rd.vac h⟩
theorem Ts.w {M : zM} {a w w' : Int} (h : Ts M a w) (e : w' = w) : Ts M a w' := by subst e; exact h
theorem Ts.push {M M' : zM} {a w w' k : Int} (h : Ts M a w) (h0 : 0 ≤ M 229 45) (hk : M' (229 + 45) (M 229 45).toNat = k) (e : M' 229 45 = M 229 45 + 1) (fo : ∀ j : Nat, j ≠ (M 229 45).toNat → M' (229 + 45) j = M (229 + 45) j)
    (f : ∀ c j : Nat, ((c = 229 ∧ (j = 37 ∨ j = 40 ∨ j = 42 ∨ j = 44)) ∨ c = 229 + 38 ∨ c = 229 + 39) → M' c j = M c j)
    (hp : M' 229 39 = 0 → (M 229 39 = 0 ∧ (M 229 38 ≤ M 229 37 → (M' 229 38 ≤ M 229 37 ∧ M 229 38 + 1 ≤ M' 229 38 ∧ (k = 9 → M 229 38 + 3 ≤ M' 229 38)))))
    (hw : ((k = 9 ∨ k = 12) ∧ w' = w) ∨ ((k = 10 ∨ k = 11) ∧ w' = w + 1)) : Ts M' a w' := by
  obtain ⟨h1, h2⟩ := h
  have t := nO_top (M := M') (o := M' 229 45) (by omega)
  rw [e, show (M 229 45 + 1 - 1).toNat = (M 229 45).toNat by omega, hk] at t
  have b1 := nbO_same (M := M) (M' := M') (M 229 45).toNat (fun j hj => fo j (by omega))
  have b2 := nnO_same (M := M) (M' := M') (M 229 45).toNat (fun j hj => fo j (by omega))
  refine ⟨fun q => ?_, ?_⟩
  · have w1 := hp q
    have w2 := (h2.nums w1.1).1
    have w3 := (w1.2 w2).2
    have w4 := h1 w1.1
    omega
  · rw [e]
    have ed : nbO M' (M 229 45 + 1).toNat + 1 - w' = nbO M (M 229 45).toNat + 1 - w := by
      rcases hw with ⟨c | c, c2⟩ | ⟨c, c2⟩
      · have := t.1 c; omega
      · have := t.2.2 c; omega
      · have := t.2.1 c; omega
    rw [ed]
    refine h2.mvn f (fun q => ⟨(hp q).1, fun q1 q2 => ?_⟩)
    have w1 := (hp q).2 q1
    refine ⟨w1.1, nnO_pos _, ?_⟩
    rcases hw with ⟨c | c, c2⟩ | ⟨c, c2⟩
    · have := t.1 c; have := w1.2.2 c; omega
    · have := t.2.2 c; omega
    · have := t.2.1 c; omega
theorem Ts.pop {M M1 M' : zM} {a d n w : Int} (h : Rd M1 a d n 0) (h0 : 1 ≤ M 229 45) (e : M' 229 45 = M 229 45 - 1) (fo : ∀ j : Nat, M' (229 + 45) j = M (229 + 45) j)
    (f : ∀ c j : Nat, ((c = 229 ∧ (j = 37 ∨ j = 40 ∨ j = 42 ∨ j = 44)) ∨ c = 229 + 38 ∨ c = 229 + 39) → M' c j = M1 c j)
    (hp : M' 229 39 = 0 → (M1 229 39 = 0 ∧ (M1 229 38 ≤ M1 229 37 → (M' 229 38 ≤ M1 229 37 ∧ M1 229 38 ≤ M' 229 38)) ∧ M 229 45 ≤ M' 229 38 + 1))
    (ht : (M (229 + 45) (M 229 45 - 1).toNat = 9 ∧ d = nbO M (M 229 45).toNat + 1 - w ∧ n = nnO M (M 229 45).toNat - 1) ∨ ((M (229 + 45) (M 229 45 - 1).toNat = 10 ∨ M (229 + 45) (M 229 45 - 1).toNat = 11) ∧ d = nbO M (M 229 45).toNat + 1 - w - 1 ∧ n = nnO M (M 229 45).toNat) ∨ (M (229 + 45) (M 229 45 - 1).toNat = 12 ∧ d = nbO M (M 229 45).toNat + 1 - w ∧ n = nnO M (M 229 45).toNat)) : Ts M' a w := by
  have t := nO_top (M := M) (o := M 229 45) h0
  have b1 := nbO_same (M := M) (M' := M') (M 229 45 - 1).toNat (fun j hj => fo j)
  have b2 := nnO_same (M := M) (M' := M') (M 229 45 - 1).toNat (fun j hj => fo j)
  refine ⟨fun q => ?_, ?_⟩
  · have := (hp q).2.2; omega
  · rw [e, b1, b2]
    have hd : d = nbO M (M 229 45 - 1).toNat + 1 - w := by
      rcases ht with ⟨c, c1, c2⟩ | ⟨c, c1, c2⟩ | ⟨c, c1, c2⟩
      · have := t.1 c; omega
      · have := t.2.1 c; omega
      · have := t.2.2 c; omega
    have hn : n = nnO M (M 229 45 - 1).toNat := by
      rcases ht with ⟨c, c1, c2⟩ | ⟨c, c1, c2⟩ | ⟨c, c1, c2⟩
      · have := t.1 c; omega
      · have := t.2.1 c; omega
      · have := t.2.2 c; omega
    rw [← hd, ← hn]
    exact h.mv f (fun q => ⟨(hp q).1, (hp q).2.1⟩)
theorem Ts.top {M : zM} {a w : Int} (_h : Ts M a w) (h0 : 1 ≤ M 229 45) : (M (229 + 45) (M 229 45 - 1).toNat = 9 → 1 ≤ nnO M (M 229 45).toNat) ∧ ((M (229 + 45) (M 229 45 - 1).toNat = 10 ∨ M (229 + 45) (M 229 45 - 1).toNat = 11) → 1 ≤ nbO M (M 229 45).toNat) ∧ 0 ≤ nbO M (M 229 45).toNat ∧ 0 ≤ nnO M (M 229 45).toNat := by
  have t := nO_top (M := M) (o := M 229 45) h0
  have p1 := nbO_pos (M := M) (M 229 45 - 1).toNat
  have p2 := nnO_pos (M := M) (M 229 45 - 1).toNat
  have p3 := nbO_pos (M := M) (M 229 45).toNat
  have p4 := nnO_pos (M := M) (M 229 45).toNat
  refine ⟨fun c => ?_, fun c => ?_, p3, p4⟩
  · have := t.1 c; omega
  · have := t.2.1 c; omega
theorem Ts.begin {M M' : zM} {a d n s : Int} (h : Rd M a d n s) (hs : 0 ≤ s) (e : M' 229 45 = 0) (hE : 0 ≤ M 229 38) (f : ∀ c j : Nat, ((c = 229 ∧ (j = 37 ∨ j = 38 ∨ j = 39 ∨ j = 40 ∨ j = 42 ∨ j = 44)) ∨ c = 229 + 38 ∨ c = 229 + 39) → M' c j = M c j) : Ts M' (M 229 42) 1 := by
  have q := (h.new hs).frame f
  have e8 := f 229 38 (by omega)
  refine ⟨fun _ => by omega, ?_⟩
  rw [e]
  exact q
theorem Ts.nums {M : zM} {a w : Int} (h : Ts M a w) (h0 : M 229 39 = 0) : M 229 38 ≤ M 229 37 ∧ M 229 45 ≤ M 229 38 := ⟨(h.2.nums h0).1, h.1 h0⟩
theorem Ts.fact {M M' : zM} {a d n w : Int} (h : Rd M' a d n 0) (e : M' 229 45 = M 229 45) (fo : ∀ j : Nat, M' (229 + 45) j = M (229 + 45) j) (hd : d = nbO M (M 229 45).toNat + 1 - w) (hn : n = nnO M (M 229 45).toNat) (hp : M' 229 39 = 0 → M' 229 45 ≤ M' 229 38) : Ts M' a w := by
  refine ⟨hp, ?_⟩
  rw [e, nbO_same (M := M) (M' := M') _ (fun j _ => fo j), nnO_same (M := M) (M' := M') _ (fun j _ => fo j), ← hd, ← hn]
  exact h
theorem Rd.to {M : zM} {a d n s d' n' s' : Int} (h : Rd M a d n s) (e1 : d' = d) (e2 : n' = n) (hs : s' ≤ s) : Rd M a d' n' s' := by
  subst e1; subst e2; exact h.weak hs
theorem wlF_pos {k : Int} (h0 : 0 ≤ k) (h1 : k ≤ 12) : 1 ≤ wlF k ∧ wlF k ≤ 20 := by
  have h : k = 0 ∨ k = 1 ∨ k = 2 ∨ k = 3 ∨ k = 4 ∨ k = 5 ∨ k = 6 ∨ k = 7 ∨ k = 8 ∨ k = 9 ∨ k = 10 ∨ k = 11 ∨ k = 12 := by omega
  rcases h with rfl | rfl | rfl | rfl | rfl | rfl | rfl | rfl | rfl | rfl | rfl | rfl | rfl <;> decide
theorem rlF_pos {k : Int} (h0 : 0 ≤ k) (h1 : k ≤ 5) : 1 ≤ rlF k ∧ rlF k ≤ 20 := by
  have h : k = 0 ∨ k = 1 ∨ k = 2 ∨ k = 3 ∨ k = 4 ∨ k = 5 := by omega
  rcases h with rfl | rfl | rfl | rfl | rfl | rfl <;> decide
theorem alF_pos {k : Int} (h0 : 0 ≤ k) (h1 : k ≤ 4) : 1 ≤ alF k ∧ alF k ≤ 20 := by
  have h : k = 0 ∨ k = 1 ∨ k = 2 ∨ k = 3 ∨ k = 4 := by omega
  rcases h with rfl | rfl | rfl | rfl | rfl <;> decide
