/-! the class's Strings as lists of words; what a reader of the class answers -/
theorem cs26 : csL 26 = jnW wAct := by decide +kernel
theorem cs27 : csL 27 = jnW [wIf] := by decide +kernel
theorem cs28 : csL 28 = jnW [wAnd] := by decide +kernel
theorem cs29 : csL 29 = jnW [wOr] := by decide +kernel
theorem cs30 : csL 30 = jnW [wNot] := by decide +kernel
theorem cs31 : csL 31 = jnW wVal := by decide +kernel
section RZ
variable {t : Nat → Int} {n a : Nat}
abbrev wR (t : Nat → Int) (n a i : Nat) : Int := wiR t a ((stp t n a : Int) - a) i
theorem wR26 (h : a ≤ n) : wR t n a 26 = wix t n a wAct 0 := wiR_list wAct (by decide) cs26 (by decide) (by decide) h
theorem wR31 (h : a ≤ n) : wR t n a 31 = wix t n a wVal 0 := wiR_list wVal (by decide) cs31 (by decide) (by decide) h
theorem wix1 (w : List Int) : (wix t n a [w] 0 = 0 ↔ isw t n a w = true) := by
  show (if isw t n a w then ((0 : Nat) : Int) else -1) = 0 ↔ _
  by_cases c : isw t n a w = true
  · rw [if_pos c]; exact ⟨fun _ => c, fun _ => rfl⟩
  · rw [if_neg c]; exact ⟨fun q => absurd q (by decide), fun q => absurd q c⟩
theorem wR27 (h : a ≤ n) : wR t n a 27 = 0 ↔ isw t n a wIf = true := by
  rw [show wR t n a 27 = wix t n a [wIf] 0 from wiR_list [wIf] (by decide) cs27 (by decide) (by decide) h]; exact wix1 wIf
theorem wR28 (h : a ≤ n) : wR t n a 28 = 0 ↔ isw t n a wAnd = true := by
  rw [show wR t n a 28 = wix t n a [wAnd] 0 from wiR_list [wAnd] (by decide) cs28 (by decide) (by decide) h]; exact wix1 wAnd
theorem wR29 (h : a ≤ n) : wR t n a 29 = 0 ↔ isw t n a wOr = true := by
  rw [show wR t n a 29 = wix t n a [wOr] 0 from wiR_list [wOr] (by decide) cs29 (by decide) (by decide) h]; exact wix1 wOr
theorem wR30 (h : a ≤ n) : wR t n a 30 = 0 ↔ isw t n a wNot = true := by
  rw [show wR t n a 30 = wix t n a [wNot] 0 from wiR_list [wNot] (by decide) cs30 (by decide) (by decide) h]; exact wix1 wNot
theorem wh_in {lo hi : Int} : ∀ (f a : Nat), n - a = f → ∀ j : Nat, a ≤ j → j < wh t n lo hi a → (lo ≤ t j ∧ t j ≤ hi)
  | 0, a, e, j, h1, h2 => by
    rw [wh_stop (by omega)] at h2; omega
  | f + 1, a, e, j, h1, h2 => by
    by_cases h : a < n ∧ lo ≤ t a ∧ t a ≤ hi
    · by_cases z : j = a
      · subst z; exact h.2
      · rw [wh_go h.1 h.2.1 h.2.2] at h2
        exact wh_in f (a + 1) (by omega) j (by omega) h2
    · rw [wh_stop h] at h2; omega
theorem dig_in (h : a < n) (h1 : 48 ≤ t a) (h2 : t a ≤ 57) (j : Nat) (hj : a ≤ j) (hs : j < stp t n a) : 48 ≤ t j ∧ t j ≤ 57 := by
  rw [← stp_dig h h1 h2] at hs
  by_cases z : j = a
  · subst z; exact ⟨h1, h2⟩
  · exact wh_in (n - (a + 1)) (a + 1) rfl j (by omega) hs
theorem dig_iff : dig t n a = true ↔ (48 ≤ fst9 t n a ∧ fst9 t n a ≤ 57) := by unfold dig; exact decide_eq_true_iff
def Rz (M' : zM) (t : Nat → Int) (n : Nat) (z : Int) (o : Po) : Prop := (z = 0 ∧ o = .error (M' 7 5)) ∨ (z = 1 ∧ ∃ (a' : Nat) (c' : Int), o = .ok (a', c') ∧ Tc M' t n a' ∧ M' 18 1 = c')
theorem Rz.yes {M' : zM} {z : Int} {o : Po} (h : Rz M' t n z o) (hz : z ≠ 0) : ∃ (a' : Nat) (c' : Int), o = .ok (a', c') ∧ Tc M' t n a' ∧ M' 18 1 = c' := by
  rcases h with h | h
  · exact absurd h.1 hz
  · exact h.2
theorem Rz.no {M' : zM} {z : Int} {o : Po} (h : Rz M' t n z o) (hz : z = 0) : o = .error (M' 7 5) := by
  rcases h with h | h
  · exact h.2
  · omega
/-- the FAULT is still as it was behind a reader's no -/
theorem Rz.nof {M' : zM} {z f : Int} {o : Po} (h : Rz M' t n z o) (hz : z = 0) (hf : f = M' 7 5) : o = .error f := by
  rw [hf]; exact h.no hz
theorem Tc.at {M : zM} (h : Tc M t n a) : M 7 2 = a := h.2.2.2.1
theorem Tc.fst {M : zM} (h : Tc M t n a) : M 7 4 = fst9 t n a := h.2.2.2.2.2
theorem Tc.le {M : zM} (h : Tc M t n a) : a ≤ n := h.2.1
theorem Tc.stop {M : zM} (h : Tc M t n a) : M 7 3 = stp t n a := h.2.2.2.2.1
theorem Tc.tx {M : zM} (h : Tc M t n a) : Tx M t n := h.1
theorem Tc.sle {M : zM} (h : Tc M t n a) : stp t n a ≤ n := (stp_le t n a h.2.1).2.1
theorem Vf_dig {c : Int} (hd : 48 ≤ fst9 t n a ∧ fst9 t n a ≤ 57) (hs : ¬ (a + 5 < stp t n a)) (hc : c < 60) : Vf t n a c = .ok (nx t n a, c + 1) := by
  unfold Vf; rw [if_pos (dig_iff.mpr hd), if_neg hs, if_neg (by omega)]
theorem Vf_dig3 {c : Int} (hd : 48 ≤ fst9 t n a ∧ fst9 t n a ≤ 57) (hs : ¬ (a + 5 < stp t n a)) (hc : 60 ≤ c) : Vf t n a c = er a 3 := by
  unfold Vf; rw [if_pos (dig_iff.mpr hd), if_neg hs, if_pos hc]
theorem Vf_digl {c : Int} (hd : 48 ≤ fst9 t n a ∧ fst9 t n a ≤ 57) (hs : a + 5 < stp t n a) : Vf t n a c = er a 1 := by
  unfold Vf; rw [if_pos (dig_iff.mpr hd), if_pos hs]
theorem Vf_wd {c : Int} (hd : ¬ (48 ≤ fst9 t n a ∧ fst9 t n a ≤ 57)) (hs : wix t n a wVal 0 ≠ -1) (hc : c < 60) : Vf t n a c = .ok (nx t n a, c + 1) := by
  unfold Vf; rw [if_neg (fun q => hd (dig_iff.mp q)), if_neg hs, if_neg (by omega)]
theorem Vf_wd3 {c : Int} (hd : ¬ (48 ≤ fst9 t n a ∧ fst9 t n a ≤ 57)) (hs : wix t n a wVal 0 ≠ -1) (hc : 60 ≤ c) : Vf t n a c = er a 3 := by
  unfold Vf; rw [if_neg (fun q => hd (dig_iff.mp q)), if_neg hs, if_pos hc]
theorem Vf_wdn {c : Int} (hd : ¬ (48 ≤ fst9 t n a ∧ fst9 t n a ≤ 57)) (hs : wix t n a wVal 0 = -1) : Vf t n a c = er a 0 := by
  unfold Vf; rw [if_neg (fun q => hd (dig_iff.mp q)), if_pos hs]
end RZ
theorem opS_yes {z : Int} (h : z = 42 ∨ z = 47 ∨ z = 37 ∨ z = 43 ∨ z = 45) : opS z = true := by
  rcases h with rfl | rfl | rfl | rfl | rfl <;> decide
theorem opS_no {z : Int} (h : ¬ (z = 42 ∨ z = 47 ∨ z = 37 ∨ z = 43 ∨ z = 45)) : ¬ opS z = true := by
  unfold opS
  intro q
  simp only [Bool.or_eq_true, beq_iff_eq] at q
  omega
section SUMS
variable {t : Nat → Int} {n : Nat}
theorem Sf_no {f g b : Nat} {d k : Int} {o : Po} (h : Sf t n g b d = o) (hg : g = f + 1) (e : Vf t n b d = .error k) : o = .error k := by
  subst hg; rw [← h, Sf_go, e]; rfl
theorem Sf_out {g b : Nat} {d : Int} {o : Po} (h : Sf t n g b d = o) (hg : g = 0) : o = er b 0 := by
  subst hg; rw [← h]; rfl
theorem Sf_end {f g b a' : Nat} {d c' : Int} {o : Po} (h : Sf t n g b d = o) (hg : g = f + 1) (e : Vf t n b d = .ok (a', c')) (hn : ¬ (fst9 t n a' = 42 ∨ fst9 t n a' = 47 ∨ fst9 t n a' = 37 ∨ fst9 t n a' = 43 ∨ fst9 t n a' = 45)) : o = .ok (a', c') := by
  subst hg; rw [← h, Sf_go, e]
  show (if opS (fst9 t n a') then _ else _) = _
  rw [if_neg (opS_no hn)]
theorem Sf_on {f g b a' x : Nat} {d c' y : Int} {o : Po} (h : Sf t n g b d = o) (hg : g = f + 1) (e : Vf t n b d = .ok (a', c')) (hn : fst9 t n a' = 42 ∨ fst9 t n a' = 47 ∨ fst9 t n a' = 37 ∨ fst9 t n a' = 43 ∨ fst9 t n a' = 45) (hx : x = nx t n a') (hy : y = c') : Sf t n f x y = o := by
  subst hg; subst hx; subst hy; rw [← h, Sf_go, e]
  show _ = (if opS (fst9 t n a') then _ else _)
  rw [if_pos (opS_yes hn)]
end SUMS
/-! FACTS and TESTS as the class reads them -/
section FCT
variable {t : Nat → Int} {n a : Nat} {c : Int}
theorem Cf_1 {k : Int} (h : Sf t n 61 a c = .error k) : Cf t n a c = .error k := by unfold Cf; rw [h]; rfl
theorem Cf_2a {a1 : Nat} {c1 : Int} (h : Sf t n 61 a c = .ok (a1, c1)) (hs : ¬ (fst9 t n a1 = 60 ∨ fst9 t n a1 = 61 ∨ fst9 t n a1 = 62)) : Cf t n a c = er a1 0 := by
  unfold Cf; rw [h]
  show Cs9 t n (a1, c1) = _
  unfold Cs9
  rw [if_neg hs]
theorem Cf_2b {a1 : Nat} {c1 : Int} (h : Sf t n 61 a c = .ok (a1, c1)) (hs : fst9 t n a1 = 60 ∨ fst9 t n a1 = 61 ∨ fst9 t n a1 = 62) (hc : 60 ≤ c1) : Cf t n a c = er a1 3 := by
  unfold Cf; rw [h]
  show Cs9 t n (a1, c1) = _
  unfold Cs9
  rw [if_pos hs, if_pos hc]
theorem Cf_2 {a1 : Nat} {c1 f : Int} (h : Sf t n 61 a c = .ok (a1, c1)) (hs : (¬ (fst9 t n a1 = 60 ∨ fst9 t n a1 = 61 ∨ fst9 t n a1 = 62) ∧ f = 1 + 8 * (a1 : Int) + 0) ∨ ((fst9 t n a1 = 60 ∨ fst9 t n a1 = 61 ∨ fst9 t n a1 = 62) ∧ 60 ≤ c1 ∧ f = 1 + 8 * (a1 : Int) + 3)) : Cf t n a c = .error f := by
  rcases hs with ⟨h1, h2⟩ | ⟨h1, h2, h3⟩
  · rw [Cf_2a h h1]; exact er_eq h2
  · rw [Cf_2b h h1 h2]; exact er_eq h3
theorem Cf_3 {a1 : Nat} {c1 x : Int} (h : Sf t n 61 a c = .ok (a1, c1)) (hs : fst9 t n a1 = 60 ∨ fst9 t n a1 = 61 ∨ fst9 t n a1 = 62) (hc : c1 < 60) (hx : x = c1 + 1) : Cf t n a c = Sf t n 61 (nx t n a1) x := by
  subst hx
  unfold Cf; rw [h]
  show Cs9 t n (a1, c1) = _
  unfold Cs9
  rw [if_pos hs, if_neg (by show ¬ 60 ≤ c1; omega)]
theorem jn_and (h : isw t n a wAnd = true) : jn t n a = true := by unfold jn; rw [h]; rfl
theorem jn_or (h : isw t n a wOr = true) : jn t n a = true := by unfold jn; rw [h, Bool.or_true]
theorem jn_no (h1 : ¬ isw t n a wAnd = true) (h2 : ¬ isw t n a wOr = true) : ¬ jn t n a = true := by
  unfold jn
  rw [Bool.or_eq_true]
  intro q; rcases q with q | q
  · exact h1 q
  · exact h2 q
theorem Tl_no {F : Nat → Int → Po} {f g b : Nat} {d k : Int} {o : Po} (h : Tl t n F g b d = o) (hg : g = f + 1) (e : F b d = .error k) : o = .error k := by
  subst hg; rw [← h, Tl_go, e]; rfl
theorem Tl_out {F : Nat → Int → Po} {g b : Nat} {d : Int} {o : Po} (h : Tl t n F g b d = o) (hg : g = 0) : o = er b 0 := by
  subst hg; rw [← h]; rfl
theorem Tl_end {F : Nat → Int → Po} {f g b a' : Nat} {d c' : Int} {o : Po} (h : Tl t n F g b d = o) (hg : g = f + 1) (e : F b d = .ok (a', c')) (hn : ¬ jn t n a' = true) : o = .ok (a', c') := by
  subst hg; rw [← h, Tl_go, e]
  show (if jn t n a' then _ else _) = _
  rw [if_neg hn]
theorem Tl_on {F : Nat → Int → Po} {f g b a' x : Nat} {d c' y : Int} {o : Po} (h : Tl t n F g b d = o) (hg : g = f + 1) (e : F b d = .ok (a', c')) (hn : jn t n a' = true) (hx : x = nx t n a') (hy : y = c') : Tl t n F f x y = o := by
  subst hg; subst hx; subst hy; rw [← h, Tl_go, e]
  show _ = (if jn t n a' then _ else _)
  rw [if_pos hn]
theorem Fn_eq {k : Nat} {x : Int} (h : fst9 t n a ≠ 91) (h1 : isw t n a wNot = true) (hx : x = c) : Ff t n (k + 1) a c = Ff t n k (nx t n a) x := by
  subst hx; exact Ff_not h h1
theorem Br_no {k : Nat} {x e : Int} (h : fst9 t n a = 91) (hx : x = c) (h2 : Tl t n (Ff t n k) 60 (nx t n a) x = .error e) : Ff t n (k + 1) a c = .error e := by
  subst hx
  rw [Ff_br h]; unfold Tf; rw [h2]; rfl
theorem Br_end {k a1 : Nat} {c1 x : Int} (h : fst9 t n a = 91) (hx : x = c) (e : Tl t n (Ff t n k) 60 (nx t n a) x = .ok (a1, c1)) (h1 : fst9 t n a1 = 93) : Ff t n (k + 1) a c = .ok (nx t n a1, c1) := by
  subst hx
  rw [Ff_br h]; unfold Tf; rw [e]
  show (if fst9 t n a1 = 93 then _ else er a1 0) = _
  rw [if_pos h1]
theorem Br_bad {k a1 : Nat} {c1 x : Int} (h : fst9 t n a = 91) (hx : x = c) (e : Tl t n (Ff t n k) 60 (nx t n a) x = .ok (a1, c1)) (h1 : fst9 t n a1 ≠ 93) : Ff t n (k + 1) a c = er a1 0 := by
  subst hx
  rw [Ff_br h]; unfold Tf; rw [e]
  show (if fst9 t n a1 = 93 then _ else er a1 0) = _
  rw [if_neg h1]
theorem fst_not (h : isw t n a wNot = true) : fst9 t n a ≠ 91 := by
  have q := (isw_iff wNot).mp h
  have l : wNot.length = 3 := rfl
  by_cases z : a < n
  · rw [fst9_in z]
    have m : ((t a == 110) && mt t (a + 1) [111, 116]) = true := q.2
    rw [Bool.and_eq_true, beq_iff_eq] at m
    omega
  · have w := stp_fin (t := t) (n := n) (a := a) (by omega)
    omega
theorem wR27i (h : a ≤ n) (hz : wiR t a ((stp t n a : Int) - a) 27 = 0) : isw t n a wIf = true := (wR27 h).mp hz
theorem wR27n (h : a ≤ n) (hz : wiR t a ((stp t n a : Int) - a) 27 ≠ 0) : ¬ isw t n a wIf = true := fun q => hz ((wR27 h).mpr q)
theorem wR28i (h : a ≤ n) (hz : wiR t a ((stp t n a : Int) - a) 28 = 0) : isw t n a wAnd = true := (wR28 h).mp hz
theorem wR28n (h : a ≤ n) (hz : wiR t a ((stp t n a : Int) - a) 28 ≠ 0) : ¬ isw t n a wAnd = true := fun q => hz ((wR28 h).mpr q)
theorem wR29i (h : a ≤ n) (hz : wiR t a ((stp t n a : Int) - a) 29 = 0) : isw t n a wOr = true := (wR29 h).mp hz
theorem wR29n (h : a ≤ n) (hz : wiR t a ((stp t n a : Int) - a) 29 ≠ 0) : ¬ isw t n a wOr = true := fun q => hz ((wR29 h).mpr q)
theorem wR30i (h : a ≤ n) (hz : wiR t a ((stp t n a : Int) - a) 30 = 0) : isw t n a wNot = true := (wR30 h).mp hz
theorem wR30n (h : a ≤ n) (hz : wiR t a ((stp t n a : Int) - a) 30 ≠ 0) : ¬ isw t n a wNot = true := fun q => hz ((wR30 h).mpr q)
end FCT
theorem Rz.ok {t : Nat → Int} {n : Nat} {M' : zM} {z : Int} {o : Po} (h : Rz M' t n z o) (hz : z ≠ 0) : ∃ q : Nat × Int, o = .ok q := by
  obtain ⟨a, c, e, -⟩ := h.yes hz
  exact ⟨(a, c), e⟩
/-- what rule answers, and how many RULES there are then -/
def Ro (o : Po) (r z r' : Int) : Prop := (∃ f : Int, o = .error f ∧ z = -2 - f ∧ r' = r) ∨ (∃ q : Nat × Int, o = .ok q ∧ z = r ∧ r' = r + 1)
theorem Ro.fun {o : Po} {r z r' y s' : Int} (h : Ro o r z r') (g : Ro o r y s') : z = y ∧ r' = s' := by
  rcases h with ⟨f, e, h1, h2⟩ | ⟨f, e, h1, h2⟩ <;> rcases g with ⟨f', e', g1, g2⟩ | ⟨f', e', g1, g2⟩ <;> rw [e] at e' <;> cases e' <;> exact ⟨by omega, by omega⟩
abbrev Tp (M : zM) (t : Nat → Int) (n : Nat) : Prop := Tc M t n (M 7 2).toNat
/-! CLAUSES of a RULE -/
section CLS
variable {t : Nat → Int} {n : Nat}
theorem wix_rg {a : Nat} : ∀ (l : List (List Int)) (k : Nat), wix t n a l k = -1 ∨ ((k : Int) ≤ wix t n a l k ∧ wix t n a l k < (k : Int) + l.length)
  | [], k => Or.inl rfl
  | w :: l, k => by
    show (if isw t n a w then (k : Int) else wix t n a l (k + 1)) = -1 ∨ ((k : Int) ≤ (if isw t n a w then (k : Int) else wix t n a l (k + 1)) ∧ (if isw t n a w then (k : Int) else wix t n a l (k + 1)) < (k : Int) + (w :: l).length)
    rw [List.length_cons]
    by_cases c : isw t n a w = true
    · rw [if_pos c]; omega
    · rw [if_neg c]
      have q := wix_rg (a := a) l (k + 1)
      omega
theorem wAct_rg (t : Nat → Int) (n a : Nat) : -1 ≤ wix t n a wAct 0 ∧ wix t n a wAct 0 ≤ 4 := by
  have q := wix_rg (t := t) (n := n) (a := a) wAct 0
  have e : wAct.length = 5 := rfl
  omega
theorem Rs_test {k : Int} {q : Nat × Int} (h : k < 3) : Rs t n k q = .ok q := by unfold Rs; rw [if_pos h]
theorem Rs_sum {k : Int} {a : Nat} {c x : Int} (h : ¬ k < 3) (hx : x = c) : Rs t n k (a, c) = Sf t n 61 a x := by subst hx; unfold Rs; rw [if_neg h]; rfl
theorem Rt_t {k : Int} {a : Nat} {c x : Int} (h : k < 3) (hx : x = c) : Rt t n k (a, c) = Tf t n 10 a x := by
  subst hx; unfold Rt; rw [if_pos (Or.inl h), if_pos h]
theorem Rt_i {k : Int} {a : Nat} {c x : Int} (h : ¬ k < 3) (hi : isw t n a wIf = true) (hx : x = c) : Rt t n k (a, c) = Tf t n 10 (nx t n a) x := by
  subst hx; unfold Rt; rw [if_pos (Or.inr hi), if_neg h]
theorem Rt_n {k : Int} {a : Nat} {c : Int} (h : ¬ k < 3) (hi : ¬ isw t n a wIf = true) : Rt t n k (a, c) = .ok (a, c) := by
  unfold Rt; rw [if_neg (by intro q; rcases q with q | q; exact h q; exact hi q)]
theorem Rc_k {m c : Int} {a : Nat} (h : wix t n a wAct 0 = -1) : Rc t n m (a, c) = er a 0 := by unfold Rc; rw [if_pos h]
theorem Rc_12 {m c : Int} {a : Nat} (h : wix t n a wAct 0 ≠ -1) (hm : m = 12) : Rc t n m (a, c) = er a 4 := by unfold Rc; rw [if_neg h, if_pos hm]
theorem Rc_ok {m c k : Int} {a : Nat} {p : Nat × Int} (hk : wix t n a wAct 0 = k) (h : k ≠ -1) (hm : m ≠ 12) (e : Rs t n k (nx t n a, c) = .ok p) : Rc t n m (a, c) = Rt t n k p := by
  unfold Rc; rw [hk, if_neg h, if_neg hm, e]; rfl
theorem Rc_er {m c k f : Int} {a : Nat} (hk : wix t n a wAct 0 = k) (h : k ≠ -1) (hm : m ≠ 12) (e : Rs t n k (nx t n a, c) = .error f) : Rc t n m (a, c) = .error f := by
  unfold Rc; rw [hk, if_neg h, if_neg hm, e]; rfl
theorem Rl_go (f : Nat) (m : Int) (q : Nat × Int) : Rl9 t n (f + 1) m q = bd (Rc t n m q) (fun p => if fst9 t n p.1 = -1 then .ok p else if fst9 t n p.1 = 59 then Rl9 t n f (m + 1) (nx t n p.1, p.2) else er p.1 0) := rfl
theorem Rl_er {f g : Nat} {m e : Int} {q : Nat × Int} {o : Po} (h : Rl9 t n g m q = o) (hg : g = f + 1) (hc : Rc t n m q = .error e) : o = .error e := by
  subst hg; rw [← h, Rl_go, hc]; rfl
theorem Rl_end {f g : Nat} {m : Int} {q : Nat × Int} {a' : Nat} {c' : Int} {o : Po} (h : Rl9 t n g m q = o) (hg : g = f + 1) (hc : Rc t n m q = .ok (a', c')) (hf : fst9 t n a' = -1) : o = .ok (a', c') := by
  subst hg; rw [← h, Rl_go, hc]
  show (if fst9 t n a' = -1 then _ else _) = _
  rw [if_pos hf]
theorem Rl_bad {f g : Nat} {m : Int} {q : Nat × Int} {a' : Nat} {c' : Int} {o : Po} (h : Rl9 t n g m q = o) (hg : g = f + 1) (hc : Rc t n m q = .ok (a', c')) (hf : fst9 t n a' ≠ -1) (hf2 : fst9 t n a' ≠ 59) : o = er a' 0 := by
  subst hg; rw [← h, Rl_go, hc]
  show (if fst9 t n a' = -1 then _ else if fst9 t n a' = 59 then _ else er a' 0) = _
  rw [if_neg hf, if_neg hf2]
theorem Rl_on {f g : Nat} {m m' : Int} {q : Nat × Int} {a' x : Nat} {c' y : Int} {o : Po} (h : Rl9 t n g m q = o) (hg : g = f + 1) (hc : Rc t n m q = .ok (a', c')) (hf : fst9 t n a' = 59) (hm : m' = m + 1) (hx : x = nx t n a') (hy : y = c') : Rl9 t n f m' (x, y) = o := by
  subst hg; subst hm; subst hx; subst hy; rw [← h, Rl_go, hc]
  show _ = (if fst9 t n a' = -1 then _ else if fst9 t n a' = 59 then _ else er a' 0)
  rw [if_neg (by omega), if_pos hf]
end CLS
