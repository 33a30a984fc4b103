/-! FACTS, TESTS and CLAUSES as the reference reads them -/
theorem ws13 : csL 13 = wNot := by decide +kernel
theorem ws14 : csL 14 = wAnd := by decide +kernel
theorem ws15 : csL 15 = wOr := by decide +kernel
theorem ws24 : csL 24 = wIf := by decide +kernel
/-- what is not looked into -/
def Hid (A : Prop) : Prop := A
theorem Hid.mk {A : Prop} (h : A) : Hid A := h
theorem Hid.out {A : Prop} (h : Hid A) : A := h
section FK
variable {t : Nat → Int} {n : Nat}
theorem is13 {a : Nat} (h : isw t n a (csL 13) = true) : isw t n a wNot = true := by rw [← ws13]; exact h
theorem no13 {a : Nat} (h : ¬ isw t n a (csL 13) = true) : ¬ isw t n a wNot = true := by rw [← ws13]; exact h
theorem is14 {a : Nat} (h : isw t n a (csL 14) = true) : jn t n a = true := jn_and (by rw [← ws14]; exact h)
theorem is15 {a : Nat} (h : isw t n a (csL 15) = true) : jn t n a = true := jn_or (by rw [← ws15]; exact h)
theorem no1415 {a : Nat} (h : ¬ isw t n a (csL 14) = true) (g : ¬ isw t n a (csL 15) = true) : ¬ jn t n a = true := jn_no (by rw [← ws14]; exact h) (by rw [← ws15]; exact g)
theorem is24 {a : Nat} (h : isw t n a (csL 24) = true) : isw t n a wIf = true := by rw [← ws24]; exact h
theorem no24 {a : Nat} (h : ¬ isw t n a (csL 24) = true) : ¬ isw t n a wIf = true := by rw [← ws24]; exact h
theorem dpO_push {r r' : Nat → Int} {o : Nat} (hr : ∀ j : Nat, j < o → r' j = r j) : ((r' o = 9 ∨ r' o = 12) → dpO r' (o + 1) = dpO r o + 1) ∧ (¬ (r' o = 9 ∨ r' o = 12) → dpO r' (o + 1) = dpO r o) := by
  have q := dpO_go (r := r') (o := o + 1) (o' := o) rfl
  rw [dpO_same o hr] at q
  exact q
theorem fk_not {r r' : Nat → Int} {o o' p p' a : Nat} {f f' c c' : Int} (ha : a = sk t n p) (hf : f = 0) (h : isw t n a wNot = true) (hr : ∀ j : Nat, j < o → r' j = r j) (ho : r' o = 9) (ho' : o' = o + 1) (hd : (10 ≤ dpO r o ∧ f' = 1 + 8 * (a : Int) + 2) ∨ (dpO r o < 10 ∧ f' = 0 ∧ p' = stp t n a ∧ c' = c)) : bd (ovN t n p' f' c') (Kw t n r' o') = bd (ovN t n p f c) (Kw t n r o) := by
  subst ha; subst ho'
  rw [ov_ok hf]
  show _ = Kw t n r o (sk t n p, c)
  rcases hd with ⟨d, e⟩ | ⟨d, e1, e2, e3⟩
  · rw [Kw_deep d (Or.inr h), ov_f e (by omega)]; rfl
  · rw [ov_ok e1, e2, e3]
    exact Kw_not hr ho d (fst_not h) h
theorem fk_br {r r' : Nat → Int} {o o' p p' a : Nat} {f f' c c' : Int} (ha : a = sk t n p) (hf : f = 0) (h0 : 0 ≤ c) (h : fst9 t n a = 91) (hr : ∀ j : Nat, j < o → r' j = r j) (ho : r' o = 12) (ho' : o' = o + 1) (hd : (10 ≤ dpO r o ∧ f' = 1 + 8 * (a : Int) + 2) ∨ (dpO r o < 10 ∧ f' = 0 ∧ p' = a + 1 ∧ c' = c)) : bd (ovN t n p' f' c') (Kw t n r' o') = bd (ovN t n p f c) (Kw t n r o) := by
  subst ha; subst ho'
  rw [ov_ok hf]
  show _ = Kw t n r o (sk t n p, c)
  rcases hd with ⟨d, e⟩ | ⟨d, e1, e2, e3⟩
  · rw [Kw_deep d (Or.inl h), ov_f e (by omega)]; rfl
  · rw [ov_ok e1, e2, e3, ← (stp_op1 (t := t) (n := n) (a := sk t n p) (by omega)).1]
    exact Kw_br h0 hr ho d h
theorem fk_cmp {r r' : Nat → Int} {o o' p p1 a : Nat} {f f1 c c1 : Int} {X : Po} (ha : a = sk t n p) (hf : f = 0) (h : fst9 t n a ≠ 91) (h1 : ¬ isw t n a wNot = true) (hr : ∀ j : Nat, j < o → r' j = r j) (ho' : o' = o) (hp : p1 = a) (hf1 : f1 = f) (hc : c1 = c) (e : X = bd (ovN t n p1 f1 c1) (Cg t n)) : bd X (Kn t n r' o') = bd (ovN t n p f c) (Kw t n r o) := by
  subst ha; subst ho'; subst hp; subst hf1; subst hc
  rw [e, ov_ok hf, ov_ok hf, sk_sk, Kn_same o' hr]
  show bd (Cf t n (sk t n p) c1) _ = Kw t n r o' (sk t n p, c1)
  rw [Kw_cmp h h1]
/-- what is still to come -/
def FT (t : Nat → Int) (n : Nat) (M : zM) (v w : Int) (T : Po) : Prop :=
  (v = 1 → bd (ovN t n (M 229 38).toNat (M 229 39) (M 229 44)) (Kw t n (M (229 + 45)) (M 229 45).toNat) = T) ∧
  (v = 0 → w = 1 → bd (ovN t n (M 229 38).toNat (M 229 39) (M 229 44)) (Kn t n (M (229 + 45)) (M 229 45).toNat) = T) ∧
  (w = 0 → ovN t n (M 229 38).toNat (M 229 39) (M 229 44) = T)
theorem FT.begin {M : zM} {p : Nat} {f c v w : Int} (hp : (M 229 38).toNat = p) (hf : M 229 39 = f) (hc : M 229 44 = c) (ho : (M 229 45).toNat = 0) (hv : v = 1) (hw : w = 1) (h0 : f = 0 → 0 ≤ c) : FT t n M v w (bd (ovN t n p f c) (Tg t n)) := by
  refine ⟨fun _ => ?_, fun h => by omega, fun h => by omega⟩
  rw [hp, hf, hc, ho]
  refine bd_congr (fun q e => ?_)
  exact Kw_start (ov_pos h0 q e)
theorem FT.fin {M : zM} {v w : Int} {T : Po} (h : FT t n M v w T) (hv : v = 0 ∨ v = 1) (hw : w = 0 ∨ w = 1) (hx : w = 0 ∨ M 229 39 ≠ 0) : ovN t n (M 229 38).toNat (M 229 39) (M 229 44) = T := by
  obtain ⟨h1, h2, h3⟩ := h
  rcases hw with hw | hw
  · exact h3 hw
  · have z : M 229 39 ≠ 0 := hx.resolve_left (by omega)
    rcases hv with hv | hv
    · have := h2 hv hw
      rw [ov_er z] at this ⊢
      exact this
    · have := h1 hv
      rw [ov_er z] at this ⊢
      exact this
theorem FT.of1 {M : zM} {v w : Int} {T : Po} (hv : v = 1) (hw : w = 1) (e : bd (ovN t n (M 229 38).toNat (M 229 39) (M 229 44)) (Kw t n (M (229 + 45)) (M 229 45).toNat) = T) : FT t n M v w T := ⟨fun _ => e, fun h => by omega, fun h => by omega⟩
theorem FT.of0 {M : zM} {v w : Int} {T : Po} (hv : v = 0) (hw : w = 1) (e : bd (ovN t n (M 229 38).toNat (M 229 39) (M 229 44)) (Kn t n (M (229 + 45)) (M 229 45).toNat) = T) : FT t n M v w T := ⟨fun h => by omega, fun _ _ => e, fun h => by omega⟩
theorem FT.ofN {M : zM} {v w : Int} {T : Po} (hv : v = 0) (hw : w = 0) (e : ovN t n (M 229 38).toNat (M 229 39) (M 229 44) = T) : FT t n M v w T := ⟨fun h => by omega, fun _ h => by omega, fun _ => e⟩
theorem tk_push {r r' : Nat → Int} {p0 p' a o0 o o' : Nat} {f0 c0 f' c' : Int} {T : Po} (e0 : bd (ovN t n p0 f0 c0) (Kn t n r o0) = T) (hf : f0 = 0) (h0 : 0 ≤ c0) (ha : a = sk t n p0) (hk : Kn t n r o = Kn t n r o0) (hj : jn t n a = true) (hs : Sg9 r o) (hr : ∀ j : Nat, j < o → r' j = r j) (ho : r' o = 10 ∨ r' o = 11) (ho' : o' = o + 1) (hp : p' = stp t n a) (hf' : f' = 0) (hc : c' = c0) : bd (ovN t n p' f' c') (Kw t n r' o') = T := by
  subst ha; subst ho'
  rw [← e0, ← hk, ov_ok hf, ov_ok hf', hp, hc]
  exact Kn_push h0 hj hs hr ho
theorem tk_end {r r' : Nat → Int} {p0 p' a o0 o : Nat} {f0 c0 f' c' : Int} {T : Po} (e0 : bd (ovN t n p0 f0 c0) (Kn t n r o0) = T) (hf : f0 = 0) (ha : a = sk t n p0) (hk : Kn t n r (o + 1) = Kn t n r o0) (ht : r o = 12) (hj : ¬ jn t n a = true) (hr : ∀ j : Nat, j < o → r' j = r j) (hd : (fst9 t n a ≠ 93 ∧ f' = 1 + 8 * (a : Int) + 0) ∨ (fst9 t n a = 93 ∧ f' = 0 ∧ p' = a + 1 ∧ c' = c0)) : bd (ovN t n p' f' c') (Kn t n r' o) = T := by
  subst ha
  rw [← e0, ← hk, ov_ok hf, Kn_same o hr]
  show _ = Kn t n r (o + 1) (sk t n p0, c0)
  rw [Kn_end ht hj]
  show _ = bd (Be t n (sk t n p0, c0)) _
  unfold Be
  rcases hd with ⟨d, e⟩ | ⟨d, e1, e2, e3⟩
  · rw [if_neg d, ov_f e (by omega)]
  · rw [if_pos d, ov_ok e1, e2, e3, ← (stp_op1 (t := t) (n := n) (a := sk t n p0) (by omega)).1]; rfl
theorem tk_done {r : Nat → Int} {p0 p' a o0 o : Nat} {f0 c0 f' c' : Int} {T : Po} (e0 : bd (ovN t n p0 f0 c0) (Kn t n r o0) = T) (hf : f0 = 0) (ha : a = sk t n p0) (hk : Kn t n r o = Kn t n r o0) (ho : o = 0) (hj : ¬ jn t n a = true) (hp : p' = a) (hf' : f' = 0) (hc : c' = c0) : ovN t n p' f' c' = T := by
  subst ha; subst ho
  rw [← e0, ← hk, ov_ok hf, ov_ok hf', hp, hc, sk_sk]
  exact (Kn_done (r := r) hj).symm
/-- CLAUSES -/
def Rg (t : Nat → Int) (n : Nat) (m : Int) (q : Nat × Int) : Po := Rc t n m q
theorem rc_k {p p' a : Nat} {f f' c c' m : Int} (ha : a = sk t n p) (hf : f = 0) (hw : wix t n a wAct 0 = -1) (h : f' = 1 + 8 * (a : Int) + 0) : ovN t n p' f' c' = bd (ovN t n p f c) (Rc t n m) := by
  subst ha
  rw [ov_ok hf, ov_f h (by omega)]
  exact (Rc_k hw).symm
theorem rc_12 {p p' a : Nat} {f f' c c' m k : Int} (ha : a = sk t n p) (hf : f = 0) (hw : wix t n a wAct 0 = k) (hk : k ≠ -1) (hm : m = 12) (h : f' = 1 + 8 * (a : Int) + 4) : ovN t n p' f' c' = bd (ovN t n p f c) (Rc t n m) := by
  subst ha
  rw [ov_ok hf, ov_f h (by omega)]
  exact (Rc_12 (by omega) hm).symm
theorem rc_t {p p1 a : Nat} {f f1 c c1 m k : Int} {X : Po} (ha : a = sk t n p) (hf : f = 0) (hw : wix t n a wAct 0 = k) (hk : k ≠ -1) (hm : m ≠ 12) (hk3 : k < 3) (hp : p1 = stp t n a) (hf1 : f1 = 0) (hc : c1 = c) (e : X = bd (ovN t n p1 f1 c1) (Tg t n)) : X = bd (ovN t n p f c) (Rc t n m) := by
  subst ha; subst hp; subst hc
  rw [e, ov_ok hf, ov_ok hf1]
  show Tf t n 10 (nx t n (sk t n p)) c1 = Rc t n m (sk t n p, c1)
  rw [Rc_ok hw hk hm (Rs_test hk3), Rt_t hk3 rfl]
theorem rc_s {p p1 a : Nat} {f f1 c c1 m k : Int} {X : Po} (ha : a = sk t n p) (hf : f = 0) (hw : wix t n a wAct 0 = k) (hk : k ≠ -1) (hm : m ≠ 12) (hk3 : ¬ k < 3) (hp : p1 = stp t n a) (hf1 : f1 = 0) (hc : c1 = c) (e : X = bd (ovN t n p1 f1 c1) (Sg t n)) : bd X (Rt t n k) = bd (ovN t n p f c) (Rc t n m) := by
  subst ha; subst hp; subst hc
  rw [e, ov_ok hf, ov_ok hf1]
  show bd (Sg t n (nx t n (sk t n p), c1)) _ = Rc t n m (sk t n p, c1)
  unfold Rc
  rw [hw, if_neg hk, if_neg hm]
  unfold Rs
  rw [if_neg hk3]
theorem rc_se {p p2 p' : Nat} {f2 c2 f' c' k : Int} {T : Po} (e : bd (ovN t n p2 f2 c2) (Rt t n k) = T) (h : f2 ≠ 0) (hf : f' = f2) : ovN t n p' f' c' = T := by
  rw [← e, ov_er h, hf, ov_er h]; rfl
theorem rc_sn {p2 p' a : Nat} {f2 c2 f' c' k : Int} {T : Po} (e : bd (ovN t n p2 f2 c2) (Rt t n k) = T) (h : f2 = 0) (ha : a = sk t n p2) (hk3 : ¬ k < 3) (hi : ¬ isw t n a wIf = true) (hp : p' = a) (hf : f' = 0) (hc : c' = c2) : ovN t n p' f' c' = T := by
  subst ha; subst hp; subst hc
  rw [← e, ov_ok h, ov_ok hf, sk_sk]
  exact (Rt_n hk3 hi).symm
theorem rc_si {p2 p3 a : Nat} {f2 c2 f3 c3 k : Int} {T X : Po} (e : bd (ovN t n p2 f2 c2) (Rt t n k) = T) (h : f2 = 0) (ha : a = sk t n p2) (hk3 : ¬ k < 3) (hi : isw t n a wIf = true) (hp : p3 = stp t n a) (hf : f3 = 0) (hc : c3 = c2) (e2 : X = bd (ovN t n p3 f3 c3) (Tg t n)) : X = T := by
  subst ha; subst hp; subst hc
  rw [e2, ← e, ov_ok h, ov_ok hf]
  exact (Rt_i hk3 hi rfl).symm
/-- a whole RULE -/
def Fo (f : Int) (T : Po) : Prop := (f = 0 ∧ ∃ q, T = .ok q) ∨ (f ≠ 0 ∧ T = .error f)
theorem Fo.ro {f r z r' : Int} {T : Po} (h : Fo f T) (h0 : 0 ≤ f) (e1 : 0 < f → (z = -2 - f ∧ r' = r)) (e2 : f = 0 → (z = r ∧ r' = r + 1)) : Ro T r z r' := by
  rcases h with ⟨h1, q, h2⟩ | ⟨h1, h2⟩
  · exact Or.inr ⟨q, h2, (e2 h1).1, (e2 h1).2⟩
  · exact Or.inl ⟨f, h2, (e1 (by omega)).1, (e1 (by omega)).2⟩
theorem go_on {pl p2 p3 a g : Nat} {fl cl f2 c2 f3 c3 m m' : Int} {T : Po} (e : bd (ovN t n pl fl cl) (Rl9 t n g m) = T) (h : ovN t n p2 f2 c2 = bd (ovN t n pl fl cl) (Rc t n m)) (hg : g = 0 + (g - 1) + 1) (hf : f2 = 0) (ha : a = sk t n p2) (h59 : fst9 t n a = 59) (hp : p3 = a + 1) (hf3 : f3 = 0) (hc : c3 = c2) (hm : m' = m + 1) : bd (ovN t n p3 f3 c3) (Rl9 t n (g - 1) m') = T := by
  obtain ⟨g', rfl⟩ : ∃ g', g = g' + 1 := ⟨g - 1, by omega⟩
  subst ha; subst hp; subst hc; subst hm
  have q : bd (ovN t n pl fl cl) (Rl9 t n (g' + 1) m) = bd (bd (ovN t n pl fl cl) (Rc t n m)) (fun p => if fst9 t n p.1 = -1 then .ok p else if fst9 t n p.1 = 59 then Rl9 t n g' (m + 1) (nx t n p.1, p.2) else er p.1 0) := by rw [bd_assoc]; rfl
  rw [← e, q, ← h, ov_ok hf, ov_ok hf3]
  show Rl9 t n g' (m + 1) (sk t n (sk t n p2 + 1), c3) = (if fst9 t n (sk t n p2) = -1 then _ else if fst9 t n (sk t n p2) = 59 then Rl9 t n g' (m + 1) (nx t n (sk t n p2), c3) else _)
  rw [if_neg (by omega), if_pos h59]
  unfold nx
  rw [(stp_op1 (t := t) (n := n) (a := sk t n p2) (by omega)).1]
theorem go_end {pl p2 a g : Nat} {fl cl f2 c2 f3 m : Int} {T : Po} (e : bd (ovN t n pl fl cl) (Rl9 t n g m) = T) (h : ovN t n p2 f2 c2 = bd (ovN t n pl fl cl) (Rc t n m)) (hg : g = 0 + (g - 1) + 1) (ha : a = sk t n p2) (hd : (f2 ≠ 0 ∧ f3 = f2) ∨ (f2 = 0 ∧ fst9 t n a = -1 ∧ f3 = 0) ∨ (f2 = 0 ∧ fst9 t n a ≠ -1 ∧ fst9 t n a ≠ 59 ∧ f3 = 1 + 8 * (a : Int) + 0)) : Fo f3 T := by
  obtain ⟨g', rfl⟩ : ∃ g', g = g' + 1 := ⟨g - 1, by omega⟩
  subst ha
  have q : bd (ovN t n pl fl cl) (Rl9 t n (g' + 1) m) = bd (bd (ovN t n pl fl cl) (Rc t n m)) (fun p => if fst9 t n p.1 = -1 then .ok p else if fst9 t n p.1 = 59 then Rl9 t n g' (m + 1) (nx t n p.1, p.2) else er p.1 0) := by rw [bd_assoc]; rfl
  rw [← e, q, ← h]
  rcases hd with ⟨h1, h2⟩ | ⟨h1, h2, h3⟩ | ⟨h1, h2, h3, h4⟩
  · refine Or.inr ⟨by omega, ?_⟩
    rw [ov_er h1, h2]; rfl
  · refine Or.inl ⟨h3, (sk t n p2, c2), ?_⟩
    rw [ov_ok h1]
    show (if fst9 t n (sk t n p2) = -1 then _ else _) = _
    rw [if_pos h2]
  · refine Or.inr ⟨by omega, ?_⟩
    rw [ov_ok h1]
    show (if fst9 t n (sk t n p2) = -1 then _ else if fst9 t n (sk t n p2) = 59 then _ else er (sk t n p2) 0) = _
    rw [if_neg h2, if_neg h3]
    exact er_eq h4
end FK
