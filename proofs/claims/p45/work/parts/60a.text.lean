/-! texts as both read them: t the bytes (0 to 255), n how many -/
def whF (t : Nat → Int) (n : Nat) (lo hi : Int) : Nat → Nat → Nat
  | 0, a => a
  | f + 1, a => if a < n ∧ lo ≤ t a ∧ t a ≤ hi then whF t n lo hi f (a + 1) else a
/-- as far as bytes from lo to hi go on -/
def wh (t : Nat → Int) (n : Nat) (lo hi : Int) (a : Nat) : Nat := whF t n lo hi (n - a) a
theorem wh_go {t : Nat → Int} {n : Nat} {lo hi : Int} {a : Nat} (h : a < n) (h1 : lo ≤ t a) (h2 : t a ≤ hi) : wh t n lo hi a = wh t n lo hi (a + 1) := by
  unfold wh
  rw [show n - a = (n - (a + 1)) + 1 by omega]
  show (if a < n ∧ lo ≤ t a ∧ t a ≤ hi then _ else _) = _
  rw [if_pos ⟨h, h1, h2⟩]
theorem wh_stop {t : Nat → Int} {n : Nat} {lo hi : Int} {a : Nat} (h : ¬ (a < n ∧ lo ≤ t a ∧ t a ≤ hi)) : wh t n lo hi a = a := by
  unfold wh
  cases e : n - a with
  | zero => rfl
  | succ f =>
    show (if a < n ∧ lo ≤ t a ∧ t a ≤ hi then _ else _) = _
    rw [if_neg h]
theorem wh_le {t : Nat → Int} {n : Nat} {lo hi : Int} : ∀ (f a : Nat), n - a = f → (a ≤ wh t n lo hi a ∧ (a ≤ n → wh t n lo hi a ≤ n))
  | 0, a, e => by
    rw [wh_stop (by omega)]; omega
  | f + 1, a, e => by
    by_cases h : a < n ∧ lo ≤ t a ∧ t a ≤ hi
    · rw [wh_go h.1 h.2.1 h.2.2]
      have q := wh_le (t := t) (n := n) (lo := lo) (hi := hi) f (a + 1) (by omega)
      omega
    · rw [wh_stop h]; omega
theorem wh_rg (t : Nat → Int) (n : Nat) (lo hi : Int) (a : Nat) : a ≤ wh t n lo hi a ∧ (a ≤ n → wh t n lo hi a ≤ n) := wh_le (n - a) a rfl
def sk (t : Nat → Int) (n a : Nat) : Nat := wh t n 32 32 a
theorem wh_end {t : Nat → Int} {n : Nat} {lo hi : Int} : ∀ (f a : Nat), n - a = f → ¬ (wh t n lo hi a < n ∧ lo ≤ t (wh t n lo hi a) ∧ t (wh t n lo hi a) ≤ hi)
  | 0, a, e => by
    rw [wh_stop (by omega)]; omega
  | f + 1, a, e => by
    by_cases h : a < n ∧ lo ≤ t a ∧ t a ≤ hi
    · rw [wh_go h.1 h.2.1 h.2.2]
      exact wh_end f (a + 1) (by omega)
    · rw [wh_stop h]; exact h
theorem wh_wh (t : Nat → Int) (n : Nat) (lo hi : Int) (a : Nat) : wh t n lo hi (wh t n lo hi a) = wh t n lo hi a := wh_stop (wh_end (n - a) a rfl)
def fst9 (t : Nat → Int) (n a : Nat) : Int := if a < n then t a else -1
def stp (t : Nat → Int) (n a : Nat) : Nat :=
  if a < n then
    (if t a = 60 ∨ t a = 62 then (if a + 1 < n ∧ t (a + 1) = 61 then a + 2 else a + 1)
     else if 97 ≤ t a ∧ t a ≤ 122 then wh t n 97 122 (a + 1) else if 48 ≤ t a ∧ t a ≤ 57 then wh t n 48 57 (a + 1) else a + 1)
  else n
def nx (t : Nat → Int) (n a : Nat) : Nat := sk t n (stp t n a)
theorem stp_rg {t : Nat → Int} {n a : Nat} (h : a < n) : a + 1 ≤ stp t n a ∧ stp t n a ≤ n := by
  unfold stp
  rw [if_pos h]
  have q1 := wh_rg t n 97 122 (a + 1)
  have q2 := wh_rg t n 48 57 (a + 1)
  by_cases c1 : t a = 60 ∨ t a = 62
  · rw [if_pos c1]
    by_cases c2 : a + 1 < n ∧ t (a + 1) = 61
    · rw [if_pos c2]; omega
    · rw [if_neg c2]; omega
  · rw [if_neg c1]
    by_cases c3 : 97 ≤ t a ∧ t a ≤ 122
    · rw [if_pos c3]; omega
    · rw [if_neg c3]
      by_cases c4 : 48 ≤ t a ∧ t a ≤ 57
      · rw [if_pos c4]; omega
      · rw [if_neg c4]; omega
/-- the class's tape: the text, and what stands next -/
def Tx (M : zM) (t : Nat → Int) (n : Nat) : Prop := M 7 1 = n ∧ ∀ j : Nat, j < n → M 8 j = t j
def Tc (M : zM) (t : Nat → Int) (n a : Nat) : Prop := Tx M t n ∧ a ≤ n ∧ sk t n a = a ∧ M 7 2 = a ∧ M 7 3 = stp t n a ∧ M 7 4 = fst9 t n a
/-- the reference's tape -/
def Ty (M : zM) (t : Nat → Int) (n : Nat) : Prop := M 229 37 = n ∧ ∀ j : Nat, j < n → (M (229 + 37) j) % 256 = t j
theorem Tx.frame {M M' : zM} {t : Nat → Int} {n : Nat} (h : Tx M t n) (f : ∀ c j : Nat, ((c = 7 ∧ j = 1) ∨ c = 8) → M' c j = M c j) : Tx M' t n :=
  ⟨by rw [f 7 1 (by omega)]; exact h.1, fun j hj => by rw [f 8 j (by omega)]; exact h.2 j hj⟩
theorem Tc.frame {M M' : zM} {t : Nat → Int} {n a : Nat} (h : Tc M t n a) (f : ∀ c j : Nat, ((c = 7 ∧ (j = 1 ∨ j = 2 ∨ j = 3 ∨ j = 4)) ∨ c = 8) → M' c j = M c j) : Tc M' t n a := by
  obtain ⟨h1, h2, h3, h4, h5, h6⟩ := h
  exact ⟨h1.frame (fun c j q => f c j (by omega)), h2, h3, by rw [f 7 2 (by omega)]; exact h4, by rw [f 7 3 (by omega)]; exact h5, by rw [f 7 4 (by omega)]; exact h6⟩
theorem Ty.frame {M M' : zM} {t : Nat → Int} {n : Nat} (h : Ty M t n) (f : ∀ c j : Nat, ((c = 229 ∧ j = 37) ∨ c = 229 + 37) → M' c j = M c j) : Ty M' t n :=
  ⟨by rw [f 229 37 (by omega)]; exact h.1, fun j hj => by rw [f (229 + 37) j (by omega)]; exact h.2 j hj⟩
/-- a word stands at a place -/
def mt (t : Nat → Int) : Nat → List Int → Bool
  | _, [] => true
  | a, x :: w => (t a == x) && mt t (a + 1) w
def isw (t : Nat → Int) (n a : Nat) (w : List Int) : Bool := (stp t n a == a + w.length) && mt t a w
/-- which one of words stands there -/
def wix (t : Nat → Int) (n a : Nat) : List (List Int) → Nat → Int
  | [], _ => -1
  | w :: l, k => if isw t n a w then (k : Int) else wix t n a l (k + 1)
def dig (t : Nat → Int) (n a : Nat) : Bool := decide (48 ≤ fst9 t n a ∧ fst9 t n a ≤ 57)
def wVal : List (List Int) := [[108, 111, 103], [119, 111, 111, 100], [108, 101, 110, 103, 116, 104], [114, 105, 110, 103, 115], [98, 101, 110, 100], [118, 105, 108, 108, 97, 103, 101], [111, 119, 110, 101, 114], [102, 101, 108, 108, 101, 100], [108, 97, 115, 116], [110, 111, 116, 99, 104, 101, 115], [114, 111, 111, 109], [119, 97, 116, 101, 114], [100, 97, 121]]
def wAct : List (List Int) := [[106, 97, 109], [116, 97, 107, 101], [97, 100, 100], [101, 108, 101, 99, 116], [109, 105, 110, 101]]
def wNot : List Int := [110, 111, 116]
def wAnd : List Int := [97, 110, 100]
def wOr : List Int := [111, 114]
def wIf : List Int := [105, 102]
/-! what reading gives: a place and how many items, or the FAULT -/
abbrev Po : Type := Except Int (Nat × Int)
def bd (x : Po) (f : Nat × Int → Po) : Po := match x with
  | .error e => .error e
  | .ok q => f q
def er (a : Nat) (k : Int) : Po := .error (1 + 8 * (a : Int) + k)
theorem er_eq {a : Nat} {k f : Int} (h : f = 1 + 8 * (a : Int) + k) : er a k = .error f := by rw [h]; rfl
theorem bd_assoc (x : Po) (f g : Nat × Int → Po) : bd (bd x f) g = bd x (fun q => bd (f q) g) := by
  cases x <;> rfl
theorem bd_ok (q : Nat × Int) (f : Nat × Int → Po) : bd (.ok q) f = f q := rfl
theorem bd_er (e : Int) (f : Nat × Int → Po) : bd (.error e) f = .error e := rfl
theorem bd_pure (x : Po) : bd x .ok = x := by cases x <;> rfl
theorem bd_congr {x : Po} {f g : Nat × Int → Po} (h : ∀ q, x = .ok q → f q = g q) : bd x f = bd x g := by
  cases x with
  | error e => rfl
  | ok q => exact h q rfl
theorem bd_some {x : Po} {f : Nat × Int → Po} {r : Nat × Int} (h : bd x f = .ok r) : ∃ q, x = .ok q ∧ f q = .ok r := by
  cases x with
  | error e => cases h
  | ok q => exact ⟨q, rfl, h⟩
def Vf (t : Nat → Int) (n a : Nat) (c : Int) : Po :=
  if dig t n a then (if a + 5 < stp t n a then er a 1 else if 60 ≤ c then er a 3 else .ok (nx t n a, c + 1))
  else if wix t n a wVal 0 = -1 then er a 0 else if 60 ≤ c then er a 3 else .ok (nx t n a, c + 1)
def opS (z : Int) : Bool := z == 42 || z == 47 || z == 37 || z == 43 || z == 45
def Sf (t : Nat → Int) (n : Nat) : Nat → Nat → Int → Po
  | 0, a, _ => er a 0
  | f + 1, a, c => bd (Vf t n a c) (fun q => if opS (fst9 t n q.1) then Sf t n f (nx t n q.1) q.2 else .ok q)
def Cs9 (t : Nat → Int) (n : Nat) (q : Nat × Int) : Po := if fst9 t n q.1 = 60 ∨ fst9 t n q.1 = 61 ∨ fst9 t n q.1 = 62 then (if 60 ≤ q.2 then er q.1 3 else Sf t n 61 (nx t n q.1) (q.2 + 1)) else er q.1 0
def Cf (t : Nat → Int) (n a : Nat) (c : Int) : Po := bd (Sf t n 61 a c) (Cs9 t n)
/-- a TEST out of FACTS: and, or -/
def jn (t : Nat → Int) (n a : Nat) : Bool := isw t n a wAnd || isw t n a wOr
def Tl (t : Nat → Int) (n : Nat) (F : Nat → Int → Po) : Nat → Nat → Int → Po
  | 0, a, _ => er a 0
  | f + 1, a, c => bd (F a c) (fun q => if jn t n q.1 then Tl t n F f (nx t n q.1) q.2 else .ok q)
/-- a bracket's end -/
def Be (t : Nat → Int) (n : Nat) (q : Nat × Int) : Po := if fst9 t n q.1 = 93 then .ok (nx t n q.1, q.2) else er q.1 0
/-- a FACT, k deep at most -/
def Ff (t : Nat → Int) (n : Nat) : Nat → Nat → Int → Po
  | 0, a, c => if fst9 t n a = 91 ∨ isw t n a wNot then er a 2 else Cf t n a c
  | k + 1, a, c =>
    if fst9 t n a = 91 then bd (Tl t n (Ff t n k) 60 (nx t n a) c) (Be t n)
    else if isw t n a wNot then Ff t n k (nx t n a) c else Cf t n a c
def Tf (t : Nat → Int) (n k a : Nat) (c : Int) : Po := Tl t n (Ff t n k) 60 a c
/-! what these functions do: items grow, 60 at most; as many turns as one likes -/
section TXT
variable {t : Nat → Int} {n : Nat}
theorem Vf_some {a a' : Nat} {c c' : Int} (h : Vf t n a c = .ok (a', c')) : c' = c + 1 ∧ c < 60 ∧ a' = nx t n a := by
  unfold Vf at h
  by_cases d : dig t n a
  · rw [if_pos d] at h
    by_cases s : a + 5 < stp t n a
    · rw [if_pos s] at h; cases h
    · rw [if_neg s] at h
      by_cases q : 60 ≤ c
      · rw [if_pos q] at h; cases h
      · rw [if_neg q] at h; cases h; exact ⟨rfl, by omega, rfl⟩
  · rw [if_neg d] at h
    by_cases s : wix t n a wVal 0 = -1
    · rw [if_pos s] at h; cases h
    · rw [if_neg s] at h
      by_cases q : 60 ≤ c
      · rw [if_pos q] at h; cases h
      · rw [if_neg q] at h; cases h; exact ⟨rfl, by omega, rfl⟩
theorem Sf_go (f a : Nat) (c : Int) : Sf t n (f + 1) a c = bd (Vf t n a c) (fun q => if opS (fst9 t n q.1) then Sf t n f (nx t n q.1) q.2 else .ok q) := rfl
theorem Sf_some : ∀ (f a a' : Nat) (c c' : Int), Sf t n f a c = .ok (a', c') → (c + 1 ≤ c' ∧ c' ≤ 60)
  | 0, _, _, _, _, h => by cases h
  | f + 1, a, a', c, c', h => by
    rw [Sf_go] at h
    obtain ⟨⟨q1, q2⟩, e, h⟩ := bd_some h
    have v := Vf_some e
    simp only at h
    by_cases o : opS (fst9 t n q1)
    · rw [if_pos o] at h
      have := Sf_some f _ _ _ _ h
      omega
    · rw [if_neg o] at h
      cases h
      omega
theorem Sf_more : ∀ (f a : Nat) (c : Int), 61 ≤ f + c → c ≤ 60 → Sf t n (f + 1) a c = Sf t n f a c
  | 0, a, c, h, h2 => by omega
  | f + 1, a, c, h, h2 => by
    rw [Sf_go (f + 1), Sf_go f]
    refine bd_congr (fun q e => ?_)
    have v := Vf_some (a' := q.1) (c' := q.2) e
    rw [Sf_more f (nx t n q.1) q.2 (by omega) (by omega)]
/-- a SUM -/
def Sg (t : Nat → Int) (n : Nat) (q : Nat × Int) : Po := Sf t n 61 q.1 q.2
def So (t : Nat → Int) (n : Nat) (q : Nat × Int) : Po := if opS (fst9 t n q.1) then Sg t n (nx t n q.1, q.2) else .ok q
def Vg (t : Nat → Int) (n : Nat) (q : Nat × Int) : Po := Vf t n q.1 q.2
theorem Sg_eq {q : Nat × Int} (h : 0 ≤ q.2) : Sg t n q = bd (Vg t n q) (So t n) := by
  unfold Sg Vg
  rw [show (61 : Nat) = 60 + 1 from rfl, Sf_go]
  refine bd_congr (fun p e => ?_)
  have v := Vf_some (a' := p.1) (c' := p.2) e
  unfold So Sg
  show _ = (if opS (fst9 t n p.1) then Sf t n (60 + 1) (nx t n p.1) p.2 else _)
  rw [Sf_more 60 (nx t n p.1) p.2 (by omega) (by omega)]
theorem Sg_some {q r : Nat × Int} (h : Sg t n q = .ok r) : q.2 + 1 ≤ r.2 ∧ r.2 ≤ 60 := Sf_some _ _ _ _ _ h
theorem Cf_some {a a' : Nat} {c c' : Int} (h : Cf t n a c = .ok (a', c')) : c + 3 ≤ c' ∧ c' ≤ 60 := by
  unfold Cf at h
  obtain ⟨⟨q1, q2⟩, e, h⟩ := bd_some h
  have v := Sf_some _ _ _ _ _ e
  unfold Cs9 at h
  simp only at h
  by_cases o : fst9 t n q1 = 60 ∨ fst9 t n q1 = 61 ∨ fst9 t n q1 = 62
  · rw [if_pos o] at h
    by_cases p : 60 ≤ q2
    · rw [if_pos p] at h; cases h
    · rw [if_neg p] at h
      have := Sf_some _ _ _ _ _ h
      omega
  · rw [if_neg o] at h; cases h
def Gr (F : Nat → Int → Po) : Prop := ∀ a c a' c', F a c = .ok (a', c') → (c + 3 ≤ c' ∧ c' ≤ 60)
theorem Tl_go (F : Nat → Int → Po) (f a : Nat) (c : Int) : Tl t n F (f + 1) a c = bd (F a c) (fun q => if jn t n q.1 then Tl t n F f (nx t n q.1) q.2 else .ok q) := rfl
theorem Tl_some {F : Nat → Int → Po} (g : Gr F) : ∀ (f a a' : Nat) (c c' : Int), Tl t n F f a c = .ok (a', c') → (c + 3 ≤ c' ∧ c' ≤ 60)
  | 0, _, _, _, _, h => by cases h
  | f + 1, a, a', c, c', h => by
    rw [Tl_go] at h
    obtain ⟨⟨q1, q2⟩, e, h⟩ := bd_some h
    have v := g _ _ _ _ e
    simp only at h
    by_cases o : jn t n q1
    · rw [if_pos o] at h
      have := Tl_some g f _ _ _ _ h
      omega
    · rw [if_neg o] at h
      cases h
      omega
theorem Tl_more {F : Nat → Int → Po} (g : Gr F) : ∀ (f a : Nat) (c : Int), 61 ≤ 3 * f + c → c ≤ 60 → Tl t n F (f + 1) a c = Tl t n F f a c
  | 0, a, c, h, h2 => by omega
  | f + 1, a, c, h, h2 => by
    rw [Tl_go F (f + 1), Tl_go F f]
    refine bd_congr (fun q e => ?_)
    have v := g _ _ q.1 q.2 e
    rw [Tl_more g f (nx t n q.1) q.2 (by omega) (by omega)]
theorem Ff_gr : ∀ k : Nat, Gr (Ff t n k)
  | 0 => by
    intro a c a' c' h
    have h : (if fst9 t n a = 91 ∨ isw t n a wNot then er a 2 else Cf t n a c) = .ok (a', c') := h
    by_cases o : fst9 t n a = 91 ∨ isw t n a wNot
    · rw [if_pos o] at h; cases h
    · rw [if_neg o] at h; exact Cf_some h
  | k + 1 => by
    have g := Ff_gr k
    intro a c a' c' h
    have h : (if fst9 t n a = 91 then bd (Tl t n (Ff t n k) 60 (nx t n a) c) (Be t n) else if isw t n a wNot then Ff t n k (nx t n a) c else Cf t n a c) = .ok (a', c') := h
    by_cases o : fst9 t n a = 91
    · rw [if_pos o] at h
      obtain ⟨⟨q1, q2⟩, e, h⟩ := bd_some h
      have v := Tl_some g _ _ _ _ _ e
      unfold Be at h
      simp only at h
      by_cases p : fst9 t n q1 = 93
      · rw [if_pos p] at h; cases h; exact v
      · rw [if_neg p] at h; cases h
    · rw [if_neg o] at h
      by_cases p : isw t n a wNot
      · rw [if_pos p] at h; exact g _ _ _ _ h
      · rw [if_neg p] at h; exact Cf_some h
def Tt (t : Nat → Int) (n k : Nat) (q : Nat × Int) : Po := if jn t n q.1 then Tf t n k (nx t n q.1) q.2 else .ok q
theorem Tf_eq {k a : Nat} {c : Int} (h : 0 ≤ c) : Tf t n k a c = bd (Ff t n k a c) (Tt t n k) := by
  unfold Tf
  rw [show (60 : Nat) = 59 + 1 from rfl, Tl_go]
  refine bd_congr (fun q e => ?_)
  have v := (Ff_gr k) _ _ q.1 q.2 e
  unfold Tt Tf
  show _ = (if jn t n q.1 then Tl t n (Ff t n k) (59 + 1) (nx t n q.1) q.2 else _)
  rw [Tl_more (Ff_gr k) 59 (nx t n q.1) q.2 (by omega) (by omega)]
/-- what is open, as the reference holds it: how deep, and what is still to come -/
def dpO (r : Nat → Int) : Nat → Nat
  | 0 => 0
  | o + 1 => dpO r o + (if r o = 9 ∨ r o = 12 then 1 else 0)
def Kn (t : Nat → Int) (n : Nat) (r : Nat → Int) : Nat → Nat × Int → Po
  | 0, q => Tt t n 10 q
  | o + 1, q => if r o = 12 then bd (Tt t n (10 - dpO r (o + 1)) q) (fun p => bd (Be t n p) (Kn t n r o)) else Kn t n r o q
def Kw (t : Nat → Int) (n : Nat) (r : Nat → Int) (o : Nat) (q : Nat × Int) : Po := bd (Ff t n (10 - dpO r o) q.1 q.2) (Kn t n r o)
theorem dpO_same {r r' : Nat → Int} : ∀ o : Nat, (∀ j : Nat, j < o → r' j = r j) → dpO r' o = dpO r o
  | 0, _ => rfl
  | o + 1, h => by
    show dpO r' o + _ = dpO r o + _
    rw [dpO_same o (fun j hj => h j (by omega)), h o (by omega)]
theorem Kn_same {r r' : Nat → Int} : ∀ o : Nat, (∀ j : Nat, j < o → r' j = r j) → Kn t n r' o = Kn t n r o
  | 0, _ => rfl
  | o + 1, h => by
    funext q
    show (if r' o = 12 then bd (Tt t n (10 - dpO r' (o + 1)) q) (fun p => bd (Be t n p) (Kn t n r' o)) else Kn t n r' o q) = (if r o = 12 then bd (Tt t n (10 - dpO r (o + 1)) q) (fun p => bd (Be t n p) (Kn t n r o)) else Kn t n r o q)
    rw [h o (by omega), dpO_same (o + 1) h, Kn_same o (fun j hj => h j (by omega))]
end TXT
/-! one turn of the reference's reading of a TEST leaves what is still to come as it was -/
section KST
variable {t : Nat → Int} {n : Nat}
theorem Ff_not {k a : Nat} {c : Int} (h : fst9 t n a ≠ 91) (h1 : isw t n a wNot = true) : Ff t n (k + 1) a c = Ff t n k (nx t n a) c := by
  show (if fst9 t n a = 91 then _ else if isw t n a wNot then _ else _) = _
  rw [if_neg h, if_pos h1]
theorem Ff_br {k a : Nat} {c : Int} (h : fst9 t n a = 91) : Ff t n (k + 1) a c = bd (Tf t n k (nx t n a) c) (Be t n) := by
  show (if fst9 t n a = 91 then bd (Tl t n (Ff t n k) 60 (nx t n a) c) (Be t n) else _) = _
  rw [if_pos h]
  rfl
theorem Ff_cmp {k a : Nat} {c : Int} (h : fst9 t n a ≠ 91) (h1 : ¬ isw t n a wNot = true) : Ff t n k a c = Cf t n a c := by
  cases k with
  | zero =>
    show (if fst9 t n a = 91 ∨ isw t n a wNot then er a 2 else _) = _
    rw [if_neg (by intro q; rcases q with q | q; exact h q; exact h1 q)]
  | succ k =>
    show (if fst9 t n a = 91 then _ else if isw t n a wNot then _ else _) = _
    rw [if_neg h, if_neg h1]
theorem Ff_deep {a : Nat} {c : Int} (h : fst9 t n a = 91 ∨ isw t n a wNot = true) : Ff t n 0 a c = er a 2 := by
  show (if fst9 t n a = 91 ∨ isw t n a wNot then er a 2 else _) = _
  rw [if_pos h]
/-- 'not' is opened -/
theorem Kw_not {r r' : Nat → Int} {o a : Nat} {c : Int} (hr : ∀ j : Nat, j < o → r' j = r j) (ho : r' o = 9) (hd : dpO r o < 10) (h : fst9 t n a ≠ 91) (h1 : isw t n a wNot = true) : Kw t n r' (o + 1) (nx t n a, c) = Kw t n r o (a, c) := by
  have d : dpO r' (o + 1) = dpO r o + 1 := by
    show dpO r' o + _ = _
    rw [if_pos (Or.inl ho), dpO_same o hr]
  have e : Kn t n r' (o + 1) = Kn t n r o := by
    funext q
    show (if r' o = 12 then _ else Kn t n r' o q) = _
    rw [if_neg (by omega), Kn_same o hr]
  unfold Kw
  rw [e, d, show 10 - dpO r o = (10 - (dpO r o + 1)) + 1 by omega]
  show _ = bd (Ff t n (10 - (dpO r o + 1) + 1) a c) _
  rw [Ff_not h h1]
/-- a bracket is opened -/
theorem Kw_br {r r' : Nat → Int} {o a : Nat} {c : Int} (h0 : 0 ≤ c) (hr : ∀ j : Nat, j < o → r' j = r j) (ho : r' o = 12) (hd : dpO r o < 10) (h : fst9 t n a = 91) : Kw t n r' (o + 1) (nx t n a, c) = Kw t n r o (a, c) := by
  have d : dpO r' (o + 1) = dpO r o + 1 := by
    show dpO r' o + _ = _
    rw [if_pos (Or.inr ho), dpO_same o hr]
  have e : Kn t n r' (o + 1) = fun q => bd (Tt t n (10 - (dpO r o + 1)) q) (fun p => bd (Be t n p) (Kn t n r o)) := by
    funext q
    show (if r' o = 12 then bd (Tt t n (10 - dpO r' (o + 1)) q) (fun p => bd (Be t n p) (Kn t n r' o)) else _) = _
    rw [if_pos ho, d, Kn_same o hr]
  unfold Kw
  rw [e, d, show 10 - dpO r o = (10 - (dpO r o + 1)) + 1 by omega]
  show bd (Ff t n (10 - (dpO r o + 1)) (nx t n a) c) _ = bd (Ff t n (10 - (dpO r o + 1) + 1) a c) _
  rw [Ff_br h, Tf_eq h0, bd_assoc, bd_assoc]
/-- what is on top (not a bracket) is answered -/
theorem Kn_pop {r : Nat → Int} {o : Nat} (h : r o ≠ 12) : Kn t n r (o + 1) = Kn t n r o := by
  funext q
  show (if r o = 12 then _ else _) = _
  rw [if_neg h]
/-- and, or: nothing of 'not' waits above the last bracket -/
def Sg9 (r : Nat → Int) : Nat → Prop
  | 0 => True
  | o + 1 => r o = 12 ∨ (r o ≠ 9 ∧ Sg9 r o)
theorem Kn_jn {r : Nat → Int} {a : Nat} {c : Int} (h0 : 0 ≤ c) (hj : jn t n a = true) : ∀ o : Nat, Sg9 r o → Kn t n r o (a, c) = bd (Ff t n (10 - dpO r o) (nx t n a) c) (Kn t n r o)
  | 0, _ => by
    show Tt t n 10 (a, c) = bd (Ff t n 10 (nx t n a) c) (Tt t n 10)
    rw [← Tf_eq h0]
    unfold Tt
    rw [if_pos hj]
  | o + 1, hs => by
    by_cases h : r o = 12
    · have e : Kn t n r (o + 1) = fun q => bd (Tt t n (10 - dpO r (o + 1)) q) (fun p => bd (Be t n p) (Kn t n r o)) := by
        funext q
        show (if r o = 12 then _ else _) = _
        rw [if_pos h]
      rw [e]
      show bd (Tt t n (10 - dpO r (o + 1)) (a, c)) _ = _
      show bd (Tt t n (10 - dpO r (o + 1)) (a, c)) (fun p => bd (Be t n p) (Kn t n r o)) = bd (Ff t n (10 - dpO r (o + 1)) (nx t n a) c) (fun q => bd (Tt t n (10 - dpO r (o + 1)) q) (fun p => bd (Be t n p) (Kn t n r o)))
      rw [← bd_assoc (Ff t n (10 - dpO r (o + 1)) (nx t n a) c) (Tt t n (10 - dpO r (o + 1))), ← Tf_eq h0]
      congr 1
      show (if jn t n a then Tf t n (10 - dpO r (o + 1)) (nx t n a) c else _) = _
      rw [if_pos hj]
    · have hs2 : r o ≠ 9 ∧ Sg9 r o := hs.resolve_left h
      have d : dpO r (o + 1) = dpO r o := by
        show dpO r o + _ = _
        rw [if_neg (by intro q; rcases q with q | q; exact hs2.1 q; exact h q)]; omega
      rw [Kn_pop h, d]
      exact Kn_jn h0 hj o hs2.2
theorem Kn_push {r r' : Nat → Int} {o a : Nat} {c : Int} (h0 : 0 ≤ c) (hj : jn t n a = true) (hs : Sg9 r o) (hr : ∀ j : Nat, j < o → r' j = r j) (ho : r' o = 10 ∨ r' o = 11) : Kw t n r' (o + 1) (nx t n a, c) = Kn t n r o (a, c) := by
  have d : dpO r' (o + 1) = dpO r o := by
    show dpO r' o + _ = _
    rw [if_neg (by omega), dpO_same o hr]; omega
  have e : Kn t n r' (o + 1) = Kn t n r o := by
    rw [Kn_pop (by omega), Kn_same o hr]
  unfold Kw
  rw [e, d]
  exact (Kn_jn h0 hj o hs).symm
/-- a bracket's end is wanted -/
theorem Kn_end {r : Nat → Int} {o a : Nat} {c : Int} (h : r o = 12) (hj : ¬ jn t n a = true) : Kn t n r (o + 1) (a, c) = bd (Be t n (a, c)) (Kn t n r o) := by
  show (if r o = 12 then bd (Tt t n (10 - dpO r (o + 1)) (a, c)) (fun p => bd (Be t n p) (Kn t n r o)) else _) = _
  rw [if_pos h]
  unfold Tt
  rw [if_neg hj]
  rfl
theorem Kn_done {r : Nat → Int} {a : Nat} {c : Int} (hj : ¬ jn t n a = true) : Kn t n r 0 (a, c) = .ok (a, c) := by
  show Tt t n 10 (a, c) = _
  unfold Tt
  rw [if_neg hj]
theorem Kw_start {r : Nat → Int} {a : Nat} {c : Int} (h0 : 0 ≤ c) : Kw t n r 0 (a, c) = Tf t n 10 a c := by
  unfold Kw
  show bd (Ff t n 10 a c) (Tt t n 10) = _
  rw [← Tf_eq h0]
theorem Kw_cmp {r : Nat → Int} {o a : Nat} {c : Int} (h : fst9 t n a ≠ 91) (h1 : ¬ isw t n a wNot = true) : Kw t n r o (a, c) = bd (Cf t n a c) (Kn t n r o) := by
  unfold Kw
  show bd (Ff t n (10 - dpO r o) a c) _ = _
  rw [Ff_cmp h h1]
theorem Kw_deep {r : Nat → Int} {o a : Nat} {c : Int} (hd : 10 ≤ dpO r o) (h : fst9 t n a = 91 ∨ isw t n a wNot = true) : Kw t n r o (a, c) = er a 2 := by
  unfold Kw
  show bd (Ff t n (10 - dpO r o) a c) _ = _
  rw [show 10 - dpO r o = 0 by omega, Ff_deep h]; rfl
end KST
/-- a whole RULE: CLAUSES, m of them so far -/
def Rt (t : Nat → Int) (n : Nat) (k : Int) (q : Nat × Int) : Po := if k < 3 ∨ isw t n q.1 wIf = true then Tf t n 10 (if k < 3 then q.1 else nx t n q.1) q.2 else .ok q
def Rs (t : Nat → Int) (n : Nat) (k : Int) (q : Nat × Int) : Po := if k < 3 then .ok q else Sg t n q
/-- one CLAUSE -/
def Rc (t : Nat → Int) (n : Nat) (m : Int) (q : Nat × Int) : Po :=
  if wix t n q.1 wAct 0 = -1 then er q.1 0 else if m = 12 then er q.1 4 else bd (Rs t n (wix t n q.1 wAct 0) (nx t n q.1, q.2)) (Rt t n (wix t n q.1 wAct 0))
def Rl9 (t : Nat → Int) (n : Nat) : Nat → Int → Nat × Int → Po
  | 0, _, q => er q.1 0
  | f + 1, m, q => bd (Rc t n m q) (fun p => if fst9 t n p.1 = -1 then .ok p else if fst9 t n p.1 = 59 then Rl9 t n f (m + 1) (nx t n p.1, p.2) else er p.1 0)
def Rule9 (t : Nat → Int) (n : Nat) : Po := Rl9 t n 13 0 (sk t n 0, 0)
