/-! RIVERS as both read them: a place or the FAULT; what was told so far: bends, villages, woods, logs, toll told (0, 1) -/
abbrev Pp9 : Type := Except Int Nat
abbrev Sv : Type := Int × Int × Int × Int × Int
abbrev Pr9 : Type := Except Int (Nat × Sv)
def wRiv : List (List Int) := [[114, 105, 118, 101, 114], [118, 105, 108, 108, 97, 103, 101], [119, 105, 100, 116, 104], [119, 111, 111, 100], [108, 111, 103], [116, 111, 108, 108]]
def bn (x : Pp9) (f : Nat → Pp9) : Pp9 := match x with
  | .error e => .error e
  | .ok a => f a
def oa (f : Int) (a : Nat) : Pp9 := if f = 0 then .ok a else .error f
/-- a NUMBER from lo to hi -/
def Am (t : Nat → Int) (n : Nat) (lo hi : Int) (a : Nat) : Pp9 :=
  if dig t n a then (if a + 5 < stp t n a then .error (1 + 8 * (a : Int) + 1) else if lo ≤ nv t a (stp t n a - a) ∧ nv t a (stp t n a - a) ≤ hi then .ok (nx t n a) else .error (1 + 8 * (a : Int) + 1)) else .error (1 + 8 * (a : Int) + 0)
/-- what a CLAUSE of a kind wants behind its word; b BENDS, v VILLAGES, w WOODS were told -/
def Rp9 (t : Nat → Int) (n : Nat) (k b v w : Int) (a : Nat) : Pp9 :=
  if k = 0 then Am t n 2 9 a else if k = 1 then Am t n 0 (b - 1) a else if k = 2 then bn (Am t n 0 (b - 1) a) (Am t n 1 9) else if k = 3 then Am t n 1 99 a
  else if k = 4 then bn (bn (bn (Am t n 0 (w - 1) a) (Am t n 1 99)) (Am t n 1 99)) (Am t n 0 (v - 1)) else Am t n 0 9 a
/-- what is told then; x the first NUMBER -/
def up9 (x k : Int) (s : Sv) : Sv := (if k = 0 then x else s.1, if k = 1 then s.2.1 + 1 else s.2.1, if k = 3 then s.2.2.1 + 1 else s.2.2.1, if k = 4 then s.2.2.2.1 + 1 else s.2.2.2.1, if k = 5 then 1 else s.2.2.2.2)
abbrev Fu9 (k m : Int) (s : Sv) : Prop := m = 40 ∨ (k = 0 ∧ m ≠ 0) ∨ (k ≠ 0 ∧ m = 0) ∨ (k = 1 ∧ s.2.1 = 6) ∨ (k = 3 ∧ s.2.2.1 = 4) ∨ (k = 4 ∧ s.2.2.2.1 = 12) ∨ (k = 5 ∧ s.2.2.2.2 = 1)
def wp (x : Pp9) (s : Sv) : Pr9 := match x with
  | .error e => .error e
  | .ok a => .ok (a, s)
/-- one CLAUSE, the m-th -/
def Rq9 (t : Nat → Int) (n : Nat) (m : Int) (q : Nat × Sv) : Pr9 :=
  if wix t n q.1 wRiv 0 = -1 then .error (1 + 8 * (q.1 : Int) + 0) else if Fu9 (wix t n q.1 wRiv 0) m q.2 then .error (1 + 8 * (q.1 : Int) + 4)
  else wp (Rp9 t n (wix t n q.1 wRiv 0) q.2.1 q.2.2.1 q.2.2.2.1 (nx t n q.1)) (up9 (nv t (nx t n q.1) (stp t n (nx t n q.1) - nx t n q.1)) (wix t n q.1 wRiv 0) q.2)
def br9 (x : Pr9) (f : Nat × Sv → Pr9) : Pr9 := match x with
  | .error e => .error e
  | .ok q => f q
def Rv9 (t : Nat → Int) (n : Nat) : Nat → Int → Nat × Sv → Pr9
  | 0, _, q => .error (1 + 8 * (q.1 : Int) + 0)
  | f + 1, m, q => br9 (Rq9 t n m q) (fun p => if fst9 t n p.1 = -1 then .ok p else if fst9 t n p.1 = 59 then Rv9 t n f (m + 1) (nx t n p.1, p.2) else .error (1 + 8 * (p.1 : Int) + 0))
def River9 (t : Nat → Int) (n : Nat) : Pr9 := Rv9 t n 41 0 (sk t n 0, 0, 0, 0, 0, 0)
theorem oa_0 {f : Int} {a : Nat} (h : f = 0) : oa f a = .ok a := by unfold oa; rw [if_pos h]
theorem oa_1 {f : Int} {a : Nat} (h : f ≠ 0) : oa f a = .error f := by unfold oa; rw [if_neg h]
theorem oa_mv {f f' : Int} {a a' : Nat} {o : Pp9} (h : oa f a = o) (e : f' = f) (g : a' = a) : oa f' a' = o := by subst e; subst g; exact h
theorem oa_bn {f f' : Int} {a a' : Nat} {F : Nat → Pp9} {o : Pp9} (h : o = bn (oa f a) F) (e : f' = f) (g : a' = a) : o = bn (oa f' a') F := by subst e; subst g; exact h
section AM
variable {t : Nat → Int} {n : Nat}
/-- a FAULT stays -/
theorem oa_stay {f f' : Int} {a a' : Nat} {F : Nat → Pp9} (hf : f ≠ 0) (e : f' = f) : oa f' a' = bn (oa f a) F := by
  subst e; rw [oa_1 hf, oa_1 hf]; rfl
theorem am_ok {f f' lo hi v : Int} {a a' : Nat} (hf : f = 0) (hf' : f' = 0) (hd : 48 ≤ fst9 t n a ∧ fst9 t n a ≤ 57) (hs : ¬ a + 5 < stp t n a) (hv : v = nv t a (stp t n a - a)) (h1 : lo ≤ v) (h2 : v ≤ hi) (ha : a' = nx t n a) : oa f' a' = bn (oa f a) (Am t n lo hi) := by
  subst hv; subst ha
  rw [oa_0 hf, oa_0 hf']
  show _ = Am t n lo hi a
  unfold Am
  rw [if_pos (dig_iff.mpr hd), if_neg hs, if_pos ⟨h1, h2⟩]
theorem am_1 {f f' lo hi : Int} {a a' : Nat} (hf : f = 0) (hd : 48 ≤ fst9 t n a ∧ fst9 t n a ≤ 57) (hs : ¬ a + 5 < stp t n a → ¬ (lo ≤ nv t a (stp t n a - a) ∧ nv t a (stp t n a - a) ≤ hi)) (hf' : f' = 1 + 8 * (a : Int) + 1) : oa f' a' = bn (oa f a) (Am t n lo hi) := by
  rw [oa_0 hf, oa_1 (by omega), hf']
  show _ = Am t n lo hi a
  unfold Am
  rw [if_pos (dig_iff.mpr hd)]
  by_cases c : a + 5 < stp t n a
  · rw [if_pos c]
  · rw [if_neg c, if_neg (hs c)]
theorem am_0 {f f' lo hi : Int} {a a' : Nat} (hf : f = 0) (hd : ¬ (48 ≤ fst9 t n a ∧ fst9 t n a ≤ 57)) (hf' : f' = 1 + 8 * (a : Int) + 0) : oa f' a' = bn (oa f a) (Am t n lo hi) := by
  rw [oa_0 hf, oa_1 (by omega), hf']
  show _ = Am t n lo hi a
  unfold Am
  rw [if_neg (fun q => hd (dig_iff.mp q))]
/-- digits that were read with a FAULT -/
theorem am_df {f f' lo hi p z : Int} {a a' : Nat} (hf : f = 0) (hf' : f' ≠ 0) (D : (¬ (48 ≤ fst9 t n a ∧ fst9 t n a ≤ 57) ∧ p = a ∧ (f = 0 → f' = 1 + 8 * (a : Int))) ∨ ((48 ≤ fst9 t n a ∧ fst9 t n a ≤ 57) ∧ p = stp t n a ∧ (f = 0 → ((a + 5 < stp t n a ∧ f' = 1 + 8 * (a : Int) + 1) ∨ (stp t n a ≤ a + 5 ∧ f' = 0 ∧ z = nv t a (stp t n a - a)))))) : oa f' a' = bn (oa f a) (Am t n lo hi) := by
  rcases D with ⟨d1, _, d3⟩ | ⟨d1, _, d3⟩
  · exact am_0 hf d1 (by have := d3 hf; omega)
  · exact am_1 hf d1 (fun c => by have := d3 hf; omega) (by have := d3 hf; omega)
theorem am_dk {f f' p z : Int} {a : Nat} (hf : f = 0) (hf' : f' = 0) (D : (¬ (48 ≤ fst9 t n a ∧ fst9 t n a ≤ 57) ∧ p = a ∧ (f = 0 → f' = 1 + 8 * (a : Int))) ∨ ((48 ≤ fst9 t n a ∧ fst9 t n a ≤ 57) ∧ p = stp t n a ∧ (f = 0 → ((a + 5 < stp t n a ∧ f' = 1 + 8 * (a : Int) + 1) ∨ (stp t n a ≤ a + 5 ∧ f' = 0 ∧ z = nv t a (stp t n a - a)))))) : (48 ≤ fst9 t n a ∧ fst9 t n a ≤ 57) ∧ p = stp t n a ∧ ¬ a + 5 < stp t n a ∧ z = nv t a (stp t n a - a) := by
  rcases D with ⟨_, _, d3⟩ | ⟨d1, d2, d3⟩
  · have := d3 hf; omega
  · have := d3 hf; exact ⟨d1, d2, by omega, by omega⟩
/-! CLAUSES of a RIVER, by their kinds -/
theorem rp_0 {f0 f1 f k b v w : Int} {a q1 q : Nat} (hf : f0 = 0) (hk : k = 0) (e1 : oa f1 q1 = bn (oa f0 a) (Am t n 2 9)) (x1 : f = f1) (y1 : q = q1) : oa f q = Rp9 t n k b v w a := by
  subst x1; subst y1; rw [e1, oa_0 hf]; unfold Rp9; rw [if_pos hk]; rfl
theorem rp_1 {f0 f1 f k b v w h1 : Int} {a q1 q : Nat} (hf : f0 = 0) (hk : k = 1) (e1 : oa f1 q1 = bn (oa f0 a) (Am t n 0 h1)) (x1 : f = f1) (y1 : q = q1) (g : h1 = b - 1) : oa f q = Rp9 t n k b v w a := by
  subst x1; subst y1; subst g; rw [e1, oa_0 hf]; unfold Rp9; rw [if_neg (by omega), if_pos hk]; rfl
theorem rp_2 {f0 f1 f1' f2 f k b v w h1 : Int} {a q1 q1' q2 q : Nat} (hf : f0 = 0) (hk : k = 2) (e1 : oa f1 q1 = bn (oa f0 a) (Am t n 0 h1)) (e2 : oa f2 q2 = bn (oa f1' q1') (Am t n 1 9)) (x1 : f1' = f1) (y1 : q1' = q1) (x2 : f = f2) (y2 : q = q2) (g : h1 = b - 1) : oa f q = Rp9 t n k b v w a := by
  subst x1; subst y1; subst x2; subst y2; subst g; rw [e2, e1, oa_0 hf]; unfold Rp9; rw [if_neg (by omega), if_neg (by omega), if_pos hk]; rfl
theorem rp_3 {f0 f1 f k b v w : Int} {a q1 q : Nat} (hf : f0 = 0) (hk : k = 3) (e1 : oa f1 q1 = bn (oa f0 a) (Am t n 1 99)) (x1 : f = f1) (y1 : q = q1) : oa f q = Rp9 t n k b v w a := by
  subst x1; subst y1; rw [e1, oa_0 hf]; unfold Rp9; rw [if_neg (by omega), if_neg (by omega), if_neg (by omega), if_pos hk]; rfl
/-- four NUMBERS, one behind the other -/
def Lg9 (t : Nat → Int) (n : Nat) (v w : Int) (x : Pp9) : Pp9 := bn (bn (bn (bn x (Am t n 0 (w - 1))) (Am t n 1 99)) (Am t n 1 99)) (Am t n 0 (v - 1))
theorem lg_4 {f0 f1 f1' f2 f2' f3 f3' f4 f v w h1 h4 : Int} {a q1 q1' q2 q2' q3 q3' q4 q : Nat} (e1 : oa f1 q1 = bn (oa f0 a) (Am t n 0 h1)) (e2 : oa f2 q2 = bn (oa f1' q1') (Am t n 1 99)) (e3 : oa f3 q3 = bn (oa f2' q2') (Am t n 1 99)) (e4 : oa f4 q4 = bn (oa f3' q3') (Am t n 0 h4))
    (x1 : f1' = f1) (y1 : q1' = q1) (x2 : f2' = f2) (y2 : q2' = q2) (x3 : f3' = f3) (y3 : q3' = q3) (x4 : f = f4) (y4 : q = q4) (g1 : h1 = w - 1) (g4 : h4 = v - 1) : oa f q = Lg9 t n v w (oa f0 a) := by
  subst x1; subst y1; subst x2; subst y2; subst x3; subst y3; subst x4; subst y4; subst g1; subst g4; unfold Lg9; rw [e4, e3, e2, e1]
theorem rp_4 {f0 f1 f k b v w v' w' : Int} {a q1 q : Nat} (hf : f0 = 0) (hk : k = 4) (e1 : oa f1 q1 = Lg9 t n v' w' (oa f0 a)) (x1 : f = f1) (y1 : q = q1) (gv : v' = v) (gw : w' = w) : oa f q = Rp9 t n k b v w a := by
  subst x1; subst y1; subst gv; subst gw; rw [e1, oa_0 hf]; unfold Rp9; rw [if_neg (by omega), if_neg (by omega), if_neg (by omega), if_neg (by omega), if_pos hk]; rfl
theorem rp_5 {f0 f1 f k b v w : Int} {a q1 q : Nat} (hf : f0 = 0) (hk : 5 ≤ k) (e1 : oa f1 q1 = bn (oa f0 a) (Am t n 0 9)) (x1 : f = f1) (y1 : q = q1) : oa f q = Rp9 t n k b v w a := by
  subst x1; subst y1; rw [e1, oa_0 hf]; unfold Rp9; rw [if_neg (by omega), if_neg (by omega), if_neg (by omega), if_neg (by omega), if_neg (by omega)]; rfl
/-- what is told behind a CLAUSE -/
theorem up_eq {x k b v w l o b' v' w' l' o' : Int} (h0 : (k = 0 ∧ b' = x) ∨ (k ≠ 0 ∧ b' = b)) (h1 : (k = 1 ∧ v' = v + 1) ∨ (k ≠ 1 ∧ v' = v)) (h3 : (k = 3 ∧ w' = w + 1) ∨ (k ≠ 3 ∧ w' = w)) (h4 : (k = 4 ∧ l' = l + 1) ∨ (k ≠ 4 ∧ l' = l)) (h5 : (k = 5 ∧ o' = 1) ∨ (k ≠ 5 ∧ o' = o)) : ((b', v', w', l', o') : Sv) = up9 x k (b, v, w, l, o) := by
  have e0 : b' = (if k = 0 then x else b) := by
    rcases h0 with ⟨c, e⟩ | ⟨c, e⟩
    · rw [if_pos c]; exact e
    · rw [if_neg c]; exact e
  have e1 : v' = (if k = 1 then v + 1 else v) := by
    rcases h1 with ⟨c, e⟩ | ⟨c, e⟩
    · rw [if_pos c]; exact e
    · rw [if_neg c]; exact e
  have e3 : w' = (if k = 3 then w + 1 else w) := by
    rcases h3 with ⟨c, e⟩ | ⟨c, e⟩
    · rw [if_pos c]; exact e
    · rw [if_neg c]; exact e
  have e4 : l' = (if k = 4 then l + 1 else l) := by
    rcases h4 with ⟨c, e⟩ | ⟨c, e⟩
    · rw [if_pos c]; exact e
    · rw [if_neg c]; exact e
  have e5 : o' = (if k = 5 then 1 else o) := by
    rcases h5 with ⟨c, e⟩ | ⟨c, e⟩
    · rw [if_pos c]; exact e
    · rw [if_neg c]; exact e
  rw [e0, e1, e3, e4, e5]; rfl
theorem wRiv_rg (t : Nat → Int) (n a : Nat) : -1 ≤ wix t n a wRiv 0 ∧ wix t n a wRiv 0 ≤ 5 := by
  have q := wix_rg (t := t) (n := n) (a := a) wRiv 0
  have e : wRiv.length = 6 := rfl
  omega
theorem wRiv_len : (wRiv.length : Int) = 6 := rfl
theorem Rq_k {m : Int} {a : Nat} {s : Sv} (h : wix t n a wRiv 0 = -1) : Rq9 t n m (a, s) = .error (1 + 8 * (a : Int) + 0) := by unfold Rq9; rw [if_pos h]
theorem Rq_f {m k : Int} {a : Nat} {s : Sv} (hk : wix t n a wRiv 0 = k) (h : k ≠ -1) (hf : Fu9 k m s) : Rq9 t n m (a, s) = .error (1 + 8 * (a : Int) + 4) := by
  subst hk; unfold Rq9; rw [if_neg h, if_pos hf]
theorem Rq_p {m k : Int} {a : Nat} {s : Sv} (hk : wix t n a wRiv 0 = k) (h : k ≠ -1) (hf : ¬ Fu9 k m s) : Rq9 t n m (a, s) = wp (Rp9 t n k s.1 s.2.1 s.2.2.1 (nx t n a)) (up9 (nv t (nx t n a) (stp t n (nx t n a) - nx t n a)) k s) := by
  subst hk; unfold Rq9; rw [if_neg h, if_neg hf]
theorem Rq_er {m k f : Int} {a q : Nat} {s : Sv} (hk : wix t n a wRiv 0 = k) (h : k ≠ -1) (hf : ¬ Fu9 k m s) (e : oa f q = Rp9 t n k s.1 s.2.1 s.2.2.1 (nx t n a)) (h0 : f ≠ 0) : Rq9 t n m (a, s) = .error f := by
  rw [Rq_p hk h hf, ← e, oa_1 h0]; rfl
theorem Rq_ok {m k f : Int} {a q : Nat} {s s' : Sv} (hk : wix t n a wRiv 0 = k) (h : k ≠ -1) (hf : ¬ Fu9 k m s) (e : oa f q = Rp9 t n k s.1 s.2.1 s.2.2.1 (nx t n a)) (h0 : f = 0) (hs : s' = up9 (nv t (nx t n a) (stp t n (nx t n a) - nx t n a)) k s) : Rq9 t n m (a, s) = .ok (q, s') := by
  rw [Rq_p hk h hf, ← e, oa_0 h0, hs]; rfl
theorem Rq_er9 {m k f b v w l o b1 v1 w1 : Int} {a a1 q : Nat} (hk : wix t n a wRiv 0 = k) (h : k ≠ -1) (hf : ¬ Fu9 k m (b, v, w, l, o)) (e : oa f q = Rp9 t n k b1 v1 w1 a1) (ea : a1 = nx t n a) (eb : b1 = b) (ev : v1 = v) (ew : w1 = w) (h0 : f ≠ 0) : Rq9 t n m (a, (b, v, w, l, o)) = .error f := by
  subst ea; subst eb; subst ev; subst ew; exact Rq_er hk h hf e h0
theorem Rq_ok9 {m k f b v w l o b1 v1 w1 l1 o1 : Int} {a a1 q : Nat} {s' : Sv} (hk : wix t n a wRiv 0 = k) (h : k ≠ -1) (hf : ¬ Fu9 k m (b, v, w, l, o)) (e : oa f q = Rp9 t n k b1 v1 w1 a1) (ea : a1 = nx t n a) (eb : b1 = b) (ev : v1 = v) (ew : w1 = w) (h0 : f = 0) (hs : s' = up9 (nv t a1 (stp t n a1 - a1)) k (b1, v1, w1, l1, o1)) (el : l1 = l) (eo : o1 = o) : Rq9 t n m (a, (b, v, w, l, o)) = .ok (q, s') := by
  subst ea; subst eb; subst ev; subst ew; subst el; subst eo; exact Rq_ok hk h hf e h0 hs
abbrev Fx9 (k m v w l o : Int) : Prop := (k = 0 ∧ m ≠ 0) ∨ (k ≠ 0 ∧ m = 0) ∨ (k = 1 ∧ v = 6) ∨ (k = 3 ∧ w = 4) ∨ (k = 4 ∧ l = 12) ∨ (k = 5 ∧ o = 1)
theorem nfu {k m b v w l o v1 w1 l1 o1 : Int} (h40 : m ≠ 40) (h : ¬ Fx9 k m v1 w1 l1 o1) (ev : v1 = v) (ew : w1 = w) (el : l1 = l) (eo : o1 = o) : ¬ Fu9 k m (b, v, w, l, o) := by
  subst ev; subst ew; subst el; subst eo
  intro q; rcases q with q | q
  · exact h40 q
  · exact h q
theorem yfu {k m b v w l o : Int} (h : m = 40 ∨ Fx9 k m v w l o) : Fu9 k m (b, v, w, l, o) := h
abbrev Fy9 (k m v w l o : Int) : Prop := m = 40 ∨ (k = 0 ∧ m ≠ 0) ∨ (k ≠ 0 ∧ m = 0) ∨ (k = 1 ∧ v = 6) ∨ (k = 3 ∧ w = 4) ∨ (k = 4 ∧ l = 12) ∨ (k = 5 ∧ o = 1)
theorem nfy {k m b v w l o v1 w1 l1 o1 : Int} (h : ¬ Fy9 k m v1 w1 l1 o1) (ev : v1 = v) (ew : w1 = w) (el : l1 = l) (eo : o1 = o) : ¬ Fu9 k m (b, v, w, l, o) := by
  subst ev; subst ew; subst el; subst eo; exact h
theorem yfy {k m b v w l o v1 w1 l1 o1 : Int} (h : Fy9 k m v1 w1 l1 o1) (ev : v1 = v) (ew : w1 = w) (el : l1 = l) (eo : o1 = o) : Fu9 k m (b, v, w, l, o) := by
  subst ev; subst ew; subst el; subst eo; exact h
theorem re_eq {e f : Int} (h : f = e) : (Except.error e : Pr9) = .error f := by rw [h]
theorem Rv_go (f : Nat) (m : Int) (q : Nat × Sv) : Rv9 t n (f + 1) m q = br9 (Rq9 t n m q) (fun p => if fst9 t n p.1 = -1 then .ok p else if fst9 t n p.1 = 59 then Rv9 t n f (m + 1) (nx t n p.1, p.2) else .error (1 + 8 * (p.1 : Int) + 0)) := rfl
theorem Rv_er {f g : Nat} {m e : Int} {q : Nat × Sv} {o : Pr9} (h : Rv9 t n g m q = o) (hg : g = f + 1) (hc : Rq9 t n m q = .error e) : o = .error e := by
  subst hg; rw [← h, Rv_go, hc]; rfl
theorem Rv_end {f g : Nat} {m : Int} {q : Nat × Sv} {a' : Nat} {s' : Sv} {o : Pr9} (h : Rv9 t n g m q = o) (hg : g = f + 1) (hc : Rq9 t n m q = .ok (a', s')) (hf : fst9 t n a' = -1) : o = .ok (a', s') := by
  subst hg; rw [← h, Rv_go, hc]
  show (if fst9 t n a' = -1 then _ else _) = _
  rw [if_pos hf]
theorem Rv_bad {f g : Nat} {m e : Int} {q : Nat × Sv} {a' : Nat} {s' : Sv} {o : Pr9} (h : Rv9 t n g m q = o) (hg : g = f + 1) (hc : Rq9 t n m q = .ok (a', s')) (hf : fst9 t n a' ≠ -1) (hf2 : fst9 t n a' ≠ 59) (he : e = 1 + 8 * (a' : Int) + 0) : o = .error e := by
  subst hg; subst he; rw [← h, Rv_go, hc]
  show (if fst9 t n a' = -1 then _ else if fst9 t n a' = 59 then _ else (Except.error (1 + 8 * (a' : Int) + 0) : Pr9)) = _
  rw [if_neg hf, if_neg hf2]
theorem Rv_on {f g : Nat} {m m' : Int} {q : Nat × Sv} {a' x : Nat} {s' y : Sv} {o : Pr9} (h : Rv9 t n g m q = o) (hg : g = f + 1) (hc : Rq9 t n m q = .ok (a', s')) (hf : fst9 t n a' = 59) (hm : m' = m + 1) (hx : x = nx t n a') (hy : y = s') : Rv9 t n f m' (x, y) = o := by
  subst hg; subst hm; subst hx; subst hy; rw [← h, Rv_go, hc]
  show _ = (if fst9 t n a' = -1 then _ else if fst9 t n a' = 59 then _ else _)
  rw [if_neg (by omega), if_pos hf]
end AM
/-- the class's RIVER aside, the reference's -/
abbrev sv (M : zM) : Sv := (M 10 0, M 10 1, M 10 2, M 10 3, M 9 2)
abbrev sr (M : zM) : Sv := (M (229 + 29) 0, M (229 + 29) 1, M (229 + 29) 2, M (229 + 29) 3, M 229 47)
theorem sv_eq {b v w l o b' v' w' l' o' : Int} (h0 : b' = b) (h1 : v' = v) (h2 : w' = w) (h3 : l' = l) (h4 : o' = o) : ((b', v', w', l', o') : Sv) = (b, v, w, l, o) := by subst h0; subst h1; subst h2; subst h3; subst h4; rfl
def Rzr (M' : zM) (z : Int) (o : Pr9) : Prop := (z = 0 ∧ o = .error (M' 7 5)) ∨ (z = 1 ∧ ∃ a' : Nat, o = .ok (a', sv M'))
theorem Rzr.ok {M' : zM} {z : Int} {o : Pr9} (h : Rzr M' z o) (hz : z ≠ 0) : ∃ a' : Nat, o = .ok (a', sv M') := by
  rcases h with h | h
  · exact absurd h.1 hz
  · exact h.2
theorem Rzr.no {M' : zM} {z : Int} {o : Pr9} (h : Rzr M' z o) (hz : z = 0) : o = .error (M' 7 5) := by
  rcases h with h | h
  · exact h.2
  · omega
theorem riv_eq {b v w l o b' v' l' : Int} {a : Nat} {o9 : Pr9} (h : o9 = .ok (a, b, v, w, l, o)) (e0 : b' = b) (e1 : v' = v) (e3 : l' = l) : ∃ (a : Nat) (w x : Int), o9 = .ok (a, b', v', w, l', x) := by
  subst e0; subst e1; subst e3; exact ⟨a, w, o, h⟩
/-- River, State and Books as they were elsewhere, as far as the answers rest on them -/
def Cb (M M' : zM) (r s k r' s' k' : Nat) : Prop := M' r' 0 = M r 0 ∧ M' r' 1 = M r 1 ∧ M' r' 3 = M r 3 ∧ M' s' 0 = M s 0 ∧ M' s' 1 = M s 1 ∧ M' s' 2 = M s 2 ∧ M' s' 3 = M s 3 ∧ M' k' 6 = M k 6 ∧ ∀ j : Nat, j < 6 → M' (s' + 1) j = M (s + 1) j
theorem cs34 : csL 25 = jnW wRiv := by decide +kernel
theorem wR25 {t : Nat → Int} {n a : Nat} (h : a ≤ n) : wR t n a 25 = wix t n a wRiv 0 := wiR_list wRiv (by decide) cs34 (by decide) (by decide) h
/-- every place of a row below i is v -/
def Fl9 (M : zM) (a : Nat) (v i : Int) : Prop := ∀ j : Nat, (j : Int) < i → M a j = v
theorem Fl9.nil {M : zM} {a : Nat} {v i : Int} (h : i ≤ 0) : Fl9 M a v i := fun j hj => absurd hj (by omega)
theorem Fl9.go {A B : zM} {a m : Nat} {v i i' : Int} (h : Fl9 A a v i) (hm : (m : Int) = i) (e : B a m = v) (f : ∀ c j : Nat, (c ≠ a ∨ j ≠ m) → B c j = A c j) (hi : i' = i + 1) : Fl9 B a v i' := by
  intro j hj
  by_cases z : j = m
  · subst z; exact e
  · rw [f a j (by omega)]; exact h j (by omega)
/-- what river answers, and what is told then -/
def Rw9 (o : Pr9) (z b v l : Int) : Prop := (∃ f : Int, o = .error f ∧ z = -2 - f) ∨ (∃ (a : Nat) (w x : Int), o = .ok (a, b, v, w, l, x) ∧ z = l)
/-- the reference's reading of a RIVER is over -/
def Fr9 (M : zM) (o : Pr9) : Prop := (M 229 39 ≠ 0 ∧ o = .error (M 229 39)) ∨ (M 229 39 = 0 ∧ ∃ a : Nat, o = .ok (a, sr M))
theorem Fr9.ok {M : zM} {o : Pr9} (h : Fr9 M o) (h0 : M 229 39 = 0) : ∃ a : Nat, o = .ok (a, sr M) := by
  rcases h with h | h
  · exact absurd h0 h.1
  · exact h.2
theorem Fr9.er {M : zM} {o : Pr9} (h : Fr9 M o) (h0 : M 229 39 ≠ 0) : o = .error (M 229 39) := by
  rcases h with h | h
  · exact h.2
  · exact absurd h.1 h0
def oar (f : Int) (a : Nat) (s : Sv) : Pr9 := if f = 0 then .ok (a, s) else .error f
theorem oar_0 {f : Int} {a : Nat} {s : Sv} (h : f = 0) : oar f a s = .ok (a, s) := by unfold oar; rw [if_pos h]
theorem oar_1 {f : Int} {a : Nat} {s : Sv} (h : f ≠ 0) : oar f a s = .error f := by unfold oar; rw [if_neg h]
theorem oar_yes {f : Int} {a : Nat} {s : Sv} {o : Pr9} (h : oar f a s = o) (h0 : f = 0) : o = .ok (a, s) := by rw [← h, oar_0 h0]
section OAR
variable {t : Nat → Int} {n : Nat}
theorem oar_k {f' m : Int} {a a' : Nat} {s s' : Sv} (h : wix t n a wRiv 0 = -1) (hf : f' = 1 + 8 * (a : Int) + 0) : oar f' a' s' = Rq9 t n m (a, s) := by
  rw [Rq_k h, oar_1 (by omega), hf]
theorem oar_f {f' m k : Int} {a a' : Nat} {s s' : Sv} (hk : wix t n a wRiv 0 = k) (h : k ≠ -1) (hfu : Fu9 k m s) (hf : f' = 1 + 8 * (a : Int) + 4) : oar f' a' s' = Rq9 t n m (a, s) := by
  rw [Rq_f hk h hfu, oar_1 (by omega), hf]
theorem oar_p {f' m k b v w l o b1 v1 w1 l1 o1 : Int} {a a1 a' : Nat} {s' : Sv} (hk : wix t n a wRiv 0 = k) (h : k ≠ -1) (hfu : ¬ Fu9 k m (b, v, w, l, o)) (e : oa f' a' = Rp9 t n k b1 v1 w1 a1) (ea : a1 = nx t n a) (eb : b1 = b) (ev : v1 = v) (ew : w1 = w) (el : l1 = l) (eo : o1 = o) (hs : f' = 0 → s' = up9 (nv t a1 (stp t n a1 - a1)) k (b1, v1, w1, l1, o1)) : oar f' a' s' = Rq9 t n m (a, (b, v, w, l, o)) := by
  by_cases z : f' = 0
  · rw [Rq_ok9 hk h hfu e ea eb ev ew z (hs z) el eo, oar_0 z]
  · rw [Rq_er9 hk h hfu e ea eb ev ew z, oar_1 z]
theorem fr_end {M' : zM} {fc m : Int} {f g a : Nat} {q : Nat × Sv} {sc : Sv} {o : Pr9} (h : Rv9 t n g m q = o) (hg : g = f + 1) (e : oar fc a sc = Rq9 t n m q) (G : (fc ≠ 0 ∧ M' 229 39 = fc) ∨ (fc = 0 ∧ fst9 t n a = -1 ∧ M' 229 39 = 0) ∨ (fc = 0 ∧ fst9 t n a ≠ -1 ∧ fst9 t n a ≠ 59 ∧ M' 229 39 = 1 + 8 * (a : Int) + 0)) (hs : sr M' = sc) : Fr9 M' o := by
  rcases G with ⟨g1, g2⟩ | ⟨g1, g2, g3⟩ | ⟨g1, g2, g3, g4⟩
  · refine Or.inl ⟨by omega, ?_⟩
    rw [g2]; rw [oar_1 g1] at e
    exact Rv_er h hg e.symm
  · refine Or.inr ⟨g3, a, ?_⟩
    rw [hs]; rw [oar_0 g1] at e
    exact Rv_end h hg e.symm g2
  · refine Or.inl ⟨by omega, ?_⟩
    rw [oar_0 g1] at e
    exact Rv_bad h hg e.symm g2 g3 g4
end OAR
