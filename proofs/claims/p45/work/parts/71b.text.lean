/-! as the reference reads: where it stands, its FAULT, its items -/
def ovN (t : Nat → Int) (n p : Nat) (f c : Int) : Po := if f = 0 then .ok (sk t n p, c) else .error f
def Cg (t : Nat → Int) (n : Nat) (q : Nat × Int) : Po := Cf t n q.1 q.2
def Tg (t : Nat → Int) (n : Nat) (q : Nat × Int) : Po := Tf t n 10 q.1 q.2
/-- a String's bytes are small letters, and there are some -/
def LW (i : Nat) : Prop := ((csL i).all (fun x => decide (97 ≤ x ∧ x ≤ 122)) = true) ∧ 1 ≤ (csL i).length
section OV
variable {t : Nat → Int} {n : Nat}
theorem sk_sk (a : Nat) : sk t n (sk t n a) = sk t n a := wh_wh t n 32 32 a
theorem fst_sp {a : Nat} (h : sk t n a = a) : ¬ (a < n ∧ t a = 32) := by
  intro q
  unfold sk at h
  rw [wh_go q.1 (by omega) (by omega)] at h
  have w := wh_rg t n 32 32 (a + 1)
  omega
theorem ov_ok {p : Nat} {f c : Int} (h : f = 0) : ovN t n p f c = .ok (sk t n p, c) := by unfold ovN; rw [if_pos h]
theorem ov_er {p : Nat} {f c : Int} (h : f ≠ 0) : ovN t n p f c = .error f := by unfold ovN; rw [if_neg h]
theorem ov_pos {p : Nat} {f c : Int} (h : f = 0 → 0 ≤ c) : ∀ q, ovN t n p f c = .ok q → 0 ≤ q.2 := by
  intro q e
  by_cases z : f = 0
  · rw [ov_ok z] at e; cases e; exact h z
  · rw [ov_er z] at e; cases e
theorem ov_mv {p p' : Nat} {f f' c c' : Int} {o : Po} (h : ovN t n p f c = o) (h0 : f' = f) (hp : sk t n p' = sk t n p) (hc : c' = c) : ovN t n p' f' c' = o := by
  subst h0; subst hc; rw [← h]; unfold ovN; rw [hp]
/-- a FAULT stays; else what is said -/
theorem ov_if {p p' : Nat} {f f' c c' : Int} {F : Nat × Int → Po} (h0 : f ≠ 0 → f' = f) (h1 : f = 0 → ovN t n p' f' c' = F (sk t n p, c)) : ovN t n p' f' c' = bd (ovN t n p f c) F := by
  by_cases z : f = 0
  · rw [ov_ok z]; exact h1 z
  · have e := h0 z
    rw [ov_er z, e, ov_er z]; rfl
theorem ov_f {p' a : Nat} {f' c' k : Int} (h : f' = 1 + 8 * (a : Int) + k) (hk : 0 ≤ k) : ovN t n p' f' c' = er a k := by
  rw [ov_er (by omega), h]; rfl
theorem ov_vdig {p p' a : Nat} {f f' c c' : Int} (ha : a = sk t n p) (hd : 48 ≤ fst9 t n a ∧ fst9 t n a ≤ 57) (h0 : f ≠ 0 → f' = f) (h1 : f = 0 → a + 5 < stp t n a → f' = 1 + 8 * (a : Int) + 1) (h2 : f = 0 → ¬ (a + 5 < stp t n a) → 60 ≤ c → f' = 1 + 8 * (a : Int) + 3) (h3 : f = 0 → ¬ (a + 5 < stp t n a) → c < 60 → (f' = 0 ∧ p' = stp t n a ∧ c' = c + 1)) : ovN t n p' f' c' = bd (ovN t n p f c) (Vg t n) := by
  refine ov_if h0 (fun z => ?_)
  subst ha
  show _ = Vf t n (sk t n p) c
  by_cases s : sk t n p + 5 < stp t n (sk t n p)
  · rw [Vf_digl hd s]; exact ov_f (h1 z s) (by omega)
  · by_cases q : 60 ≤ c
    · rw [Vf_dig3 hd s q]; exact ov_f (h2 z s q) (by omega)
    · obtain ⟨e1, e2, e3⟩ := h3 z s (by omega)
      rw [Vf_dig hd s (by omega), ov_ok e1, e2, e3]; rfl
theorem ov_vwd {p p' a : Nat} {f f' c c' : Int} (ha : a = sk t n p) (hd : ¬ (48 ≤ fst9 t n a ∧ fst9 t n a ≤ 57)) (hw : wix t n a wVal 0 ≠ -1) (h0 : f ≠ 0 → f' = f) (h2 : f = 0 → 60 ≤ c → f' = 1 + 8 * (a : Int) + 3) (h3 : f = 0 → c < 60 → (f' = 0 ∧ p' = stp t n a ∧ c' = c + 1)) : ovN t n p' f' c' = bd (ovN t n p f c) (Vg t n) := by
  refine ov_if h0 (fun z => ?_)
  subst ha
  show _ = Vf t n (sk t n p) c
  by_cases q : 60 ≤ c
  · rw [Vf_wd3 hd hw q]; exact ov_f (h2 z q) (by omega)
  · obtain ⟨e1, e2, e3⟩ := h3 z (by omega)
    rw [Vf_wd hd hw (by omega), ov_ok e1, e2, e3]; rfl
theorem ov_vno {p p' a : Nat} {f f' c c' : Int} (ha : a = sk t n p) (hd : ¬ (48 ≤ fst9 t n a ∧ fst9 t n a ≤ 57)) (hw : wix t n a wVal 0 = -1) (h0 : f ≠ 0 → f' = f) (h1 : f = 0 → f' = 1 + 8 * (a : Int) + 0) : ovN t n p' f' c' = bd (ovN t n p f c) (Vg t n) := by
  refine ov_if h0 (fun z => ?_)
  subst ha
  show _ = Vf t n (sk t n p) c
  rw [Vf_wdn hd hw]; exact ov_f (h1 z) (by omega)
/-- behind a VALUE and blanks -/
theorem ov_t0 {p1 p2 : Nat} {f1 f2 c1 c2 : Int} {o : Po} (e : ovN t n p1 f1 c1 = bd o (Vg t n)) (h : ∀ q, o = .ok q → 0 ≤ q.2) (hp : p2 = sk t n p1) (hf : f2 = f1) (hc : c2 = c1) : bd (ovN t n p2 f2 c2) (So t n) = bd o (Sg t n) := by
  rw [ov_mv e hf (by rw [hp]; exact sk_sk p1) hc, bd_assoc]
  exact bd_congr (fun q hq => (Sg_eq (h q hq)).symm)
theorem fst_in {a : Nat} (h : fst9 t n a ≠ -1) : a < n ∧ fst9 t n a = t a := by
  by_cases z : a < n
  · exact ⟨z, fst9_in z⟩
  · exact absurd (fst9_out (by omega)) h
theorem stp_op1 {a : Nat} (h : fst9 t n a = 42 ∨ fst9 t n a = 47 ∨ fst9 t n a = 37 ∨ fst9 t n a = 43 ∨ fst9 t n a = 45 ∨ fst9 t n a = 91 ∨ fst9 t n a = 93 ∨ fst9 t n a = 59 ∨ fst9 t n a = 61) : stp t n a = a + 1 ∧ a < n := by
  obtain ⟨z, e⟩ := fst_in (t := t) (n := n) (a := a) (by omega)
  rw [e] at h
  exact ⟨stp_oth z (by omega) (by omega) (by omega), z⟩
theorem stp_ang2 {a : Nat} (h : fst9 t n a = 60 ∨ fst9 t n a = 62) : (fst9 t n (a + 1) = 61 → stp t n a = a + 2) ∧ (fst9 t n (a + 1) ≠ 61 → stp t n a = a + 1) ∧ a < n := by
  obtain ⟨z, e⟩ := fst_in (t := t) (n := n) (a := a) (by omega)
  rw [e] at h
  refine ⟨fun q => ?_, fun q => ?_, z⟩
  · obtain ⟨z1, e1⟩ := fst_in (t := t) (n := n) (a := a + 1) (by omega)
    rw [e1] at q
    unfold stp; rw [if_pos z, if_pos h, if_pos ⟨z1, q⟩]
  · unfold stp; rw [if_pos z, if_pos h, if_neg]
    intro w
    rw [fst9_in w.1] at q
    exact q w.2
theorem ov_tb {pl pm p2 : Nat} {fl cl fm cm f2 c2 : Int} {T : Po} (e : bd (ovN t n pl fl cl) (So t n) = T) (hf : fl = 0) (hs : sk t n pl = pl) (hop : fst9 t n pl = 42 ∨ fst9 t n pl = 47 ∨ fst9 t n pl = 37 ∨ fst9 t n pl = 43 ∨ fst9 t n pl = 45) (hm : pm = pl + 1) (hfm : fm = 0) (hcm : cm = cl) (e2 : bd (ovN t n p2 f2 c2) (So t n) = bd (ovN t n pm fm cm) (Sg t n)) : bd (ovN t n p2 f2 c2) (So t n) = T := by
  rw [e2, ← e, ov_ok hf, ov_ok hfm, hs, hcm, hm]
  show Sg t n (sk t n (pl + 1), cl) = So t n (pl, cl)
  unfold So
  rw [if_pos (opS_yes hop)]
  show _ = Sg t n (nx t n pl, cl)
  unfold nx
  rw [(stp_op1 (t := t) (n := n) (a := pl) (by omega)).1]
theorem ov_se {p : Nat} {f c : Int} {T : Po} (e : bd (ovN t n p f c) (So t n) = T) (h : f = 0 → (sk t n p = p ∧ ¬ (fst9 t n p = 42 ∨ fst9 t n p = 47 ∨ fst9 t n p = 37 ∨ fst9 t n p = 43 ∨ fst9 t n p = 45))) : ovN t n p f c = T := by
  rw [← e]
  by_cases z : f = 0
  · obtain ⟨h1, h2⟩ := h z
    rw [ov_ok z, h1]
    show _ = So t n (p, c)
    unfold So
    rw [if_neg (opS_no h2)]
  · rw [ov_er z]; rfl
theorem ov_c0 {p1 p2 : Nat} {f1 f2 c1 c2 : Int} {o : Po} (e : ovN t n p1 f1 c1 = bd o (Sg t n)) (hs : f1 = 0 → sk t n p1 = p1) (hn : ¬ (fst9 t n p1 = 60 ∨ fst9 t n p1 = 61 ∨ fst9 t n p1 = 62)) (h0 : f1 ≠ 0 → f2 = f1) (h1 : f1 = 0 → f2 = 1 + 8 * (p1 : Int) + 0) : ovN t n p2 f2 c2 = bd o (Cg t n) := by
  have q : bd o (Cg t n) = bd (ovN t n p1 f1 c1) (Cs9 t n) := by rw [e, bd_assoc]; rfl
  rw [q]
  refine ov_if h0 (fun z => ?_)
  rw [hs z]
  unfold Cs9
  rw [if_neg hn]; exact ov_f (h1 z) (by omega)
theorem ov_c1 {p1 p3 p4 : Nat} {f1 f3 c1 c3 f4 c4 : Int} {o : Po} (e : ovN t n p1 f1 c1 = bd o (Sg t n)) (hs : f1 = 0 → sk t n p1 = p1) (hn : fst9 t n p1 = 60 ∨ fst9 t n p1 = 61 ∨ fst9 t n p1 = 62) (h0 : f1 ≠ 0 → f3 = f1) (h1 : f1 = 0 → 60 ≤ c1 → f3 = 1 + 8 * (p1 : Int) + 3) (h2 : f1 = 0 → c1 < 60 → (f3 = 0 ∧ p3 = stp t n p1 ∧ c3 = c1 + 1)) (e2 : ovN t n p4 f4 c4 = bd (ovN t n p3 f3 c3) (Sg t n)) : ovN t n p4 f4 c4 = bd o (Cg t n) := by
  have q : bd o (Cg t n) = bd (ovN t n p1 f1 c1) (Cs9 t n) := by rw [e, bd_assoc]; rfl
  rw [q, e2]
  by_cases z : f1 = 0
  · rw [ov_ok z, hs z]
    show _ = Cs9 t n (p1, c1)
    unfold Cs9
    rw [if_pos hn]
    by_cases w : 60 ≤ c1
    · rw [if_pos w, ov_er (by have := h1 z w; omega), h1 z w]; rfl
    · obtain ⟨g1, g2, g3⟩ := h2 z (by omega)
      rw [if_neg w, ov_ok g1, g2, g3]; rfl
  · have e0 := h0 z
    rw [ov_er z, e0, ov_er z]; rfl
/-- the words of a list, one by one -/
theorem wix_of : ∀ (l : List (List Int)) (i k : Nat) {a : Nat}, k < l.length → (∀ j : Nat, j < k → ¬ isw t n a (l.getD j []) = true) → isw t n a (l.getD k []) = true → wix t n a l i = ((i + k : Nat) : Int)
  | [], _, _, _, h, _, _ => absurd h (by simp)
  | w :: l, i, 0, a, _, _, h => by
    show (if isw t n a w then (i : Int) else _) = _
    have h' : isw t n a w = true := h
    rw [if_pos h']; rfl
  | w :: l, i, k + 1, a, hk, h0, h => by
    have h9 : ¬ isw t n a w = true := h0 0 (by omega)
    show (if isw t n a w then (i : Int) else wix t n a l (i + 1)) = _
    rw [if_neg h9, wix_of l (i + 1) k (by simp at hk; omega) (fun j hj => h0 (j + 1) (by omega)) h]
    congr 1; omega
theorem wix_non : ∀ (l : List (List Int)) (i : Nat) {a : Nat}, (∀ j : Nat, j < l.length → ¬ isw t n a (l.getD j []) = true) → wix t n a l i = -1
  | [], _, _, _ => rfl
  | w :: l, i, a, h => by
    have h9 : ¬ isw t n a w = true := h 0 (by simp)
    show (if isw t n a w then (i : Int) else wix t n a l (i + 1)) = _
    rw [if_neg h9]
    exact wix_non l (i + 1) (fun j hj => h (j + 1) (by simp; omega))
def NW (t : Nat → Int) (n a : Nat) (l : List (List Int)) (k : Int) : Prop := ∀ j : Nat, (j : Int) < k → ¬ isw t n a (l.getD j []) = true
theorem NW.nil {a : Nat} {l : List (List Int)} : NW t n a l 0 := fun j hj => absurd hj (by omega)
theorem NW.go {a : Nat} {l : List (List Int)} {k k' : Int} {i : Nat} (h : NW t n a l k) (h0 : 0 ≤ k) (hi : csL i = l.getD k.toNat []) (hn : ¬ isw t n a (csL i) = true) (e : k' = k + 1) : NW t n a l k' := by
  intro j hj
  by_cases z : (j : Int) < k
  · exact h j z
  · have e2 : j = k.toNat := by omega
    rw [e2, ← hi]; exact hn
theorem NW.at {a : Nat} {l : List (List Int)} {k : Int} {i : Nat} (h : NW t n a l k) (h0 : 0 ≤ k) (hl : k < l.length) (hi : csL i = l.getD k.toNat []) (hy : isw t n a (csL i) = true) : wix t n a l 0 = k := by
  rw [wix_of l 0 k.toNat (by omega) (fun j hj => h j (by omega)) (by rw [← hi]; exact hy)]
  omega
theorem NW.no {a : Nat} {l : List (List Int)} {k : Int} (h : NW t n a l k) (hl : (l.length : Int) ≤ k) : wix t n a l 0 = -1 := wix_non l 0 (fun j hj => h j (by omega))
theorem wVal_len : (wVal.length : Int) = 13 := rfl
theorem wAct_len : (wAct.length : Int) = 5 := rfl
/-- a word stands: as far as small letters go on -/
theorem isw_std {a : Nat} {w : List Int} (hw : (w.all (fun x => decide (97 ≤ x ∧ x ≤ 122))) = true) (hl : 1 ≤ w.length) : isw t n a w = true ↔ (wh t n 97 122 a = a + w.length ∧ mt t a w = true) := by
  rw [isw_iff]
  cases w with
  | nil => simp at hl
  | cons x w =>
    have hx : 97 ≤ x ∧ x ≤ 122 := by
      rw [List.all_cons, Bool.and_eq_true] at hw
      exact decide_eq_true_iff.mp hw.1
    have m0 : mt t a (x :: w) = true → t a = x := fun m => by
      have m1 : ((t a == x) && mt t (a + 1) w) = true := m
      rw [Bool.and_eq_true, beq_iff_eq] at m1
      exact m1.1
    by_cases z : a < n ∧ 97 ≤ t a ∧ t a ≤ 122
    · rw [← stp_let z.1 z.2.1 z.2.2, ← wh_go z.1 z.2.1 z.2.2]
    · constructor
      · intro q
        have := m0 q.2
        have z2 : ¬ a < n := fun y => z ⟨y, by omega, by omega⟩
        have s := stp_fin (t := t) (n := n) (a := a) (by omega)
        omega
      · intro q
        rw [wh_stop z] at q
        omega
/-- as stood goes along a word -/
def SD (t : Nat → Int) (a : Nat) (E : Prop) (w : List Int) (k z : Int) : Prop := (z = 1 ∧ E ∧ mt t (a + k.toNat) (w.drop k.toNat) = mt t a w) ∨ (z = 0 ∧ ¬ (E ∧ mt t a w = true))
theorem SD.yes {a : Nat} {E : Prop} {w : List Int} (h : E) : SD t a E w 0 1 := Or.inl ⟨rfl, h, by rw [show (0 : Int).toNat = 0 from rfl, List.drop_zero]; rfl⟩
theorem SD.no {a : Nat} {E : Prop} {w : List Int} {k : Int} (h : ¬ E) : SD t a E w k 0 := Or.inr ⟨rfl, fun q => h q.1⟩
theorem SD.go {a i : Nat} {E : Prop} {k k' z v : Int} (h : SD t a E (csL i) k z) (h0 : 0 ≤ k) (hk : k < (csL i).length) (hz : z = 1) (hv : (v = 1 ∧ t (a + k.toNat) = sbt i k.toNat) ∨ (v = 0 ∧ t (a + k.toNat) ≠ sbt i k.toNat)) (e : k' = k + 1) : SD t a E (csL i) k' v := by
  rcases h with ⟨_, h1, h2⟩ | ⟨h1, _⟩
  · rw [csL_drop (k := k.toNat) (by omega)] at h2
    have h3 : ((t (a + k.toNat) == sbt i k.toNat) && mt t (a + k.toNat + 1) ((csL i).drop (k.toNat + 1))) = mt t a (csL i) := h2
    rcases hv with ⟨v1, v2⟩ | ⟨v1, v2⟩
    · refine Or.inl ⟨v1, h1, ?_⟩
      rw [beq_iff_eq.mpr v2, Bool.true_and] at h3
      rw [← h3, show k'.toNat = k.toNat + 1 by omega, Nat.add_assoc]
    · refine Or.inr ⟨v1, fun q => ?_⟩
      rw [q.2, Bool.and_eq_true, beq_iff_eq] at h3
      exact v2 h3.1
  · omega
theorem SD.end {a i : Nat} {E : Prop} {k z : Int} (h : SD t a E (csL i) k z) (hk : z = 0 ∨ (csL i).length ≤ k.toNat) : (z = 1 ∧ E ∧ mt t a (csL i) = true) ∨ (z = 0 ∧ ¬ (E ∧ mt t a (csL i) = true)) := by
  rcases h with ⟨h0, h1, h2⟩ | h
  · refine Or.inl ⟨h0, h1, ?_⟩
    rw [← h2, List.drop_of_length_le (by omega)]; rfl
  · exact Or.inr h
theorem st_end {Q : Prop} {a i len : Nat} {e z : Int} (hl : LW i) (hn : len = (csL i).length) (he : wh t n 97 122 e.toNat = wh t n 97 122 a) (hs : ¬ (e.toNat < n ∧ 97 ≤ t e.toNat ∧ t e.toNat ≤ 122)) (he0 : 0 ≤ e) (h : (z = 1 ∧ (e - (a : Int) = (len : Int)) ∧ mt t a (csL i) = true) ∨ (z = 0 ∧ ¬ ((e - (a : Int) = (len : Int)) ∧ mt t a (csL i) = true))) (hq : z = 1 → Q) : (z = 1 ∧ isw t n a (csL i) = true ∧ stp t n a = a + len ∧ Q) ∨ (z = 0 ∧ ¬ isw t n a (csL i) = true) := by
  have s := isw_std (t := t) (n := n) (a := a) hl.1 hl.2
  rw [wh_stop hs] at he
  rcases h with ⟨h1, h2, h3⟩ | ⟨h1, h2⟩
  · have y := s.mpr ⟨by omega, h3⟩
    exact Or.inl ⟨h1, y, by have := ((isw_iff _).mp y).1; omega, hq h1⟩
  · refine Or.inr ⟨h1, fun q => h2 ?_⟩
    have y := s.mp q
    exact ⟨by omega, y.2⟩
end OV
theorem Ty.rd {M : zM} {t : Nat → Int} {n : Nat} (h : Ty M t n) (j : Nat) (hj : j < n) : 0 ≤ t j ∧ t j ≤ 255 := by
  have := h.2 j hj
  omega
/-! bytes of the reference's tape; digits; what is open -/
theorem and255s0 : ∀ k : Nat, k < 256 → anI ((k : Int) - 128) 255 = ((k : Int) - 128) % 256 := by decide +kernel
theorem and255s {a : Int} (h0 : -128 ≤ a) (h1 : a ≤ 127) : anI a 255 = a % 256 := by
  have q := and255s0 (a + 128).toNat (by omega)
  rwa [show ((a + 128).toNat : Int) - 128 = a by omega] at q
theorem stY {z : Int} {A D : Prop} (h : (z = 1 ∧ A) ∨ (z = 0 ∧ D)) (hz : z ≠ 0) : A := by
  rcases h with h | h
  · exact h.2
  · exact absurd h.1 hz
theorem stN {z : Int} {A D : Prop} (h : (z = 1 ∧ A) ∨ (z = 0 ∧ D)) (hz : z = 0) : D := by
  rcases h with h | h
  · omega
  · exact h.2
/-- the number that digits tell -/
def nv (t : Nat → Int) (a : Nat) : Nat → Int
  | 0 => 0
  | k + 1 => 10 * nv t a k + t (a + k) - 48
section DG
variable {t : Nat → Int} {n a : Nat}
theorem nv_go {k : Nat} {v x y : Int} (h : v = nv t a k) (hx : x = t (a + k)) (hy : y = 10 * v + x - 48) : y = nv t a (k + 1) := by
  subst h; subst hx; exact hy
theorem dg_in (h : 48 ≤ fst9 t n a ∧ fst9 t n a ≤ 57) : wh t n 48 57 a = stp t n a ∧ a + 1 ≤ stp t n a ∧ stp t n a ≤ n := by
  obtain ⟨z, e⟩ := fst_in (t := t) (n := n) (a := a) (by omega)
  rw [e] at h
  have s := stp_rg (t := t) z
  rw [← stp_dig z h.1 h.2, wh_go z h.1 h.2]
  rw [stp_dig z h.1 h.2]
  exact ⟨rfl, s.1, s.2⟩
theorem dg_st (h : ¬ (48 ≤ fst9 t n a ∧ fst9 t n a ≤ 57)) : ¬ (a < n ∧ 48 ≤ t a ∧ t a ≤ 57) := by
  intro q
  rw [fst9_in q.1] at h
  exact h q.2
theorem ov_mve {p p' : Nat} {f f' c c' : Int} {o : Po} (h : ovN t n p f c = o) (hp : p' = p) (hf : f' = f) (hc : c' = c) : ovN t n p' f' c' = o := by
  subst hp; subst hf; subst hc; exact h
theorem ov_bmv {p p' : Nat} {f f' c c' : Int} {o : Po} {F : Nat × Int → Po} (h : bd (ovN t n p f c) F = o) (hp : p' = p) (hf : f' = f) (hc : c' = c) : bd (ovN t n p' f' c') F = o := by
  subst hp; subst hf; subst hc; exact h
theorem sk_eq {p p' : Nat} (h : p' = p) : sk t n p' = sk t n p := by rw [h]
end DG
/-! the stack of a TEST: NOT 9, AND 10, OR 11, a bracket 12 -/
def Sh (r : Nat → Int) (o : Nat) : Prop := (∀ j : Nat, j < o → (9 ≤ r j ∧ r j ≤ 12)) ∧ ∀ j : Nat, j + 1 < o → ((r j = 9 → (r (j + 1) = 9 ∨ r (j + 1) = 12)) ∧ (r j = 10 → (r (j + 1) = 9 ∨ r (j + 1) = 12)) ∧ (r j = 11 → r (j + 1) ≠ 11))
theorem Sh.nil {r : Nat → Int} : Sh r 0 := ⟨fun j hj => absurd hj (by omega), fun j hj => absurd hj (by omega)⟩
theorem Sh.same {r r' : Nat → Int} {o : Nat} (h : Sh r o) (e : ∀ j : Nat, j < o → r' j = r j) : Sh r' o :=
  ⟨fun j hj => by rw [e j hj]; exact h.1 j hj, fun j hj => by rw [e j (by omega), e (j + 1) hj]; exact h.2 j hj⟩
theorem Sh.le {r : Nat → Int} {o o' : Nat} (h : Sh r o) (e : o' ≤ o) : Sh r o' := ⟨fun j hj => h.1 j (by omega), fun j hj => h.2 j (by omega)⟩
theorem Sh.push {r r' : Nat → Int} {o : Nat} {k : Int} (h : Sh r o) (e : ∀ j : Nat, j < o → r' j = r j) (ek : r' o = k) (hk : k = 9 ∨ k = 12 ∨ (k = 10 ∧ (o = 0 ∨ r (o - 1) = 12 ∨ r (o - 1) = 11)) ∨ (k = 11 ∧ (o = 0 ∨ r (o - 1) = 12))) : Sh r' (o + 1) := by
  refine ⟨fun j hj => ?_, fun j hj => ?_⟩
  · by_cases z : j < o
    · rw [e j z]; exact h.1 j z
    · rw [show j = o by omega, ek]; omega
  · by_cases z : j + 1 < o
    · rw [e j (by omega), e (j + 1) z]; exact h.2 j z
    · have z2 : j + 1 = o := by omega
      have q := h.1 j (by omega)
      rw [show j = o - 1 by omega] at q ⊢
      rw [e (o - 1) (by omega), show o - 1 + 1 = o by omega, ek]
      rcases hk with c | c | ⟨c, d⟩ | ⟨c, d⟩
      · subst c; exact ⟨fun _ => Or.inl rfl, fun _ => Or.inl rfl, fun _ => by omega⟩
      · subst c; exact ⟨fun _ => Or.inr rfl, fun _ => Or.inr rfl, fun _ => by omega⟩
      · exact ⟨fun w => by omega, fun w => by omega, fun w => by omega⟩
      · exact ⟨fun w => by omega, fun w => by omega, fun w => by omega⟩
/-- what is on top behind a pop of k's -/
def Pp (r : Nat → Int) (o o' : Nat) (k : Int) : Prop := o' ≤ o ∧ (o' < o → r o' = k) ∧ (o' = 0 ∨ r (o' - 1) ≠ k)
theorem Sh.pop9 {r : Nat → Int} {o o' : Nat} (h : Sh r o) (p : Pp r o o' 9) : o' = 0 ∨ r (o' - 1) ≠ 9 := by
  exact p.2.2
theorem Sh.pop10 {r : Nat → Int} {o o' : Nat} (h : Sh r o) (h9 : o = 0 ∨ r (o - 1) ≠ 9) (p : Pp r o o' 10) : o' = 0 ∨ (r (o' - 1) ≠ 9 ∧ r (o' - 1) ≠ 10) := by
  obtain ⟨p1, p2, p3⟩ := p
  by_cases z : o' = 0
  · exact Or.inl z
  · refine Or.inr ⟨?_, p3.resolve_left z⟩
    by_cases y : o' < o
    · have q := (h.2 (o' - 1) (by omega)).1
      rw [show o' - 1 + 1 = o' by omega, p2 y] at q
      intro w; have := q w; omega
    · have e : o' = o := by omega
      rw [e]; exact h9.resolve_left (by omega)
theorem Sh.pop11 {r : Nat → Int} {o o' : Nat} (h : Sh r o) (h9 : o = 0 ∨ (r (o - 1) ≠ 9 ∧ r (o - 1) ≠ 10)) (p : Pp r o o' 11) : o' = 0 ∨ r (o' - 1) = 12 := by
  obtain ⟨p1, p2, p3⟩ := p
  by_cases z : o' = 0
  · exact Or.inl z
  · refine Or.inr ?_
    have w := p3.resolve_left z
    have g := h.1 (o' - 1) (by omega)
    by_cases y : o' < o
    · have q := h.2 (o' - 1) (by omega)
      rw [show o' - 1 + 1 = o' by omega, p2 y] at q
      have q1 := q.1
      have q2 := q.2.1
      omega
    · have e : o' = o := by omega
      rw [e] at g w ⊢
      have := h9.resolve_left (by omega)
      omega
theorem Sh.sg {r : Nat → Int} : ∀ {o : Nat}, Sh r o → (o = 0 ∨ r (o - 1) ≠ 9) → Sg9 r o
  | 0, _, _ => trivial
  | o + 1, h, h9 => by
    show r o = 12 ∨ (r o ≠ 9 ∧ Sg9 r o)
    have w : r o ≠ 9 := h9.resolve_left (by omega)
    by_cases z : r o = 12
    · exact Or.inl z
    · refine Or.inr ⟨w, Sh.sg (h.le (by omega)) ?_⟩
      by_cases y : o = 0
      · exact Or.inl y
      · refine Or.inr (fun q => ?_)
        have := (h.2 (o - 1) (by omega)).1 q
        rw [show o - 1 + 1 = o by omega] at this
        omega
theorem dpO_le (r : Nat → Int) : ∀ o : Nat, dpO r o ≤ o
  | 0 => Nat.le_refl _
  | o + 1 => by
    have q := dpO_le r o
    show dpO r o + (if r o = 9 ∨ r o = 12 then 1 else 0) ≤ o + 1
    by_cases z : r o = 9 ∨ r o = 12
    · rw [if_pos z]; omega
    · rw [if_neg z]; omega
theorem dpO_go {r : Nat → Int} {o o' : Nat} (h : o = o' + 1) : ((r o' = 9 ∨ r o' = 12) → dpO r o = dpO r o' + 1) ∧ (¬ (r o' = 9 ∨ r o' = 12) → dpO r o = dpO r o') := by
  subst h
  refine ⟨fun z => ?_, fun z => ?_⟩
  · show dpO r o' + (if r o' = 9 ∨ r o' = 12 then 1 else 0) = _
    rw [if_pos z]
  · show dpO r o' + (if r o' = 9 ∨ r o' = 12 then 1 else 0) = _
    rw [if_neg z]; omega
theorem Kn_pop1 {t : Nat → Int} {n : Nat} {r : Nat → Int} {o o' : Nat} (h : o = o' + 1) (hr : r o' ≠ 12) : Kn t n r o' = Kn t n r o := by
  subst h; exact (Kn_pop hr).symm
