/-! which byte a String has at a place -/
def sbt (i k : Nat) : Int := ((sBy.getD i []).getD k 0).toInt
theorem sbt_rg0 : ∀ i : Nat, i < 32 → ∀ k : Nat, k < 101 → (0 ≤ sbt i k ∧ sbt i k ≤ 127) := by decide +kernel
theorem and255_0 : ∀ k : Nat, k < 128 → anI (k : Int) 255 = k := by decide +kernel
theorem and255 {a : Int} (h0 : 0 ≤ a) (h1 : a ≤ 127) : anI a 255 = a := by
  have q := and255_0 a.toNat (by omega)
  rwa [show (a.toNat : Int) = a by omega] at q
section GSE
variable {Γ : Gam} {x : Cx} {cc : ByteArray} {nL : Nat} {own : String} {fr lo : Nat} {Q : State → Prop} {M : zM} {pc n : Nat} {lv : List (Nat × Value)} {st : List Value}
theorem g_taldE (hx : Ok Γ x cc nL own fr lo) {i : Nat} {k : Int} {r : String × Nat × String × Nat} (hi : sN[i]? = some r) (d : decode cc pc = .ok (.baload, 1)) (hn : pc + 1 = n) (h0 : 0 ≤ k) (h1 : k < r.2.2.2) (h2 : k ≤ 2147483647) (kk : G Γ x nL Q M n lv (vI (sbt i k.toNat) :: st)) : G Γ x nL Q M pc lv (vI k :: .ref (gs Γ (2 * i + 1)) :: st) := by
  subst hn; intro H locs ls hH hS hl
  refine va_tb (v := vI (sbt i k.toNat)) hx.1 hx.2.1 (hx.2.2.2.2.2.2.2.1.2 i r hi).2.2.2.2 hS (inI h0 h1 h2) ?_ d (kk H locs ls hH hS hl)
  show Value.int ((sBy.getD i []).getD (Int32.ofInt k).toNatClampNeg 0) = vI (sbt i k.toNat)
  rw [cN h0 h2]
  show _ = Value.int (Int32.ofInt (sbt i k.toNat))
  unfold sbt
  rw [oI]
end GSE
theorem sN_lt {i : Nat} {r : String × Nat × String × Nat} (h : sN[i]? = some r) : i < 32 := (List.getElem?_eq_some_iff.mp h).1
/-- as wordIn goes along a list of words -/
def wiL (t : Nat → Int) (a : Nat) (lt : Int) : List Int → Int → Int → Int
  | [], num, al => if al = lt then num else -1
  | ch :: l, num, al => if ch = 32 then (if al = lt then num else wiL t a lt l (num + 1) 0) else wiL t a lt l num (if 0 ≤ al then (if al < lt ∧ t (a + al.toNat) = ch then al + 1 else -1) else al)
def csL (i : Nat) : List Int := (sBy.getD i []).map Int32.toInt
theorem csL_len0 : ∀ i : Nat, i < 32 → (csL i).length = sln i := by decide +kernel
theorem csL_len {i : Nat} {r : String × Nat × String × Nat} (h : sN[i]? = some r) : (csL i).length = r.2.2.2 := by
  rw [csL_len0 i (sN_lt h), sln_eq h]
theorem csL_drop {i k : Nat} (h : k < (csL i).length) : (csL i).drop k = sbt i k :: (csL i).drop (k + 1) := by
  unfold csL at h ⊢
  rw [List.length_map] at h
  rw [← List.map_drop, ← List.map_drop, List.drop_eq_getElem_cons h, List.map_cons]
  congr 1
  unfold sbt
  generalize sBy.getD i [] = l at h ⊢
  rw [List.getD_eq_getElem?_getD, List.getElem?_eq_getElem h]
  rfl
def wiR (t : Nat → Int) (a : Nat) (lt : Int) (i : Nat) : Int := if lt ≤ 0 then -1 else wiL t a lt (csL i) 0 0
def WI (t : Nat → Int) (a : Nat) (lt : Int) (i : Nat) (k num al : Int) : Prop := (k ≤ (csL i).length ∧ wiL t a lt ((csL i).drop k.toNat) num al = wiL t a lt (csL i) 0 0) ∨ (k = (csL i).length + 1 ∧ wiL t a lt (csL i) 0 0 = -1)
theorem WI.nil {t : Nat → Int} {a i : Nat} {lt : Int} : WI t a lt i 0 0 0 := Or.inl ⟨by omega, by rw [show (0 : Int).toNat = 0 from rfl, List.drop_zero]⟩
/-- a word of the list ends -/
theorem WI.ret {t : Nat → Int} {a i : Nat} {lt k num al : Int} (h : WI t a lt i k num al) (h0 : 0 ≤ k) (hk : k ≤ (csL i).length) (hl : 0 < lt) (he : k = (csL i).length ∨ sbt i k.toNat = 32) (ha : al = lt) : num = wiR t a lt i := by
  unfold wiR
  rw [if_neg (by omega)]
  rcases h with ⟨_, h⟩ | ⟨h, _⟩
  · rw [← h]
    by_cases z : k = (csL i).length
    · rw [show k.toNat = (csL i).length by omega, List.drop_length]
      show num = if al = lt then num else -1
      rw [if_pos ha]
    · rw [csL_drop (by omega)]
      show num = if sbt i k.toNat = 32 then (if al = lt then num else _) else _
      rw [if_pos (by omega), if_pos ha]
  · omega
theorem WI.next {t : Nat → Int} {a i : Nat} {lt k num al k' num' : Int} (h : WI t a lt i k num al) (h0 : 0 ≤ k) (hk : k ≤ (csL i).length) (he : k = (csL i).length ∨ sbt i k.toNat = 32) (ha : al ≠ lt) (hk' : k' = k + 1) (hn : num' = num + 1) : WI t a lt i k' num' 0 := by
  rcases h with ⟨_, h⟩ | ⟨h, _⟩
  · by_cases z : k = (csL i).length
    · refine Or.inr ⟨by omega, ?_⟩
      rw [← h, show k.toNat = (csL i).length by omega, List.drop_length]
      show (if al = lt then num else -1) = -1
      rw [if_neg ha]
    · refine Or.inl ⟨by omega, ?_⟩
      rw [← h, csL_drop (k := k.toNat) (by omega)]
      show _ = if sbt i k.toNat = 32 then (if al = lt then num else wiL t a lt ((csL i).drop (k.toNat + 1)) (num + 1) 0) else _
      rw [if_pos (by omega), if_neg ha, show k'.toNat = k.toNat + 1 by omega, hn]
  · omega
theorem WI.step {t : Nat → Int} {a i : Nat} {lt k num al k' al' : Int} (h : WI t a lt i k num al) (h0 : 0 ≤ k) (hk : k < (csL i).length) (he : sbt i k.toNat ≠ 32) (hk' : k' = k + 1) (ha : (al < 0 ∧ al' = al) ∨ (0 ≤ al ∧ al < lt ∧ t (a + al.toNat) = sbt i k.toNat ∧ al' = al + 1) ∨ (0 ≤ al ∧ ¬ (al < lt ∧ t (a + al.toNat) = sbt i k.toNat) ∧ al' = -1)) : WI t a lt i k' num al' := by
  rcases h with ⟨_, h⟩ | ⟨h, _⟩
  · refine Or.inl ⟨by omega, ?_⟩
    rw [← h, csL_drop (k := k.toNat) (by omega)]
    show _ = if sbt i k.toNat = 32 then _ else wiL t a lt ((csL i).drop (k.toNat + 1)) num (if 0 ≤ al then (if al < lt ∧ t (a + al.toNat) = sbt i k.toNat then al + 1 else -1) else al)
    rw [if_neg he, show k'.toNat = k.toNat + 1 by omega]
    rcases ha with ⟨q, e⟩ | ⟨q, q1, q2, e⟩ | ⟨q, q1, e⟩
    · rw [if_neg (by omega), e]
    · rw [if_pos q, if_pos ⟨q1, q2⟩, e]
    · rw [if_pos q, if_neg q1, e]
  · omega
theorem WI.out {t : Nat → Int} {a i : Nat} {lt k num al : Int} (h : WI t a lt i k num al) (hk : (csL i).length < k ∨ lt ≤ 0) : -1 = wiR t a lt i := by
  unfold wiR
  by_cases z : lt ≤ 0
  · rw [if_pos z]
  · rw [if_neg z]
    rcases h with ⟨h, _⟩ | ⟨_, h⟩
    · omega
    · exact h.symm
theorem stp_le (t : Nat → Int) (n a : Nat) (h : a ≤ n) : a ≤ stp t n a ∧ stp t n a ≤ n ∧ (a < n → a + 1 ≤ stp t n a) := by
  by_cases z : a < n
  · have q := stp_rg (t := t) z
    omega
  · rw [stp_fin (by omega)]; omega
/-! words out of a list that a String tells -/
section WRD
variable {t : Nat → Int} {n a : Nat} {lt : Int}
theorem wiL_bad : ∀ (w rest : List Int) (num : Int), (∀ x ∈ w, x ≠ 32) → wiL t a lt (w ++ rest) num (-1) = wiL t a lt rest num (-1)
  | [], _, _, _ => rfl
  | ch :: w, rest, num, h => by
    show (if ch = 32 then _ else wiL t a lt (w ++ rest) num (if (0 : Int) ≤ -1 then _ else -1)) = _
    rw [if_neg (h ch List.mem_cons_self), if_neg (by omega)]
    exact wiL_bad w rest num (fun x hx => h x (List.mem_cons_of_mem _ hx))
theorem wiL_word : ∀ (w rest : List Int) (num al : Int), (∀ x ∈ w, x ≠ 32) → 0 ≤ al → al ≤ lt → wiL t a lt (w ++ rest) num al = wiL t a lt rest num (if al + w.length ≤ lt ∧ mt t (a + al.toNat) w = true then al + w.length else -1)
  | [], rest, num, al, _, h0, hl => by
    rw [if_pos ⟨by simpa using hl, rfl⟩]
    simp
  | ch :: w, rest, num, al, h, h0, hl => by
    have hw : ∀ x ∈ w, x ≠ 32 := fun x hx => h x (List.mem_cons_of_mem _ hx)
    have e : wiL t a lt (ch :: w ++ rest) num al = wiL t a lt (w ++ rest) num (if al < lt ∧ t (a + al.toNat) = ch then al + 1 else -1) := by
      show (if ch = 32 then _ else wiL t a lt (w ++ rest) num (if 0 ≤ al then _ else al)) = _
      rw [if_neg (h ch List.mem_cons_self), if_pos h0]
    rw [e]
    have m : mt t (a + al.toNat) (ch :: w) = ((t (a + al.toNat) == ch) && mt t (a + al.toNat + 1) w) := rfl
    have ln : ((ch :: w).length : Int) = w.length + 1 := by simp
    by_cases c : al < lt ∧ t (a + al.toNat) = ch
    · rw [if_pos c, wiL_word w rest num (al + 1) hw (by omega) (by omega), m, ln]
      have e1 : (t (a + al.toNat) == ch) = true := by rw [c.2]; exact beq_self_eq_true ch
      rw [e1, Bool.true_and, show a + (al + 1).toNat = a + al.toNat + 1 by omega]
      by_cases d : al + 1 + (w.length : Int) ≤ lt ∧ mt t (a + al.toNat + 1) w = true
      · rw [if_pos d, if_pos ⟨by omega, d.2⟩]; congr 1; omega
      · rw [if_neg d, if_neg (by intro q; exact d ⟨by omega, q.2⟩)]
    · rw [if_neg c, wiL_bad w rest num hw, if_neg]
      intro q
      rw [m, Bool.and_eq_true, beq_iff_eq, ln] at q
      exact c ⟨by omega, q.2.1⟩
def jnW : List (List Int) → List Int
  | [] => []
  | [w] => w
  | w :: v :: l => w ++ 32 :: jnW (v :: l)
theorem isw_iff (w : List Int) : isw t n a w = true ↔ (stp t n a = a + w.length ∧ mt t a w = true) := by
  unfold isw
  rw [Bool.and_eq_true, beq_iff_eq]
theorem wiL_one (w : List Int) (rest : List Int) (num : Int) (h : ∀ x ∈ w, x ≠ 32) (hl : lt = (stp t n a : Int) - a) (h0 : 0 < lt) : wiL t a lt (w ++ rest) num 0 = wiL t a lt rest num (if isw t n a w = true then lt else if (0 : Int) + w.length ≤ lt ∧ mt t (a + (0 : Int).toNat) w = true then 0 + w.length else -1) := by
  rw [wiL_word w rest num 0 h (by omega) (by omega)]
  by_cases c : isw t n a w = true
  · rw [if_pos c]
    have q := (isw_iff w).mp c
    rw [if_pos ⟨by omega, q.2⟩]
    congr 1
    omega
  · rw [if_neg c]
theorem wiL_isw (w : List Int) (hl : lt = (stp t n a : Int) - a) (h0 : 0 < lt) : ((if isw t n a w = true then lt else if (0 : Int) + w.length ≤ lt ∧ mt t (a + (0 : Int).toNat) w = true then 0 + (w.length : Int) else -1) = lt) ↔ isw t n a w = true := by
  by_cases c : isw t n a w = true
  · rw [if_pos c]; exact ⟨fun _ => c, fun _ => rfl⟩
  · rw [if_neg c]
    refine ⟨fun q => absurd ?_ c, fun q => absurd q c⟩
    by_cases d : (0 : Int) + w.length ≤ lt ∧ mt t (a + (0 : Int).toNat) w = true
    · rw [if_pos d] at q
      exact (isw_iff w).mpr ⟨by omega, d.2⟩
    · rw [if_neg d] at q; omega
theorem wiL_list (hl : lt = (stp t n a : Int) - a) (h0 : 0 < lt) : ∀ (ws : List (List Int)) (k : Nat), ws ≠ [] → (∀ w ∈ ws, ∀ x ∈ w, x ≠ 32) → wiL t a lt (jnW ws) k 0 = wix t n a ws k
  | [], _, h, _ => absurd rfl h
  | [w], k, _, h => by
    have q := wiL_one (t := t) (n := n) (a := a) w [] k (h w List.mem_cons_self) hl h0
    rw [List.append_nil] at q
    show wiL t a lt w k 0 = _
    rw [q]
    show (if _ = lt then (k : Int) else -1) = (if isw t n a w then (k : Int) else -1)
    by_cases c : isw t n a w = true
    · rw [if_pos ((wiL_isw w hl h0).mpr c), if_pos c]
    · rw [if_neg (fun z => c ((wiL_isw w hl h0).mp z)), if_neg c]
  | w :: v :: l, k, _, h => by
    show wiL t a lt (w ++ 32 :: jnW (v :: l)) k 0 = _
    rw [wiL_one (t := t) (n := n) (a := a) w _ k (h w List.mem_cons_self) hl h0]
    show (if (32 : Int) = 32 then (if _ = lt then (k : Int) else wiL t a lt (jnW (v :: l)) (k + 1) 0) else _) = (if isw t n a w then (k : Int) else wix t n a (v :: l) (k + 1))
    rw [if_pos rfl]
    by_cases c : isw t n a w = true
    · rw [if_pos ((wiL_isw w hl h0).mpr c), if_pos c]
    · rw [if_neg (fun z => c ((wiL_isw w hl h0).mp z)), if_neg c]
      exact wiL_list hl h0 (v :: l) (k + 1) (by simp) (fun x hx => h x (List.mem_cons_of_mem _ hx))
theorem wix_none : ∀ (ws : List (List Int)) (k : Nat), (∀ w ∈ ws, isw t n a w = false) → wix t n a ws k = -1
  | [], _, _ => rfl
  | w :: l, k, h => by
    show (if isw t n a w then _ else _) = _
    rw [if_neg (by rw [h w List.mem_cons_self]; simp)]
    exact wix_none l (k + 1) (fun x hx => h x (List.mem_cons_of_mem _ hx))
theorem wiR_list {i : Nat} (ws : List (List Int)) (h : ws ≠ []) (hc : csL i = jnW ws) (hb : ∀ w ∈ ws, ∀ x ∈ w, x ≠ 32) (hn : ∀ w ∈ ws, 0 < w.length) (ha : a ≤ n) : wiR t a ((stp t n a : Int) - a) i = wix t n a ws 0 := by
  unfold wiR
  by_cases z : (stp t n a : Int) - a ≤ 0
  · rw [if_pos z]
    refine (wix_none ws 0 (fun w hw => ?_)).symm
    have l := hn w hw
    cases c : isw t n a w with
    | false => rfl
    | true => have q := (isw_iff w).mp c; omega
  · rw [if_neg z, hc]
    exact wiL_list rfl (by omega) ws 0 h hb
end WRD
