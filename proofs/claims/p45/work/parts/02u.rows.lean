/-! MY SECOND BASE: the memory as numbers over a fixed world of cells (tables zNC, zkd, zln, zci, zfk, zrf, zlo, zhi stand ahead). -/
abbrev zM : Type := Nat → Nat → Int
abbrev vI (z : Int) : Value := .int (Int32.ofInt z)
abbrev vL (z : Int) : Value := .long (Int64.ofInt z)
def zset (M : zM) (c j : Nat) (v : Int) : zM := fun a b => if a = c ∧ b = j then v else M a b
theorem zset_eq (M : zM) (c j : Nat) (v : Int) : zset M c j v c j = v := by simp [zset]
theorem zset_ne (M : zM) (c j : Nat) (v : Int) {a b : Nat} (h : a ≠ c ∨ b ≠ j) : zset M c j v a b = M a b := by
  unfold zset
  rw [if_neg]
  rintro ⟨h1, h2⟩
  rcases h with h | h
  · exact h h1
  · exact h h2
def fldv (ad : Nat → Nat) (M : zM) (L : Nat → Nat → Int64) (c j : Nat) : Value :=
  if zfk (zci c) j = 0 then .int (Int32.ofInt (M c j)) else if zfk (zci c) j = 1 then .long (L c j) else .ref (ad (zrf c j))
def ent (k : Nat → ClassId) (ad : Nat → Nat) (M : zM) (L : Nat → Nat → Int64) (c : Nat) : va_E :=
  if zkd c = 6 then .inr (zci c, (List.range (zln c)).map (fldv ad M L c))
  else if zkd c = 1 then .inl (k 1, zln c, .inr (.inl (L c)))
  else if zkd c = 3 ∨ zkd c = 4 then .inl (k (zkd c), zln c, .inr (.inr (.inr (.inr (fun j => some (ad (zrf c j)))))))
  else .inl (k (zkd c), zln c, .inl (fun j => Int32.ofInt (M c j)))
def wW (k : Nat → ClassId) (ad : Nat → Nat) (M : zM) (L : Nat → Nat → Int64) : va_W := (List.range zNC).map (fun c => (ad c, ent k ad M L c))
theorem wW_at {k : Nat → ClassId} {ad : Nat → Nat} {M : zM} {L : Nat → Nat → Int64} {c : Nat} (h : c < zNC) : (wW k ad M L)[c]? = some (ad c, ent k ad M L c) := by
  unfold wW
  rw [List.getElem?_map, List.getElem?_range h]
  rfl
theorem wW_len {k : Nat → ClassId} {ad : Nat → Nat} {M : zM} {L : Nat → Nat → Int64} : (wW k ad M L).length = zNC := by simp [wW]
theorem ent_congr {k : Nat → ClassId} {ad : Nat → Nat} {M M' : zM} {L L' : Nat → Nat → Int64} {c : Nat} (h : ∀ j, M' c j = M c j) (h2 : ∀ j, L' c j = L c j) : ent k ad M' L' c = ent k ad M L c := by
  have e1 : (fldv ad M' L' c) = fldv ad M L c := by
    funext j
    unfold fldv
    rw [h j, h2 j]
  have e2 : L' c = L c := funext h2
  have e3 : (fun j => Int32.ofInt (M' c j)) = (fun j => Int32.ofInt (M c j)) := by funext j; rw [h j]
  unfold ent
  rw [e1, e2, e3]
theorem wW_set {k : Nat → ClassId} {ad : Nat → Nat} {M M' : zM} {L L' : Nat → Nat → Int64} {c : Nat} {e' : va_E} (hc : c < zNC) (he : ent k ad M' L' c = e') (h : ∀ a j, a ≠ c → M' a j = M a j) (h2 : ∀ a j, a ≠ c → L' a j = L a j) : (wW k ad M L).set c (ad c, e') = wW k ad M' L' := by
  apply List.ext_getElem?
  intro i
  by_cases hi : i < zNC
  · rw [wW_at hi]
    by_cases hic : i = c
    · subst hic
      rw [List.getElem?_set_self (by rw [wW_len]; exact hi), he]
    · rw [List.getElem?_set_ne (fun q => hic q.symm), wW_at hi, ent_congr (fun j => h i j hic) (fun j => h2 i j hic)]
  · rw [List.getElem?_eq_none (by rw [List.length_set, wW_len]; omega), List.getElem?_eq_none (by rw [wW_len]; omega)]
def zIv (M : zM) : Prop := ∀ c j, zlo c j ≤ M c j ∧ M c j ≤ zhi c j
theorem zIv.set {M : zM} (h : zIv M) {c j : Nat} {v : Int} (h1 : zlo c j ≤ v) (h2 : v ≤ zhi c j) : zIv (zset M c j v) := by
  intro a b
  unfold zset
  by_cases q : a = c ∧ b = j
  · obtain ⟨rfl, rfl⟩ := q
    rw [if_pos ⟨rfl, rfl⟩]
    exact ⟨h1, h2⟩
  · rw [if_neg q]
    exact h a b
def Hp (D : va_G) (k : Nat → ClassId) (ad : Nat → Nat) (M : zM) (H : Heap) : Prop := zIv M ∧ ∃ L : Nat → Nat → Int64, va_P D vwCl (wW k ad M L) H
def AA (ad : Nat → Nat) (sz : Nat) : Nat → Prop := fun q => (∃ c, c < zNC ∧ q = ad c) ∨ sz ≤ q
def zJ (ad : Nat → Nat) : Prop := ∀ a b, a < zNC → b < zNC → ad a = ad b → a = b
theorem wD {k : Nat → ClassId} {ad : Nat → Nat} {M : zM} {L : Nat → Nat → Int64} {sz : Nat} (hj : zJ ad) : va_D (AA ad sz) (wW k ad M L) := by
  have key : ∀ (i : Nat) (q : Nat × va_E), (wW k ad M L)[i]? = some q → i < zNC ∧ q.1 = ad i := by
    intro i q hq
    have hi : i < zNC := by have := (List.getElem?_eq_some_iff.mp hq).1; rwa [wW_len] at this
    rw [wW_at hi] at hq
    exact ⟨hi, by rw [← Option.some.inj hq]⟩
  refine ⟨fun i j p q hi hj' hpq => ?_, fun i q hi => ?_⟩
  · obtain ⟨h1, h2⟩ := key i p hi
    obtain ⟨h3, h4⟩ := key j q hj'
    exact hj i j h1 h3 (by rw [← h2, ← h4]; exact hpq)
  · obtain ⟨h1, h2⟩ := key i q hi
    exact Or.inl ⟨i, h1, h2⟩
/-- the launch's things: launch, class numbers, array classes, strings, addresses -/
abbrev Gam : Type := Launch × va_G × (Nat → ClassId) × (Nat → Nat) × (Nat → Nat)
abbrev gl (Γ : Gam) : Launch := Γ.1
abbrev gD (Γ : Gam) : va_G := Γ.2.1
abbrev gk (Γ : Gam) : Nat → ClassId := Γ.2.2.1
abbrev gs (Γ : Gam) : Nat → Nat := Γ.2.2.2.1
abbrev ga (Γ : Gam) : Nat → Nat := Γ.2.2.2.2
def aR (Γ : Gam) (c : Nat) : Value := .ref (ga Γ c)
def sR (Γ : Gam) (i : Nat) : Value := .ref (gs Γ (2 * i))
/-- a method's things -/
abbrev Cx : Type := Program × Env × Room × State × MethodId × Array Value × List Frame × Method × Code
abbrev xp (x : Cx) : Program := x.1
abbrev xe (x : Cx) : Env := x.2.1
abbrev xR (x : Cx) : Room := x.2.2.1
abbrev xs (x : Cx) : State := x.2.2.2.1
abbrev xm (x : Cx) : MethodId := x.2.2.2.2.1
abbrev xa (x : Cx) : Array Value := x.2.2.2.2.2.1
abbrev xb (x : Cx) : List Frame := x.2.2.2.2.2.2.1
abbrev xh (x : Cx) : Method := x.2.2.2.2.2.2.2.1
abbrev xc (x : Cx) : Code := x.2.2.2.2.2.2.2.2
abbrev xA (Γ : Gam) (x : Cx) : Nat → Prop := AA (ga Γ) (xs x).heap.size
def Ok (Γ : Gam) (x : Cx) (cc : ByteArray) (nL : Nat) (own : String) (fr lo : Nat) : Prop :=
  (xp x).tables.exec = Jvm.exec ∧ (xc x).code = cc ∧ (xc x).maxLocals = nL ∧ (xs x).vm.findClass own = some (xm x).cls ∧ (∀ w ∈ wsB, w.before (xa x) (xs x) = true) ∧
  va_K (gD Γ) vwCl (TY (gk Γ)) (xs x) ∧ EX (xs x) ∧ SX (gs Γ) (xA Γ x) (xs x) (xs x).heap ∧ zJ (ga Γ) ∧ (xh x).locks = false ∧ xR x = { frames := fr, cells := 0, slots := 0, locals := lo }
def G (Γ : Gam) (x : Cx) (nL : Nat) (Q : State → Prop) (M : zM) (pc : Nat) (lv : List (Nat × Value)) (st : List Value) : Prop :=
  ∀ (H : Heap) (locs : List Loc) (ls : Array Slot), Hp (gD Γ) (gk Γ) (ga Γ) M H → va_S (xA Γ x) (xs x).heap H locs → lv_has ls nL lv →
    W (xp x) (gl Γ) (xe x) (xR x) (xs x) (xm x) (xa x) (xb x) (xh x) (xc x) H locs 0 0 Q (F0 (xm x) pc ls st)
theorem bm32 {z : Int} (h1 : -2147483648 ≤ z) (h2 : z ≤ 2147483647) : z.bmod 4294967296 = z := Int.bmod_eq_of_le (by omega) (by omega)
theorem bm64 {z : Int} (h1 : -9223372036854775808 ≤ z) (h2 : z ≤ 9223372036854775807) : z.bmod 18446744073709551616 = z := Int.bmod_eq_of_le (by omega) (by omega)
theorem tI {z : Int} (h1 : -2147483648 ≤ z) (h2 : z ≤ 2147483647) : (Int32.ofInt z).toInt = z := by
  rw [Int32.toInt_ofInt]
  exact bm32 h1 h2
theorem tL {z : Int} (h1 : -9223372036854775808 ≤ z) (h2 : z ≤ 9223372036854775807) : (Int64.ofInt z).toInt = z := by
  rw [Int64.toInt_ofInt]
  exact bm64 h1 h2
theorem oI (x : Int32) : Int32.ofInt x.toInt = x := Int32.ofInt_toInt x
abbrev zR (z : Int) : Prop := -2147483648 ≤ z ∧ z ≤ 2147483647
theorem rI (x : Int32) : zR x.toInt := ⟨by have := Int32.le_toInt x; omega, by have := Int32.toInt_lt x; omega⟩
theorem eI {a b : Int} (ha : zR a) (hb : zR b) : Int32.ofInt a = Int32.ofInt b ↔ a = b := by
  constructor
  · intro h
    rw [← tI ha.1 ha.2, ← tI hb.1 hb.2, h]
  · intro h; rw [h]
theorem lI {a b : Int} (ha : zR a) (hb : zR b) : Int32.ofInt a < Int32.ofInt b ↔ a < b := by
  rw [Int32.lt_iff_toInt_lt, tI ha.1 ha.2, tI hb.1 hb.2]
theorem leI {a b : Int} (ha : zR a) (hb : zR b) : Int32.ofInt a ≤ Int32.ofInt b ↔ a ≤ b := by
  rw [Int32.le_iff_toInt_le, tI ha.1 ha.2, tI hb.1 hb.2]
theorem z0 : (0 : Int32) = Int32.ofInt 0 := by decide
theorem cN {z : Int} (h0 : 0 ≤ z) (h2 : z ≤ 2147483647) : (Int32.ofInt z).toNatClampNeg = z.toNat := by
  show (Int32.ofInt z).toInt.toNat = z.toNat
  rw [tI (by omega) h2]
theorem inI {z : Int} {n : Nat} (h0 : 0 ≤ z) (h1 : z < n) (h2 : z ≤ 2147483647) : vp_in (Int32.ofInt z) n := by
  unfold vp_in
  rw [cN h0 h2, z0, lI ⟨by omega, h2⟩ ⟨by omega, by omega⟩]
  omega
theorem divI {a b : Int} (ha : zR a) (hb : zR b) : Int32.ofInt a / Int32.ofInt b = Int32.ofInt (a.tdiv b) := Int32.toInt_inj.mp (by rw [Int32.toInt_div, tI ha.1 ha.2, tI hb.1 hb.2, Int32.toInt_ofInt])
theorem remI {a b : Int} (ha : zR a) (hb : zR b) : Int32.ofInt a - Int32.ofInt a / Int32.ofInt b * Int32.ofInt b = Int32.ofInt (a.tmod b) := by
  rw [divI ha hb, ← Int32.ofInt_mul, ← Int32.ofInt_sub, Int.tmod_def, Int.mul_comm b]
theorem bvn {b : Int} (h0 : 0 ≤ b) (h2 : b ≤ 2147483647) : (Int32.ofInt b).toBitVec.toNat = b.toNat := by
  rw [Int32.toBitVec_ofInt, BitVec.toNat_ofInt]
  omega
theorem bvi {v : Int32} (h : v.toBitVec.toNat < 2147483648) : v.toInt = v.toBitVec.toNat := by
  show v.toBitVec.toInt = _
  rw [BitVec.toInt_eq_toNat_cond]
  split <;> omega
theorem andI {a b : Int} (h0 : 0 ≤ b) (h2 : b ≤ 2147483647) : 0 ≤ (Int32.ofInt a &&& Int32.ofInt b).toInt ∧ (Int32.ofInt a &&& Int32.ofInt b).toInt ≤ b := by
  have e : (Int32.ofInt a &&& Int32.ofInt b).toBitVec.toNat ≤ b.toNat := by
    rw [Int32.toBitVec_and, BitVec.toNat_and, bvn h0 h2]
    exact Nat.and_le_right
  rw [bvi (by omega)]
  omega
theorem orI {a b : Int} (k : Nat) (hk : k ≤ 31) (a0 : 0 ≤ a) (a1 : a < 2 ^ k) (b0 : 0 ≤ b) (b1 : b < 2 ^ k) : 0 ≤ (Int32.ofInt a ||| Int32.ofInt b).toInt ∧ (Int32.ofInt a ||| Int32.ofInt b).toInt < 2 ^ k := by
  have hp : (2 : Nat) ^ k ≤ 2 ^ 31 := Nat.pow_le_pow_right (by decide) hk
  have hp' : ((2 : Int) ^ k) = ((2 ^ k : Nat) : Int) := by simp
  rw [hp'] at a1 b1 ⊢
  have e : (Int32.ofInt a ||| Int32.ofInt b).toBitVec.toNat < 2 ^ k := by
    rw [Int32.toBitVec_or, BitVec.toNat_or, bvn a0 (by omega), bvn b0 (by omega)]
    exact Nat.or_lt_two_pow (by omega) (by omega)
  rw [bvi (by omega)]
  omega
theorem xorI {a b : Int} (k : Nat) (hk : k ≤ 31) (a0 : 0 ≤ a) (a1 : a < 2 ^ k) (b0 : 0 ≤ b) (b1 : b < 2 ^ k) : 0 ≤ (Int32.ofInt a ^^^ Int32.ofInt b).toInt ∧ (Int32.ofInt a ^^^ Int32.ofInt b).toInt < 2 ^ k := by
  have hp : (2 : Nat) ^ k ≤ 2 ^ 31 := Nat.pow_le_pow_right (by decide) hk
  have hp' : ((2 : Int) ^ k) = ((2 ^ k : Nat) : Int) := by simp
  rw [hp'] at a1 b1 ⊢
  have e : (Int32.ofInt a ^^^ Int32.ofInt b).toBitVec.toNat < 2 ^ k := by
    rw [Int32.toBitVec_xor, BitVec.toNat_xor, bvn a0 (by omega), bvn b0 (by omega)]
    exact Nat.xor_lt_two_pow (by omega) (by omega)
  rw [bvi (by omega)]
  omega
theorem xorS {a b : Int} (a0 : -2147483648 ≤ a) (a1 : a < 0) (b0 : 0 ≤ b) (b1 : b ≤ 2147483647) : (Int32.ofInt a ^^^ Int32.ofInt b).toInt < 0 := by
  have ha : (Int32.ofInt a).toBitVec.msb = true := by
    rw [BitVec.msb_eq_toInt]
    exact decide_eq_true (by show (Int32.ofInt a).toInt < 0; rw [tI a0 (by omega)]; exact a1)
  have hb : (Int32.ofInt b).toBitVec.msb = false := by
    rw [BitVec.msb_eq_toInt]
    exact decide_eq_false (by show ¬ (Int32.ofInt b).toInt < 0; rw [tI (by omega) b1]; omega)
  have hc : (Int32.ofInt a ^^^ Int32.ofInt b).toBitVec.msb = true := by rw [Int32.toBitVec_xor, BitVec.msb_xor, ha, hb]; rfl
  rw [BitVec.msb_eq_toInt] at hc
  exact of_decide_eq_true hc
theorem shl1 : ∀ b : Fin 31, Int32.ofInt 1 <<< (Int32.ofInt (b.val : Int) &&& 31) = Int32.ofInt (2 ^ b.val) := by decide +kernel
theorem shlI {b : Int} (h0 : 0 ≤ b) (h2 : b ≤ 30) : Int32.ofInt 1 <<< (Int32.ofInt b &&& 31) = Int32.ofInt (2 ^ b.toNat) := by
  have h := shl1 ⟨b.toNat, by omega⟩
  rwa [show ((b.toNat : Nat) : Int) = b by omega] at h
theorem cmpL {a b : Int} (a1 : -9223372036854775808 ≤ a) (a2 : a ≤ 9223372036854775807) (b1 : -9223372036854775808 ≤ b) (b2 : b ≤ 9223372036854775807) : lg_cmp (Int64.ofInt a) (Int64.ofInt b) = Int32.ofInt (if b < a then 1 else if a = b then 0 else -1) := by
  unfold lg_cmp
  have e1 : Int64.ofInt a > Int64.ofInt b ↔ b < a := by
    show Int64.ofInt b < Int64.ofInt a ↔ _
    rw [Int64.lt_iff_toInt_lt, tL a1 a2, tL b1 b2]
  have e2 : Int64.ofInt a = Int64.ofInt b ↔ a = b := by
    constructor
    · intro h; rw [← tL a1 a2, ← tL b1 b2, h]
    · intro h; rw [h]
  by_cases h1 : b < a
  · rw [if_pos (e1.mpr h1), if_pos h1]; rfl
  · rw [if_neg (fun q => h1 (e1.mp q)), if_neg h1]
    by_cases h2 : a = b
    · rw [if_pos (e2.mpr h2), if_pos h2]; rfl
    · rw [if_neg (fun q => h2 (e2.mp q)), if_neg h2]; rfl
section GR
variable {Γ : Gam} {x : Cx} {cc : ByteArray} {nL : Nat} {own : String} {fr lo : Nat} {Q : State → Prop} {M : zM} {pc n : Nat} {lv : List (Nat × Value)} {st : List Value}
/-- what is not known of a number -/
theorem g_any {a : Int} (kk : ∀ z, zR z → G Γ x nL Q M pc lv (vI z :: st)) : G Γ x nL Q M pc lv (vI a :: st) := by
  have h := kk (Int32.ofInt a).toInt (rI _)
  rwa [show vI (Int32.ofInt a).toInt = vI a from by show Value.int _ = _; rw [oI]] at h
theorem g_anyI {a : Int32} (kk : ∀ z, zR z → G Γ x nL Q M pc lv (vI z :: st)) : G Γ x nL Q M pc lv (.int a :: st) := by
  have h := kk a.toInt (rI _)
  rwa [show vI a.toInt = .int a from by show Value.int _ = _; rw [oI]] at h
theorem g_top {v w : Value} (h : v = w) (kk : G Γ x nL Q M pc lv (w :: st)) : G Γ x nL Q M pc lv (v :: st) := by rw [h]; exact kk
theorem g_iconst (hx : Ok Γ x cc nL own fr lo) {z : Int} (d : decode cc pc = .ok (.iconst z, 1)) (hn : pc + 1 = n) (kk : G Γ x nL Q M n lv (vI z :: st)) : G Γ x nL Q M pc lv st := by
  subst hn; intro H locs ls hH hS hl; exact lv_iconst hx.1 hx.2.1 d rfl (kk H locs ls hH hS hl)
theorem g_bipush (hx : Ok Γ x cc nL own fr lo) {z : Int} (d : decode cc pc = .ok (.bipush z, 2)) (hn : pc + 2 = n) (hz : (Int8.ofInt z).toInt32 = Int32.ofInt z) (kk : G Γ x nL Q M n lv (vI z :: st)) : G Γ x nL Q M pc lv st := by
  subst hn; intro H locs ls hH hS hl; exact lv_bipush hx.1 hx.2.1 d hz (kk H locs ls hH hS hl)
theorem g_sipush (hx : Ok Γ x cc nL own fr lo) {z : Int} (d : decode cc pc = .ok (.sipush z, 3)) (hn : pc + 3 = n) (hz : (Int16.ofInt z).toInt32 = Int32.ofInt z) (kk : G Γ x nL Q M n lv (vI z :: st)) : G Γ x nL Q M pc lv st := by
  subst hn; intro H locs ls hH hS hl; exact lv_sipush hx.1 hx.2.1 d hz (kk H locs ls hH hS hl)
theorem g_lconst (hx : Ok Γ x cc nL own fr lo) {q : Fin 2} {z : Int} (d : decode cc pc = .ok (.lconst q, 1)) (hn : pc + 1 = n) (hz : Int64.ofNat (q : Nat) = Int64.ofInt z) (kk : G Γ x nL Q M n lv (vL z :: st)) : G Γ x nL Q M pc lv st := by
  subst hn; intro H locs ls hH hS hl; exact lv_lconst hx.1 hx.2.1 d hz (kk H locs ls hH hS hl)
theorem g_ldc (hx : Ok Γ x cc nL own fr lo) {i : Nat} {z : Int} {v : Int32} (w : Cond.constant own i v ∈ wsB) (hv : v = Int32.ofInt z) (d : decode cc pc = .ok (.ldc i, 2)) (hn : pc + 2 = n) (kk : G Γ x nL Q M n lv (vI z :: st)) : G Γ x nL Q M pc lv st := by
  subst hn; subst hv; intro H locs ls hH hS hl; exact lv_ldc hx.1 hx.2.1 hx.2.2.2.1 (hx.2.2.2.2.1 _ w) d (kk H locs ls hH hS hl)
theorem g_ldcw (hx : Ok Γ x cc nL own fr lo) {i : Nat} {z : Int} {v : Int32} (w : Cond.constant own i v ∈ wsB) (hv : v = Int32.ofInt z) (d : decode cc pc = .ok (.ldc_w i, 3)) (hn : pc + 3 = n) (kk : G Γ x nL Q M n lv (vI z :: st)) : G Γ x nL Q M pc lv st := by
  subst hn; subst hv; intro H locs ls hH hS hl; exact lv_ldcw hx.1 hx.2.1 hx.2.2.2.1 (hx.2.2.2.2.1 _ w) d (kk H locs ls hH hS hl)
theorem g_ldc2 (hx : Ok Γ x cc nL own fr lo) {i : Nat} {z : Int} {v : Int64} (w : Cond.constantLong own i v ∈ wsB) (hv : v = Int64.ofInt z) (d : decode cc pc = .ok (.ldc2_w i, 3)) (hn : pc + 3 = n) (kk : G Γ x nL Q M n lv (vL z :: st)) : G Γ x nL Q M pc lv st := by
  subst hn; subst hv; intro H locs ls hH hS hl; exact lv_ldc2 hx.1 hx.2.1 hx.2.2.2.1 (hx.2.2.2.2.1 _ w) d (kk H locs ls hH hS hl)
theorem g_ldcS (hx : Ok Γ x cc nL own fr lo) {i q : Nat} {r : String × Nat × String × Nat} (hr : sN[q]? = some r) (h1 : r.1 = own) (h2 : r.2.1 = i) (d : decode cc pc = .ok (.ldc i, 2)) (hn : pc + 2 = n) (kk : G Γ x nL Q M n lv (sR Γ q :: st)) : G Γ x nL Q M pc lv st := by
  subst hn; subst h1; subst h2; intro H locs ls hH hS hl; exact va_ldcS hx.1 hx.2.1 hx.2.2.2.1 (hx.2.2.2.2.2.2.2.1.2 q r hr).1 d (kk H locs ls hH hS hl)
theorem g_ldcwS (hx : Ok Γ x cc nL own fr lo) {i q : Nat} {r : String × Nat × String × Nat} (hr : sN[q]? = some r) (h1 : r.1 = own) (h2 : r.2.1 = i) (d : decode cc pc = .ok (.ldc_w i, 3)) (hn : pc + 3 = n) (kk : G Γ x nL Q M n lv (sR Γ q :: st)) : G Γ x nL Q M pc lv st := by
  subst hn; subst h1; subst h2; intro H locs ls hH hS hl; exact x_ldcwS hx.1 hx.2.1 hx.2.2.2.1 (hx.2.2.2.2.2.2.2.1.2 q r hr).1 d (kk H locs ls hH hS hl)
theorem g_iload_n (hx : Ok Γ x cc nL own fr lo) {q : Fin 4} {z : Int} (j : Nat) (d : decode cc pc = .ok (.iload_n q, 1)) (hv : lv[j]? = some ((q : Nat), vI z)) (hn : pc + 1 = n) (kk : G Γ x nL Q M n lv (vI z :: st)) : G Γ x nL Q M pc lv st := by
  subst hn; intro H locs ls hH hS hl; exact lv_iload_n hx.1 hx.2.1 d rfl (lv_at hl j hv) (kk H locs ls hH hS hl)
theorem g_iload (hx : Ok Γ x cc nL own fr lo) {q : Nat} {z : Int} (j : Nat) (d : decode cc pc = .ok (.iload q, 2)) (hv : lv[j]? = some (q, vI z)) (hn : pc + 2 = n) (kk : G Γ x nL Q M n lv (vI z :: st)) : G Γ x nL Q M pc lv st := by
  subst hn; intro H locs ls hH hS hl; exact lv_iload hx.1 hx.2.1 d (lv_at hl j hv) (kk H locs ls hH hS hl)
theorem g_lload_n (hx : Ok Γ x cc nL own fr lo) {q : Fin 4} {z : Int64} (j : Nat) (d : decode cc pc = .ok (.lload_n q, 1)) (hv : lv[j]? = some ((q : Nat), .long z)) (hn : pc + 1 = n) (kk : G Γ x nL Q M n lv (.long z :: st)) : G Γ x nL Q M pc lv st := by
  subst hn; intro H locs ls hH hS hl; exact lv_lload_n hx.1 hx.2.1 d rfl (lv_at hl j hv) (kk H locs ls hH hS hl)
theorem g_lload (hx : Ok Γ x cc nL own fr lo) {q : Nat} {z : Int64} (j : Nat) (d : decode cc pc = .ok (.lload q, 2)) (hv : lv[j]? = some (q, .long z)) (hn : pc + 2 = n) (kk : G Γ x nL Q M n lv (.long z :: st)) : G Γ x nL Q M pc lv st := by
  subst hn; intro H locs ls hH hS hl; exact lv_lload hx.1 hx.2.1 d (lv_at hl j hv) (kk H locs ls hH hS hl)
theorem g_aload_n (hx : Ok Γ x cc nL own fr lo) {q : Fin 4} {c : Nat} (j : Nat) (d : decode cc pc = .ok (.aload_n q, 1)) (hv : lv[j]? = some ((q : Nat), aR Γ c)) (hn : pc + 1 = n) (kk : G Γ x nL Q M n lv (aR Γ c :: st)) : G Γ x nL Q M pc lv st := by
  subst hn; intro H locs ls hH hS hl; exact lv_aload_n hx.1 hx.2.1 d rfl (lv_at hl j hv) (kk H locs ls hH hS hl)
theorem g_aload (hx : Ok Γ x cc nL own fr lo) {q : Nat} {c : Nat} (j : Nat) (d : decode cc pc = .ok (.aload q, 2)) (hv : lv[j]? = some (q, aR Γ c)) (hn : pc + 2 = n) (kk : G Γ x nL Q M n lv (aR Γ c :: st)) : G Γ x nL Q M pc lv st := by
  subst hn; intro H locs ls hH hS hl; exact lv_aload hx.1 hx.2.1 d (lv_at hl j hv) (kk H locs ls hH hS hl)
theorem g_aload_nS (hx : Ok Γ x cc nL own fr lo) {q : Fin 4} {c : Nat} (j : Nat) (d : decode cc pc = .ok (.aload_n q, 1)) (hv : lv[j]? = some ((q : Nat), sR Γ c)) (hn : pc + 1 = n) (kk : G Γ x nL Q M n lv (sR Γ c :: st)) : G Γ x nL Q M pc lv st := by
  subst hn; intro H locs ls hH hS hl; exact lv_aload_n hx.1 hx.2.1 d rfl (lv_at hl j hv) (kk H locs ls hH hS hl)
theorem g_istore_n (hx : Ok Γ x cc nL own fr lo) {q : Fin 4} {z : Int} {lv' : List (Nat × Value)} (d : decode cc pc = .ok (.istore_n q, 1)) (hi : (q : Nat) < nL) (hv : ((q : Nat), vI z) :: lv.filter (fun t => !(t.1 == (q : Nat)) && !(t.1 + 1 == (q : Nat) && t.2.category == 2)) = lv') (hn : pc + 1 = n) (kk : G Γ x nL Q M n lv' st) : G Γ x nL Q M pc lv (vI z :: st) := by
  subst hn; intro H locs ls hH hS hl; exact lv_istore_n hx.1 hx.2.1 d rfl hl hi hv (fun ls' hl' => kk H locs ls' hH hS hl')
theorem g_istore (hx : Ok Γ x cc nL own fr lo) {q : Nat} {z : Int} {lv' : List (Nat × Value)} (d : decode cc pc = .ok (.istore q, 2)) (hi : q < nL) (hv : (q, vI z) :: lv.filter (fun t => !(t.1 == q) && !(t.1 + 1 == q && t.2.category == 2)) = lv') (hn : pc + 2 = n) (kk : G Γ x nL Q M n lv' st) : G Γ x nL Q M pc lv (vI z :: st) := by
  subst hn; intro H locs ls hH hS hl; exact lv_istore hx.1 hx.2.1 d hl hi hv (fun ls' hl' => kk H locs ls' hH hS hl')
theorem g_lstore_n (hx : Ok Γ x cc nL own fr lo) {q : Fin 4} {z : Int64} {lv' : List (Nat × Value)} (d : decode cc pc = .ok (.lstore_n q, 1)) (hi : (q : Nat) + 1 < nL) (hv : ((q : Nat), Value.long z) :: lv.filter (fun t => !(t.1 == (q : Nat)) && (!(t.1 == (q : Nat) + 1) && !(t.1 + 1 == (q : Nat) && t.2.category == 2))) = lv') (hn : pc + 1 = n) (kk : G Γ x nL Q M n lv' st) : G Γ x nL Q M pc lv (.long z :: st) := by
  subst hn; intro H locs ls hH hS hl; exact lv_lstore_n hx.1 hx.2.1 d rfl hl hi hv (fun ls' hl' => kk H locs ls' hH hS hl')
theorem g_lstore (hx : Ok Γ x cc nL own fr lo) {q : Nat} {z : Int64} {lv' : List (Nat × Value)} (d : decode cc pc = .ok (.lstore q, 2)) (hi : q + 1 < nL) (hv : (q, Value.long z) :: lv.filter (fun t => !(t.1 == q) && (!(t.1 == q + 1) && !(t.1 + 1 == q && t.2.category == 2))) = lv') (hn : pc + 2 = n) (kk : G Γ x nL Q M n lv' st) : G Γ x nL Q M pc lv (.long z :: st) := by
  subst hn; intro H locs ls hH hS hl; exact lv_lstore hx.1 hx.2.1 d hl hi hv (fun ls' hl' => kk H locs ls' hH hS hl')
theorem g_astore_n (hx : Ok Γ x cc nL own fr lo) {q : Fin 4} {c : Nat} {lv' : List (Nat × Value)} (d : decode cc pc = .ok (.astore_n q, 1)) (hi : (q : Nat) < nL) (hv : ((q : Nat), aR Γ c) :: lv.filter (fun t => !(t.1 == (q : Nat)) && !(t.1 + 1 == (q : Nat) && t.2.category == 2)) = lv') (hn : pc + 1 = n) (kk : G Γ x nL Q M n lv' st) : G Γ x nL Q M pc lv (aR Γ c :: st) := by
  subst hn; intro H locs ls hH hS hl; exact lv_astore_n hx.1 hx.2.1 d rfl hl hi hv (fun ls' hl' => kk H locs ls' hH hS hl')
theorem g_astore (hx : Ok Γ x cc nL own fr lo) {q : Nat} {c : Nat} {lv' : List (Nat × Value)} (d : decode cc pc = .ok (.astore q, 2)) (hi : q < nL) (hv : (q, aR Γ c) :: lv.filter (fun t => !(t.1 == q) && !(t.1 + 1 == q && t.2.category == 2)) = lv') (hn : pc + 2 = n) (kk : G Γ x nL Q M n lv' st) : G Γ x nL Q M pc lv (aR Γ c :: st) := by
  subst hn; intro H locs ls hH hS hl; exact lv_astore hx.1 hx.2.1 d hl hi hv (fun ls' hl' => kk H locs ls' hH hS hl')
theorem g_iinc (hx : Ok Γ x cc nL own fr lo) {q : Nat} {b z : Int} {lv' : List (Nat × Value)} (j : Nat) (d : decode cc pc = .ok (.iinc q b, 3)) (hj : lv[j]? = some (q, vI z)) (hi : q < nL) (hv : (q, vI (z + b)) :: lv.filter (fun t => !(t.1 == q) && !(t.1 + 1 == q && t.2.category == 2)) = lv') (hn : pc + 3 = n) (kk : G Γ x nL Q M n lv' st) : G Γ x nL Q M pc lv st := by
  subst hn; intro H locs ls hH hS hl; exact lv_iinc hx.1 hx.2.1 d hl hj (Int32.ofInt_add z b).symm hi hv (fun ls' hl' => kk H locs ls' hH hS hl')
theorem g_iadd (hx : Ok Γ x cc nL own fr lo) {a b : Int} (d : decode cc pc = .ok (.iadd, 1)) (hn : pc + 1 = n) (kk : G Γ x nL Q M n lv (vI (a + b) :: st)) : G Γ x nL Q M pc lv (vI b :: vI a :: st) := by
  subst hn; intro H locs ls hH hS hl; refine lv_iadd hx.1 hx.2.1 d ?_; rw [← Int32.ofInt_add]; exact kk H locs ls hH hS hl
theorem g_isub (hx : Ok Γ x cc nL own fr lo) {a b : Int} (d : decode cc pc = .ok (.isub, 1)) (hn : pc + 1 = n) (kk : G Γ x nL Q M n lv (vI (a - b) :: st)) : G Γ x nL Q M pc lv (vI b :: vI a :: st) := by
  subst hn; intro H locs ls hH hS hl; refine lv_isub hx.1 hx.2.1 d ?_; rw [← Int32.ofInt_sub]; exact kk H locs ls hH hS hl
theorem g_imul (hx : Ok Γ x cc nL own fr lo) {a b : Int} (d : decode cc pc = .ok (.imul, 1)) (hn : pc + 1 = n) (kk : G Γ x nL Q M n lv (vI (a * b) :: st)) : G Γ x nL Q M pc lv (vI b :: vI a :: st) := by
  subst hn; intro H locs ls hH hS hl; refine lv_imul hx.1 hx.2.1 d ?_; rw [← Int32.ofInt_mul]; exact kk H locs ls hH hS hl
theorem g_idiv (hx : Ok Γ x cc nL own fr lo) {a b : Int} (d : decode cc pc = .ok (.idiv, 1)) (hn : pc + 1 = n) (ha : zR a) (hb : zR b) (h0 : b ≠ 0) (kk : ∀ z, zR z → (0 ≤ a → 0 < b → z = a / b ∧ 0 ≤ z ∧ z ≤ a) → G Γ x nL Q M n lv (vI z :: st)) : G Γ x nL Q M pc lv (vI b :: vI a :: st) := by
  subst hn; intro H locs ls hH hS hl
  refine lv_idiv hx.1 hx.2.1 d (by rw [z0, eI hb ⟨by omega, by omega⟩]; exact h0) ?_
  have h := kk (Int32.ofInt a / Int32.ofInt b).toInt (rI _) (fun ha1 hb1 => by
    have h3 : a / b ≤ a := Int.ediv_le_self b ha1
    have h4 : 0 ≤ a / b := Int.ediv_nonneg ha1 (by omega)
    rw [divI ha hb, Int.tdiv_eq_ediv_of_nonneg ha1, tI (by omega) (by omega)]
    exact ⟨rfl, h4, h3⟩) H locs ls hH hS hl
  rwa [show vI (Int32.ofInt a / Int32.ofInt b).toInt = .int (Int32.ofInt a / Int32.ofInt b) from by show Value.int _ = _; rw [oI]] at h
theorem g_irem (hx : Ok Γ x cc nL own fr lo) {a b : Int} (d : decode cc pc = .ok (.irem, 1)) (hn : pc + 1 = n) (ha : zR a) (hb : zR b) (h0 : b ≠ 0) (kk : ∀ z, zR z → (0 < b → -b < z ∧ z < b ∧ (0 ≤ a → 0 ≤ z ∧ z ≤ a ∧ z = a % b) ∧ (a ≤ 0 → z ≤ 0)) → G Γ x nL Q M n lv (vI z :: st)) : G Γ x nL Q M pc lv (vI b :: vI a :: st) := by
  subst hn; intro H locs ls hH hS hl
  refine lv_irem hx.1 hx.2.1 d (by rw [z0, eI hb ⟨by omega, by omega⟩]; exact h0) ?_
  rw [remI ha hb]
  have h := kk (Int32.ofInt (a.tmod b)).toInt (rI _) (fun hb1 => by
    have h3 : a.tmod b < b := Int.tmod_lt_of_pos a hb1
    have h4 : -b < a.tmod b := by
      have := Int.lt_tmod_of_pos a hb1
      omega
    rw [tI (by omega) (by omega)]
    refine ⟨h4, h3, fun ha0 => ?_, fun ha0 => ?_⟩
    rotate_left
    · have h7 := Int.tmod_nonneg b (a := -a) (by omega)
      rw [Int.neg_tmod] at h7
      omega
    rw [Int.tmod_eq_emod_of_nonneg ha0]
    have h5 : a % b = a - b * (a / b) := Int.emod_def a b
    have h6 : 0 ≤ b * (a / b) := Int.mul_nonneg (by omega) (Int.ediv_nonneg ha0 (by omega))
    exact ⟨Int.emod_nonneg a (by omega), by omega, rfl⟩) H locs ls hH hS hl
  rwa [show vI (Int32.ofInt (a.tmod b)).toInt = .int (Int32.ofInt (a.tmod b)) from by show Value.int _ = _; rw [oI]] at h
theorem g_iand (hx : Ok Γ x cc nL own fr lo) {a b : Int} (d : decode cc pc = .ok (.iand, 1)) (hn : pc + 1 = n) (kk : ∀ z, zR z → (0 ≤ b → b ≤ 2147483647 → 0 ≤ z ∧ z ≤ b) → (0 ≤ a → a ≤ 2147483647 → 0 ≤ z ∧ z ≤ a) → G Γ x nL Q M n lv (vI z :: st)) : G Γ x nL Q M pc lv (vI b :: vI a :: st) := by
  subst hn; intro H locs ls hH hS hl
  refine lv_iand hx.1 hx.2.1 d ?_
  have h := kk (Int32.ofInt a &&& Int32.ofInt b).toInt (rI _) (fun h1 h2 => andI h1 h2) (fun h1 h2 => by rw [Int32.and_comm]; exact andI h1 h2) H locs ls hH hS hl
  rwa [show vI (Int32.ofInt a &&& Int32.ofInt b).toInt = .int (Int32.ofInt a &&& Int32.ofInt b) from by show Value.int _ = _; rw [oI]] at h
theorem g_ior (hx : Ok Γ x cc nL own fr lo) {a b : Int} (d : decode cc pc = .ok (.ior, 1)) (hn : pc + 1 = n) (kk : ∀ z, zR z → (∀ k : Nat, k ≤ 31 → 0 ≤ a → a < 2 ^ k → 0 ≤ b → b < 2 ^ k → 0 ≤ z ∧ z < 2 ^ k) → G Γ x nL Q M n lv (vI z :: st)) : G Γ x nL Q M pc lv (vI b :: vI a :: st) := by
  subst hn; intro H locs ls hH hS hl
  refine lv_ior hx.1 hx.2.1 d ?_
  have h := kk (Int32.ofInt a ||| Int32.ofInt b).toInt (rI _) (fun k hk a0 a1 b0 b1 => orI k hk a0 a1 b0 b1) H locs ls hH hS hl
  rwa [show vI (Int32.ofInt a ||| Int32.ofInt b).toInt = .int (Int32.ofInt a ||| Int32.ofInt b) from by show Value.int _ = _; rw [oI]] at h
theorem g_ixor (hx : Ok Γ x cc nL own fr lo) {a b : Int} (d : decode cc pc = .ok (.ixor, 1)) (hn : pc + 1 = n) (kk : ∀ z, zR z → (∀ k : Nat, k ≤ 31 → 0 ≤ a → a < 2 ^ k → 0 ≤ b → b < 2 ^ k → 0 ≤ z ∧ z < 2 ^ k) → (-2147483648 ≤ a → a < 0 → 0 ≤ b → b ≤ 2147483647 → z < 0) → G Γ x nL Q M n lv (vI z :: st)) : G Γ x nL Q M pc lv (vI b :: vI a :: st) := by
  subst hn; intro H locs ls hH hS hl
  refine lv_ixor hx.1 hx.2.1 d ?_
  have h := kk (Int32.ofInt a ^^^ Int32.ofInt b).toInt (rI _) (fun k hk a0 a1 b0 b1 => xorI k hk a0 a1 b0 b1) (fun a0 a1 b0 b1 => xorS a0 a1 b0 b1) H locs ls hH hS hl
  rwa [show vI (Int32.ofInt a ^^^ Int32.ofInt b).toInt = .int (Int32.ofInt a ^^^ Int32.ofInt b) from by show Value.int _ = _; rw [oI]] at h
theorem g_ishl (hx : Ok Γ x cc nL own fr lo) {a b : Int} (d : decode cc pc = .ok (.ishl, 1)) (hn : pc + 1 = n) (kk : ∀ z, zR z → G Γ x nL Q M n lv (vI z :: st)) : G Γ x nL Q M pc lv (vI b :: vI a :: st) := by
  subst hn; intro H locs ls hH hS hl
  refine lv_ishl hx.1 hx.2.1 d ?_
  have h := kk (Int32.ofInt a <<< (Int32.ofInt b &&& 31)).toInt (rI _) H locs ls hH hS hl
  rwa [show vI (Int32.ofInt a <<< (Int32.ofInt b &&& 31)).toInt = .int (Int32.ofInt a <<< (Int32.ofInt b &&& 31)) from by show Value.int _ = _; rw [oI]] at h
theorem g_ishl1 (hx : Ok Γ x cc nL own fr lo) {b : Int} (d : decode cc pc = .ok (.ishl, 1)) (hn : pc + 1 = n) (h0 : 0 ≤ b) (h1 : b ≤ 30) (kk : G Γ x nL Q M n lv (vI (2 ^ b.toNat) :: st)) : G Γ x nL Q M pc lv (vI b :: vI 1 :: st) := by
  subst hn; intro H locs ls hH hS hl
  refine lv_ishl hx.1 hx.2.1 d ?_
  rw [shlI h0 h1]
  exact kk H locs ls hH hS hl
theorem g_ishr (hx : Ok Γ x cc nL own fr lo) {a b : Int} (d : decode cc pc = .ok (.ishr, 1)) (hn : pc + 1 = n) (kk : ∀ z, zR z → G Γ x nL Q M n lv (vI z :: st)) : G Γ x nL Q M pc lv (vI b :: vI a :: st) := by
  subst hn; intro H locs ls hH hS hl
  refine lv_ishr hx.1 hx.2.1 d ?_
  have h := kk (Int32.ofInt a >>> (Int32.ofInt b &&& 31)).toInt (rI _) H locs ls hH hS hl
  rwa [show vI (Int32.ofInt a >>> (Int32.ofInt b &&& 31)).toInt = .int (Int32.ofInt a >>> (Int32.ofInt b &&& 31)) from by show Value.int _ = _; rw [oI]] at h
theorem g_iushr (hx : Ok Γ x cc nL own fr lo) {a b : Int} (d : decode cc pc = .ok (.iushr, 1)) (hn : pc + 1 = n) (kk : ∀ z, zR z → G Γ x nL Q M n lv (vI z :: st)) : G Γ x nL Q M pc lv (vI b :: vI a :: st) := by
  subst hn; intro H locs ls hH hS hl
  refine lv_iushr hx.1 hx.2.1 d rfl ?_
  exact g_anyI kk H locs ls hH hS hl
theorem g_l2i (hx : Ok Γ x cc nL own fr lo) {w : Int64} (d : decode cc pc = .ok (.l2i, 1)) (hn : pc + 1 = n) (kk : ∀ z, zR z → G Γ x nL Q M n lv (vI z :: st)) : G Γ x nL Q M pc lv (.long w :: st) := by
  subst hn; intro H locs ls hH hS hl
  refine lv_l2i hx.1 hx.2.1 d rfl ?_
  exact g_anyI kk H locs ls hH hS hl
theorem g_i2b (hx : Ok Γ x cc nL own fr lo) {a : Int} (d : decode cc pc = .ok (.i2b, 1)) (hn : pc + 1 = n) (kk : ∀ z, -128 ≤ z → z ≤ 127 → G Γ x nL Q M n lv (vI z :: st)) : G Γ x nL Q M pc lv (vI a :: st) := by
  subst hn; intro H locs ls hH hS hl
  refine lv_i2b hx.1 hx.2.1 d rfl ?_
  have h1 := Int8.le_toInt (Int32.ofInt a).toInt8
  have h2 := Int8.toInt_lt (Int32.ofInt a).toInt8
  have e : (Int32.ofInt a).toInt8.toInt32.toInt = (Int32.ofInt a).toInt8.toInt := Int8.toInt_toInt32 _
  have h := kk (Int32.ofInt a).toInt8.toInt32.toInt (by omega) (by omega) H locs ls hH hS hl
  rwa [show vI (Int32.ofInt a).toInt8.toInt32.toInt = .int (Int32.ofInt a).toInt8.toInt32 from by show Value.int _ = _; rw [oI]] at h
theorem g_i2c (hx : Ok Γ x cc nL own fr lo) {a : Int} (d : decode cc pc = .ok (.i2c, 1)) (hn : pc + 1 = n) (kk : ∀ z, zR z → G Γ x nL Q M n lv (vI z :: st)) : G Γ x nL Q M pc lv (vI a :: st) := by
  subst hn; intro H locs ls hH hS hl
  refine lv_i2c hx.1 hx.2.1 d rfl ?_
  exact g_anyI kk H locs ls hH hS hl
theorem g_i2l (hx : Ok Γ x cc nL own fr lo) {a : Int} (d : decode cc pc = .ok (.i2l, 1)) (hn : pc + 1 = n) (ha : zR a) (kk : G Γ x nL Q M n lv (vL a :: st)) : G Γ x nL Q M pc lv (vI a :: st) := by
  subst hn; intro H locs ls hH hS hl
  refine lv_i2l (v := Int64.ofInt a) hx.1 hx.2.1 d (Int64.toInt_inj.mp (by rw [Int32.toInt_toInt64, tI ha.1 ha.2, tL (by omega) (by omega)])) ?_
  exact kk H locs ls hH hS hl
theorem g_i2lU (hx : Ok Γ x cc nL own fr lo) {a : Int} (d : decode cc pc = .ok (.i2l, 1)) (hn : pc + 1 = n) (kk : ∀ w : Int64, G Γ x nL Q M n lv (.long w :: st)) : G Γ x nL Q M pc lv (vI a :: st) := by
  subst hn; intro H locs ls hH hS hl
  refine lv_i2l hx.1 hx.2.1 d rfl ?_
  exact kk _ H locs ls hH hS hl
theorem g_ladd (hx : Ok Γ x cc nL own fr lo) {a b : Int64} (d : decode cc pc = .ok (.ladd, 1)) (hn : pc + 1 = n) (kk : ∀ w : Int64, G Γ x nL Q M n lv (.long w :: st)) : G Γ x nL Q M pc lv (.long b :: .long a :: st) := by
  subst hn; intro H locs ls hH hS hl
  refine lv_ladd hx.1 hx.2.1 d ?_
  exact kk _ H locs ls hH hS hl
theorem g_lsub (hx : Ok Γ x cc nL own fr lo) {a b : Int64} (d : decode cc pc = .ok (.lsub, 1)) (hn : pc + 1 = n) (kk : ∀ w : Int64, G Γ x nL Q M n lv (.long w :: st)) : G Γ x nL Q M pc lv (.long b :: .long a :: st) := by
  subst hn; intro H locs ls hH hS hl
  refine lv_lsub hx.1 hx.2.1 d ?_
  exact kk _ H locs ls hH hS hl
theorem g_lmul (hx : Ok Γ x cc nL own fr lo) {a b : Int64} (d : decode cc pc = .ok (.lmul, 1)) (hn : pc + 1 = n) (kk : ∀ w : Int64, G Γ x nL Q M n lv (.long w :: st)) : G Γ x nL Q M pc lv (.long b :: .long a :: st) := by
  subst hn; intro H locs ls hH hS hl
  refine lv_lmul hx.1 hx.2.1 d ?_
  exact kk _ H locs ls hH hS hl
theorem g_land (hx : Ok Γ x cc nL own fr lo) {a b : Int64} (d : decode cc pc = .ok (.land, 1)) (hn : pc + 1 = n) (kk : ∀ w : Int64, G Γ x nL Q M n lv (.long w :: st)) : G Γ x nL Q M pc lv (.long b :: .long a :: st) := by
  subst hn; intro H locs ls hH hS hl
  refine lv_land hx.1 hx.2.1 d ?_
  exact kk _ H locs ls hH hS hl
theorem g_lor (hx : Ok Γ x cc nL own fr lo) {a b : Int64} (d : decode cc pc = .ok (.lor, 1)) (hn : pc + 1 = n) (kk : ∀ w : Int64, G Γ x nL Q M n lv (.long w :: st)) : G Γ x nL Q M pc lv (.long b :: .long a :: st) := by
  subst hn; intro H locs ls hH hS hl
  refine lv_lor hx.1 hx.2.1 d ?_
  exact kk _ H locs ls hH hS hl
theorem g_ldiv (hx : Ok Γ x cc nL own fr lo) {a b : Int64} (d : decode cc pc = .ok (.ldiv, 1)) (hn : pc + 1 = n) (h0 : ¬ b = 0) (kk : ∀ w : Int64, G Γ x nL Q M n lv (.long w :: st)) : G Γ x nL Q M pc lv (.long b :: .long a :: st) := by
  subst hn; intro H locs ls hH hS hl
  refine lv_ldiv hx.1 hx.2.1 d h0 ?_
  exact kk _ H locs ls hH hS hl
theorem g_lrem (hx : Ok Γ x cc nL own fr lo) {a b : Int64} (d : decode cc pc = .ok (.lrem, 1)) (hn : pc + 1 = n) (h0 : ¬ b = 0) (kk : ∀ w : Int64, G Γ x nL Q M n lv (.long w :: st)) : G Γ x nL Q M pc lv (.long b :: .long a :: st) := by
  subst hn; intro H locs ls hH hS hl
  refine lv_lrem hx.1 hx.2.1 d h0 ?_
  exact kk _ H locs ls hH hS hl
theorem g_lcmpU (hx : Ok Γ x cc nL own fr lo) {a b : Int64} (d : decode cc pc = .ok (.lcmp, 1)) (hn : pc + 1 = n) (kk : ∀ z, -1 ≤ z → z ≤ 1 → (z = 0 → a = b) → (a = b → z = 0) → G Γ x nL Q M n lv (vI z :: st)) : G Γ x nL Q M pc lv (.long b :: .long a :: st) := by
  subst hn; intro H locs ls hH hS hl
  refine W.lcmp hx.1 hx.2.1 d ?_
  unfold lg_cmp
  by_cases h1 : a > b
  · rw [if_pos h1]; exact kk 1 (by decide) (by decide) (fun q => by cases q) (fun q => by rw [q] at h1; exact absurd h1 Int64.lt_irrefl) H locs ls hH hS hl
  · rw [if_neg h1]
    by_cases h2 : a = b
    · rw [if_pos h2]; exact kk 0 (by decide) (by decide) (fun _ => h2) (fun _ => rfl) H locs ls hH hS hl
    · rw [if_neg h2]; exact kk (-1) (by decide) (by decide) (fun q => by cases q) (fun q => absurd q h2) H locs ls hH hS hl
theorem g_lcmp (hx : Ok Γ x cc nL own fr lo) {a b : Int} (d : decode cc pc = .ok (.lcmp, 1)) (hn : pc + 1 = n) (a1 : -9223372036854775808 ≤ a) (a2 : a ≤ 9223372036854775807) (b1 : -9223372036854775808 ≤ b) (b2 : b ≤ 9223372036854775807) (kk : ∀ z, (z = 1 ∧ b < a) ∨ (z = 0 ∧ a = b) ∨ (z = -1 ∧ a < b) → G Γ x nL Q M n lv (vI z :: st)) : G Γ x nL Q M pc lv (vL b :: vL a :: st) := by
  subst hn; intro H locs ls hH hS hl
  refine W.lcmp hx.1 hx.2.1 d ?_
  rw [cmpL a1 a2 b1 b2]
  refine kk _ ?_ H locs ls hH hS hl
  by_cases h1 : b < a
  · rw [if_pos h1]; exact Or.inl ⟨rfl, h1⟩
  · rw [if_neg h1]
    by_cases h2 : a = b
    · rw [if_pos h2]; exact Or.inr (Or.inl ⟨rfl, h2⟩)
    · rw [if_neg h2]; exact Or.inr (Or.inr ⟨rfl, by omega⟩)
theorem g_dup (hx : Ok Γ x cc nL own fr lo) {v : Value} (d : decode cc pc = .ok (.dup, 1)) (hv : v.category = 1) (hn : pc + 1 = n) (kk : G Γ x nL Q M n lv (v :: v :: st)) : G Γ x nL Q M pc lv (v :: st) := by
  subst hn; intro H locs ls hH hS hl
  exact lv_dup hx.1 hx.2.1 d hv (kk H locs ls hH hS hl)
theorem g_pop (hx : Ok Γ x cc nL own fr lo) {v : Value} (d : decode cc pc = .ok (.pop, 1)) (hv : v.category = 1) (hn : pc + 1 = n) (kk : G Γ x nL Q M n lv (st)) : G Γ x nL Q M pc lv (v :: st) := by
  subst hn; intro H locs ls hH hS hl
  exact lv_pop hx.1 hx.2.1 d hv (kk H locs ls hH hS hl)
theorem g_dup2 (hx : Ok Γ x cc nL own fr lo) {v w : Value} (d : decode cc pc = .ok (.dup2, 1)) (hv : v.category = 1) (hw : w.category = 1) (hn : pc + 1 = n) (kk : G Γ x nL Q M n lv (v :: w :: v :: w :: st)) : G Γ x nL Q M pc lv (v :: w :: st) := by
  subst hn; intro H locs ls hH hS hl
  exact lv_dup2_11 hx.1 hx.2.1 d hv hw (kk H locs ls hH hS hl)
theorem g_dup_x1 (hx : Ok Γ x cc nL own fr lo) {v w : Value} (d : decode cc pc = .ok (.dup_x1, 1)) (hv : v.category = 1) (hw : w.category = 1) (hn : pc + 1 = n) (kk : G Γ x nL Q M n lv (v :: w :: v :: st)) : G Γ x nL Q M pc lv (v :: w :: st) := by
  subst hn; intro H locs ls hH hS hl
  exact lv_dup_x1 hx.1 hx.2.1 d hv hw (kk H locs ls hH hS hl)
theorem g_goto (hx : Ok Γ x cc nL own fr lo) {off : Int} (d : decode cc pc = .ok (.goto off, 3)) (hn : (pc : Int) + off = (n : Int)) (kk : G Γ x nL Q M n lv st) : G Γ x nL Q M pc lv st := by
  intro H locs ls hH hS hl
  exact lv_goto hx.1 hx.2.1 d hn (kk H locs ls hH hS hl)
theorem g_icmp_eq (hx : Ok Γ x cc nL own fr lo) {a b off : Int} {t : Nat} (d : decode cc pc = .ok (.if_icmp .eq off, 3)) (ht : (pc : Int) + off = (t : Int)) (hn : pc + 3 = n) (ha : zR a) (hb : zR b) (kt : a = b → G Γ x nL Q M t lv st) (kf : ¬ a = b → G Γ x nL Q M n lv st) : G Γ x nL Q M pc lv (vI b :: vI a :: st) := by
  subst hn; intro H locs ls hH hS hl
  exact lv_icmp_eq hx.1 hx.2.1 d ht (fun q => kt ((eI ha hb).mp q) H locs ls hH hS hl) (fun q => kf (fun r => q ((eI ha hb).mpr r)) H locs ls hH hS hl)
theorem g_if_eq (hx : Ok Γ x cc nL own fr lo) {a off : Int} {t : Nat} (d : decode cc pc = .ok (.ifCond .eq off, 3)) (ht : (pc : Int) + off = (t : Int)) (hn : pc + 3 = n) (ha : zR a) (kt : a = 0 → G Γ x nL Q M t lv st) (kf : ¬ a = 0 → G Γ x nL Q M n lv st) : G Γ x nL Q M pc lv (vI a :: st) := by
  subst hn; intro H locs ls hH hS hl
  have hb : zR 0 := ⟨by omega, by omega⟩
  exact lv_if_eq hx.1 hx.2.1 d ht (fun q => kt ((eI ha hb).mp (by rw [← z0]; exact q)) H locs ls hH hS hl) (fun q => kf (fun r => q (by rw [z0]; exact (eI ha hb).mpr r)) H locs ls hH hS hl)
theorem g_icmp_lt (hx : Ok Γ x cc nL own fr lo) {a b off : Int} {t : Nat} (d : decode cc pc = .ok (.if_icmp .lt off, 3)) (ht : (pc : Int) + off = (t : Int)) (hn : pc + 3 = n) (ha : zR a) (hb : zR b) (kt : a < b → G Γ x nL Q M t lv st) (kf : ¬ a < b → G Γ x nL Q M n lv st) : G Γ x nL Q M pc lv (vI b :: vI a :: st) := by
  subst hn; intro H locs ls hH hS hl
  exact lv_icmp_lt hx.1 hx.2.1 d ht (fun q => kt ((lI ha hb).mp q) H locs ls hH hS hl) (fun q => kf (fun r => q ((lI ha hb).mpr r)) H locs ls hH hS hl)
theorem g_if_lt (hx : Ok Γ x cc nL own fr lo) {a off : Int} {t : Nat} (d : decode cc pc = .ok (.ifCond .lt off, 3)) (ht : (pc : Int) + off = (t : Int)) (hn : pc + 3 = n) (ha : zR a) (kt : a < 0 → G Γ x nL Q M t lv st) (kf : ¬ a < 0 → G Γ x nL Q M n lv st) : G Γ x nL Q M pc lv (vI a :: st) := by
  subst hn; intro H locs ls hH hS hl
  have hb : zR 0 := ⟨by omega, by omega⟩
  exact lv_if_lt hx.1 hx.2.1 d ht (fun q => kt ((lI ha hb).mp (by rw [← z0]; exact q)) H locs ls hH hS hl) (fun q => kf (fun r => q (by rw [z0]; exact (lI ha hb).mpr r)) H locs ls hH hS hl)
theorem g_icmp_ge (hx : Ok Γ x cc nL own fr lo) {a b off : Int} {t : Nat} (d : decode cc pc = .ok (.if_icmp .ge off, 3)) (ht : (pc : Int) + off = (t : Int)) (hn : pc + 3 = n) (ha : zR a) (hb : zR b) (kt : b ≤ a → G Γ x nL Q M t lv st) (kf : ¬ b ≤ a → G Γ x nL Q M n lv st) : G Γ x nL Q M pc lv (vI b :: vI a :: st) := by
  subst hn; intro H locs ls hH hS hl
  exact lv_icmp_ge hx.1 hx.2.1 d ht (fun q => kt ((leI hb ha).mp q) H locs ls hH hS hl) (fun q => kf (fun r => q ((leI hb ha).mpr r)) H locs ls hH hS hl)
theorem g_if_ge (hx : Ok Γ x cc nL own fr lo) {a off : Int} {t : Nat} (d : decode cc pc = .ok (.ifCond .ge off, 3)) (ht : (pc : Int) + off = (t : Int)) (hn : pc + 3 = n) (ha : zR a) (kt : 0 ≤ a → G Γ x nL Q M t lv st) (kf : ¬ 0 ≤ a → G Γ x nL Q M n lv st) : G Γ x nL Q M pc lv (vI a :: st) := by
  subst hn; intro H locs ls hH hS hl
  have hb : zR 0 := ⟨by omega, by omega⟩
  exact lv_if_ge hx.1 hx.2.1 d ht (fun q => kt ((leI hb ha).mp (by rw [← z0]; exact q)) H locs ls hH hS hl) (fun q => kf (fun r => q (by rw [z0]; exact (leI hb ha).mpr r)) H locs ls hH hS hl)
theorem g_icmp_gt (hx : Ok Γ x cc nL own fr lo) {a b off : Int} {t : Nat} (d : decode cc pc = .ok (.if_icmp .gt off, 3)) (ht : (pc : Int) + off = (t : Int)) (hn : pc + 3 = n) (ha : zR a) (hb : zR b) (kt : b < a → G Γ x nL Q M t lv st) (kf : ¬ b < a → G Γ x nL Q M n lv st) : G Γ x nL Q M pc lv (vI b :: vI a :: st) := by
  subst hn; intro H locs ls hH hS hl
  exact lv_icmp_gt hx.1 hx.2.1 d ht (fun q => kt ((lI hb ha).mp q) H locs ls hH hS hl) (fun q => kf (fun r => q ((lI hb ha).mpr r)) H locs ls hH hS hl)
theorem g_if_gt (hx : Ok Γ x cc nL own fr lo) {a off : Int} {t : Nat} (d : decode cc pc = .ok (.ifCond .gt off, 3)) (ht : (pc : Int) + off = (t : Int)) (hn : pc + 3 = n) (ha : zR a) (kt : 0 < a → G Γ x nL Q M t lv st) (kf : ¬ 0 < a → G Γ x nL Q M n lv st) : G Γ x nL Q M pc lv (vI a :: st) := by
  subst hn; intro H locs ls hH hS hl
  have hb : zR 0 := ⟨by omega, by omega⟩
  exact lv_if_gt hx.1 hx.2.1 d ht (fun q => kt ((lI hb ha).mp (by rw [← z0]; exact q)) H locs ls hH hS hl) (fun q => kf (fun r => q (by rw [z0]; exact (lI hb ha).mpr r)) H locs ls hH hS hl)
theorem g_icmp_le (hx : Ok Γ x cc nL own fr lo) {a b off : Int} {t : Nat} (d : decode cc pc = .ok (.if_icmp .le off, 3)) (ht : (pc : Int) + off = (t : Int)) (hn : pc + 3 = n) (ha : zR a) (hb : zR b) (kt : a ≤ b → G Γ x nL Q M t lv st) (kf : ¬ a ≤ b → G Γ x nL Q M n lv st) : G Γ x nL Q M pc lv (vI b :: vI a :: st) := by
  subst hn; intro H locs ls hH hS hl
  exact lv_icmp_le hx.1 hx.2.1 d ht (fun q => kt ((leI ha hb).mp q) H locs ls hH hS hl) (fun q => kf (fun r => q ((leI ha hb).mpr r)) H locs ls hH hS hl)
theorem g_if_le (hx : Ok Γ x cc nL own fr lo) {a off : Int} {t : Nat} (d : decode cc pc = .ok (.ifCond .le off, 3)) (ht : (pc : Int) + off = (t : Int)) (hn : pc + 3 = n) (ha : zR a) (kt : a ≤ 0 → G Γ x nL Q M t lv st) (kf : ¬ a ≤ 0 → G Γ x nL Q M n lv st) : G Γ x nL Q M pc lv (vI a :: st) := by
  subst hn; intro H locs ls hH hS hl
  have hb : zR 0 := ⟨by omega, by omega⟩
  exact lv_if_le hx.1 hx.2.1 d ht (fun q => kt ((leI ha hb).mp (by rw [← z0]; exact q)) H locs ls hH hS hl) (fun q => kf (fun r => q (by rw [z0]; exact (leI ha hb).mpr r)) H locs ls hH hS hl)
theorem g_icmp_ne (hx : Ok Γ x cc nL own fr lo) {a b off : Int} {t : Nat} (d : decode cc pc = .ok (.if_icmp .ne off, 3)) (ht : (pc : Int) + off = (t : Int)) (hn : pc + 3 = n) (ha : zR a) (hb : zR b) (kt : ¬ a = b → G Γ x nL Q M t lv st) (kf : a = b → G Γ x nL Q M n lv st) : G Γ x nL Q M pc lv (vI b :: vI a :: st) := by
  subst hn; intro H locs ls hH hS hl
  exact lv_icmp_ne hx.1 hx.2.1 d ht (fun q => kt (fun r => q ((eI ha hb).mpr r)) H locs ls hH hS hl) (fun q => kf ((eI ha hb).mp q) H locs ls hH hS hl)
theorem g_if_ne (hx : Ok Γ x cc nL own fr lo) {a off : Int} {t : Nat} (d : decode cc pc = .ok (.ifCond .ne off, 3)) (ht : (pc : Int) + off = (t : Int)) (hn : pc + 3 = n) (ha : zR a) (kt : ¬ a = 0 → G Γ x nL Q M t lv st) (kf : a = 0 → G Γ x nL Q M n lv st) : G Γ x nL Q M pc lv (vI a :: st) := by
  subst hn; intro H locs ls hH hS hl
  have hb : zR 0 := ⟨by omega, by omega⟩
  exact lv_if_ne hx.1 hx.2.1 d ht (fun q => kt (fun r => q (by rw [z0]; exact (eI ha hb).mpr r)) H locs ls hH hS hl) (fun q => kf ((eI ha hb).mp (by rw [← z0]; exact q)) H locs ls hH hS hl)
end GR
