/-! MY SECOND BASE, third part: names, forgetting, switches, cells by number -/
/-- as Met.ofW and met_i, of a method whose class has natives in other methods' places (Math.floorMod) -/
theorem ofWF {l : Launch} {y : MethodName} {ws ws' : List Cond} {rm : Room} {Pc : Array Value → State → Prop} {Qc : Array Value → State → Outcome → State → Prop} {mc ms : Nat} {free : Addr → Prop} {cc : ByteArray} {maxL : Nat} {ret : Option FieldType}
    (hy : plainFor y = true) (hw : ws = Cond.code y cc maxL ret :: ws')
    (body : ∀ p e s m args below meth c s₁, BodyLoose p l y (headSpec ws rm) cc maxL ret e s m args below meth c s₁ → c.maxLocals = maxL → Pc args s →
      W p l e (headSpec ws rm).room s m args below meth c s.heap [] 0 0 (MQ below Qc args s mc ms free) (entryFrame m args maxL)) : Met l y ws rm Pc Qc mc ms free := by
  refine MetFree.of_bodySF (code := cc) (maxLocals := maxL) (ret := ret) hy ?_ ?_
  · intro args s m h hn
    obtain ⟨meth, c, h1, h2, h3, h4, h5, h6, -, -⟩ := Cond.code_spec hn (atoms_spec (ws := ws) h _ (by rw [hw]; exact List.mem_cons_self))
    exact ⟨meth, c, h1, h2, h3, h4, h5, h6⟩
  · intro p e s m args below meth c s₁ B hml hP _
    have hh0 : s₁.heap = s.heap := by rw [B.state]; rfl
    obtain ⟨t, a1, o, b1, b2, b3⟩ := body p e s m args below meth c s₁ B hml hP s₁ hh0 (Stand.of_body B)
    exact ⟨t, o, a1, b1, b2, ⟨b3.1, b3.2⟩⟩
theorem met_iF {Γ : Gam} {y : MethodName} {cc : ByteArray} {nL : Nat} {ret : Option FieldType} {fr lo : Nat} {av : List Value} {M : zM} {post : Int → zM → Prop} (hy : plainFor y = true) (hlen : (lg_sl av).length ≤ nL)
    (h : ∀ x : Cx, Ok Γ x cc nL y.cls fr lo → (xh x).sig.returnType = ret → G Γ x nL (QI Γ x post) M 0 (lv_args 0 av) []) : CtI Γ y cc nL ret fr lo av M post := by
  intro sz
  refine ofWF (cc := cc) (maxL := nL) (ret := ret) hy rfl ?_
  intro p e s m args below meth c s₁ B hml hv
  obtain ⟨rfl, hv⟩ := hv
  obtain rfl := hv.1
  have hx := ok_of B hml hv
  rw [lg_entry_eq]
  exact h _ hx B.returns _ [] _ hv.2.1 va_S.rf (lv_entry av hlen)
section GN
variable {Γ : Gam} {x : Cx} {cc : ByteArray} {nL : Nat} {own : String} {fr lo : Nat} {Q : State → Prop} {M : zM} {pc n : Nat} {lv : List (Nat × Value)} {st : List Value}
theorem g_anyl {i : Nat} {a : Int} (kk : ∀ z, zR z → G Γ x nL Q M pc ((i, vI z) :: lv) st) : G Γ x nL Q M pc ((i, vI a) :: lv) st := by
  have h := kk (Int32.ofInt a).toInt (rI _)
  rwa [show vI (Int32.ofInt a).toInt = vI a from by show Value.int _ = _; rw [oI]] at h
theorem g_any2 {v : Value} {a : Int} (kk : ∀ z, zR z → G Γ x nL Q M pc lv (v :: vI z :: st)) : G Γ x nL Q M pc lv (v :: vI a :: st) := by
  have h := kk (Int32.ofInt a).toInt (rI _)
  rwa [show vI (Int32.ofInt a).toInt = vI a from by show Value.int _ = _; rw [oI]] at h
theorem g_iv (kk : zIv M → G Γ x nL Q M pc lv st) : G Γ x nL Q M pc lv st := by
  intro H locs ls hH hS hl
  exact kk hH.1 H locs ls hH hS hl
theorem g_nam {a : Int} (kk : ∀ z, z = a → G Γ x nL Q M pc lv (vI z :: st)) : G Γ x nL Q M pc lv (vI a :: st) := kk a rfl
theorem g_named {c : Nat} (kk : ∀ o, o = c → G Γ x nL Q M pc lv (aR Γ o :: st)) : G Γ x nL Q M pc lv (aR Γ c :: st) := kk c rfl
theorem g_swI (hx : Ok Γ x cc nL own fr lo) {dflt a b off z v : Int} {offs : Array Int} {len t : Nat} (d : decode cc pc = .ok (.tableswitch dflt a b offs, len)) (hv : z = v) (h1 : ¬ (Int32.ofInt v).toInt < a) (h2 : ¬ b < (Int32.ofInt v).toInt) (ho : offs[((Int32.ofInt v).toInt - a).toNat]? = some off) (ht : (pc : Int) + off = (t : Int)) (kk : G Γ x nL Q M t lv st) : G Γ x nL Q M pc lv (vI z :: st) := by
  subst hv; intro H locs ls hH hS hl
  exact lv_tableIn hx.1 hx.2.1 d h1 h2 ho ht (kk H locs ls hH hS hl)
theorem g_swO (hx : Ok Γ x cc nL own fr lo) {dflt a b z : Int} {offs : Array Int} {len t : Nat} (d : decode cc pc = .ok (.tableswitch dflt a b offs, len)) (hz : zR z) (h : z < a ∨ b < z) (ht : (pc : Int) + dflt = (t : Int)) (kk : G Γ x nL Q M t lv st) : G Γ x nL Q M pc lv (vI z :: st) := by
  intro H locs ls hH hS hl
  exact lv_tableOut hx.1 hx.2.1 d (by rw [tI hz.1 hz.2]; exact h) ht (kk H locs ls hH hS hl)
end GN
theorem cpR {M : zM} (hI : zIv M) {c0 c1 n0 n1 : Nat} {a0 b0 a1 b1 : Int} (s0 : AI c0 n0 a0 b0) (s1 : AI c1 n1 a1 b1) (ha : a1 ≤ a0) (hb : b0 ≤ b1) (j k : Nat) (q : Prop) [Decidable q] : zlo c1 j ≤ (if q then M c0 k else M c1 j) ∧ (if q then M c0 k else M c1 j) ≤ zhi c1 j := by
  by_cases h : q
  · rw [if_pos h, (s1.2.2.2 j).1, (s1.2.2.2 j).2]
    have h2 := hI c0 k
    rw [(s0.2.2.2 k).1, (s0.2.2.2 k).2] at h2
    omega
  · rw [if_neg h]
    exact hI c1 j
theorem pw1 {k : Nat} {b z : Int} (h0 : 0 ≤ b) (h1 : b ≤ k) (hz : z = 2 ^ b.toNat) : 1 ≤ z ∧ z ≤ 2 ^ k := by
  have e : ((2 : Int) ^ b.toNat) = ((2 ^ b.toNat : Nat) : Int) := by simp
  have e2 : ((2 : Int) ^ k) = ((2 ^ k : Nat) : Int) := by simp
  have h3 : 2 ^ b.toNat ≤ 2 ^ k := Nat.pow_le_pow_right (by decide) (by omega)
  have h4 : 0 < 2 ^ b.toNat := Nat.pow_pos (by decide)
  rw [hz, e, e2]
  omega
theorem zrf4 : ∀ q : Fin 6, isX4 (zrf 1 q.val) := by decide +kernel
theorem zrfX4 (q : Nat) (h : q < 6) : isX4 (zrf 1 q) := zrf4 ⟨q, h⟩
theorem zrf1 : ∀ q : Fin 4, zrf 2 q.val = 101 + 32 * q.val := by decide +kernel
theorem zrfnX1 {i : Int} (h0 : 0 ≤ i) (h1 : i < 4) : ((zrf 2 i.toNat : Nat) : Int) = 101 + 32 * i := by
  have h := zrf1 ⟨i.toNat, by omega⟩
  have h2 : zrf 2 i.toNat = 101 + 32 * i.toNat := h
  rw [h2]
  omega
theorem zrfX1 (q : Nat) (h : q < 4) : isX1 (zrf 2 q) := by
  have h2 : zrf 2 q = 101 + 32 * q := zrf1 ⟨q, h⟩
  rw [h2]
  show 101 + 32 * q = 101 ∨ _ ∨ _ ∨ _
  omega
/-- a RIVER and a STATE that fit: BENDS of VILLAGES, WOODS, PLACES and ORDER of LOGS that are there -/
def Gd (M : zM) (r s : Nat) : Prop :=
  (∀ v : Nat, (v : Int) < M r 1 → 0 ≤ M (r + 1) v) ∧ (∀ l : Nat, (l : Int) < M r 3 → 0 ≤ M (r + 4) l) ∧ (∀ l : Nat, (l : Int) < M r 3 → 20 ≤ M (s + 3) l → M (s + 3) l < 40 → M (s + 3) l < 20 + M r 1) ∧ (∀ i : Nat, (i : Int) < M r 3 → M (s + 7) i < M r 3) ∧ M s 5 = M r 3
theorem Gd.frame {M M' : zM} {r s : Nat} (h : Gd M r s) (f : ∀ c j, (c = r ∨ c = r + 1 ∨ c = r + 4 ∨ (c = s ∧ j = 5) ∨ c = s + 3 ∨ c = s + 7) → M' c j = M c j) : Gd M' r s := by
  obtain ⟨h1, h2, h3, h4, h5⟩ := h
  have e1 := f r 1 (Or.inl rfl)
  have e3 := f r 3 (Or.inl rfl)
  refine ⟨fun v hv => ?_, fun l hl => ?_, fun l hl => ?_, fun i hi => ?_, ?_⟩
  · rw [f (r + 1) v (Or.inr (Or.inl rfl))]; rw [e1] at hv; exact h1 v hv
  · rw [f (r + 4) l (Or.inr (Or.inr (Or.inl rfl)))]; rw [e3] at hl; exact h2 l hl
  · rw [f (s + 3) l (by omega), e1]; rw [e3] at hl; exact h3 l hl
  · rw [f (s + 7) i (by omega), e3]; rw [e3] at hi; exact h4 i hi
  · rw [f s 5 (by omega), e3]; exact h5
theorem Gd.place {M M' : zM} {r s i : Nat} {v : Int} (h : Gd M r s) (he : M' (s + 3) i = v) (f : ∀ c j, (c ≠ s + 3 ∨ j ≠ i) → M' c j = M c j) (hv : 20 ≤ v → v < 40 → v < 20 + M r 1) (hr : r ≠ s + 3) (h1' : r + 1 ≠ s + 3) (h4' : r + 4 ≠ s + 3) : Gd M' r s := by
  obtain ⟨h1, h2, h3, h4, h5⟩ := h
  have e1 := f r 1 (by omega)
  have e3 := f r 3 (by omega)
  refine ⟨fun v hv => ?_, fun l hl => ?_, fun l hl => ?_, fun i hi => ?_, ?_⟩
  · rw [f (r + 1) v (by omega)]; rw [e1] at hv; exact h1 v hv
  · rw [f (r + 4) l (by omega)]; rw [e3] at hl; exact h2 l hl
  · rw [e1]; rw [e3] at hl
    by_cases q : l = i
    · subst q; rw [he]; exact hv
    · rw [f (s + 3) l (by omega)]; exact h3 l hl
  · rw [f (s + 7) i (by omega), e3]; rw [e3] at hi; exact h4 i hi
  · rw [f s 5 (by omega), e3]; exact h5
theorem Gd.order {M M' : zM} {r s i : Nat} {v : Int} (h : Gd M r s) (he : M' (s + 7) i = v) (f : ∀ c j, (c ≠ s + 7 ∨ j ≠ i) → M' c j = M c j) (hv : (i : Int) < M r 3 → v < M r 3) (hr : r ≠ s + 7) (h1' : r + 1 ≠ s + 7) (h4' : r + 4 ≠ s + 7) : Gd M' r s := by
  obtain ⟨h1, h2, h3, h4, h5⟩ := h
  have e1 := f r 1 (by omega)
  have e3 := f r 3 (by omega)
  refine ⟨fun v hv => ?_, fun l hl => ?_, fun l hl => ?_, fun k hk => ?_, ?_⟩
  · rw [f (r + 1) v (by omega)]; rw [e1] at hv; exact h1 v hv
  · rw [f (r + 4) l (by omega)]; rw [e3] at hl; exact h2 l hl
  · rw [f (s + 3) l (by omega), e1]; rw [e3] at hl; exact h3 l hl
  · rw [e3]; rw [e3] at hk
    by_cases q : k = i
    · subst q; rw [he]; exact hv hk
    · rw [f (s + 7) k (by omega)]; exact h4 k hk
  · rw [f s 5 (by omega), e3]; exact h5
set_option maxHeartbeats 4000000 in
abbrev qctX9_copyRow (M : zM) (a0 a1 n : Nat) (M' : zM) : Prop := (∀ u_ v_, u_ ≠ a1 → M' u_ v_ = M u_ v_) ∧ ∀ j : Nat, j < n → M' a1 j = M a0 j
/-- a RIVER that was read well: BENDS of its VILLAGES, WOODS of its LOGS, and who felled them -/
def RvOk (M : zM) (t : Nat) : Prop := (∀ v : Nat, (v : Int) < M t 1 → 0 ≤ M (t + 1) v) ∧ (∀ l : Nat, (l : Int) < M t 3 → 0 ≤ M (t + 4) l) ∧ ∀ l : Nat, (l : Int) < M t 3 → (0 ≤ M (t + 7) l ∧ M (t + 7) l < M t 1)
theorem Gd.copy {M M' : zM} {r s r' s' : Nat} (h : Gd M r s) (l1 : M r 1 ≤ 6) (l3 : M r 3 ≤ 12) (e1 : M' r' 1 = M r 1) (e3 : M' r' 3 = M r 3) (e5 : M' s' 5 = M s 5) (f1 : ∀ j : Nat, j < 6 → M' (r' + 1) j = M (r + 1) j) (f4 : ∀ j : Nat, j < 12 → M' (r' + 4) j = M (r + 4) j) (f8 : ∀ j : Nat, j < 12 → M' (s' + 3) j = M (s + 3) j) (f12 : ∀ j : Nat, j < 12 → M' (s' + 7) j = M (s + 7) j) : Gd M' r' s' := by
  obtain ⟨h1, h2, h3, h4, h5⟩ := h
  refine ⟨fun v hv => ?_, fun l hl => ?_, fun l hl => ?_, fun i hi => ?_, ?_⟩
  · rw [e1] at hv; rw [f1 v (by omega)]; exact h1 v hv
  · rw [e3] at hl; rw [f4 l (by omega)]; exact h2 l hl
  · rw [e3] at hl; rw [f8 l (by omega), e1]; exact h3 l hl
  · rw [e3] at hi; rw [f12 i (by omega), e3]; exact h4 i hi
  · rw [e5, e3]; exact h5
theorem Gd.start {M M' : zM} {r s : Nat} (h : RvOk M r) (e1 : M' r 1 = M r 1) (e3 : M' r 3 = M r 3) (f1 : ∀ j : Nat, M' (r + 1) j = M (r + 1) j) (f4 : ∀ j : Nat, M' (r + 4) j = M (r + 4) j) (e5 : M' s 5 = M r 3) (hp : ∀ l : Nat, (l : Int) < M r 3 → (M' (s + 3) l = 20 + M (r + 7) l ∧ M' (s + 7) l = l)) : Gd M' r s := by
  obtain ⟨h1, h2, h3⟩ := h
  refine ⟨fun v hv => ?_, fun l hl => ?_, fun l hl => ?_, fun i hi => ?_, ?_⟩
  · rw [e1] at hv; rw [f1 v]; exact h1 v hv
  · rw [e3] at hl; rw [f4 l]; exact h2 l hl
  · rw [e3] at hl; rw [(hp l hl).1, e1]; have := h3 l hl; omega
  · rw [e3] at hi; rw [(hp i hi).2, e3]; exact hi
  · rw [e5, e3]
theorem ivI {M : zM} (h : zIv M) {c ci j : Nat} {a b : Int} (s : SI c ci j a b) : a ≤ M c j ∧ M c j ≤ b := by
  obtain ⟨_, _, _, _, _, h5, h6⟩ := s
  have q := h c j
  rw [h5, h6] at q
  exact q
