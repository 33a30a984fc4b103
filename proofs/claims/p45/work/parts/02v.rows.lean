/-! MY SECOND BASE, the memory's rows, calls and ends -/
/-- slots of objects: cell, class, field, range; a reference; a long -/
def SI (c ci j : Nat) (lo hi : Int) : Prop := c < zNC ∧ zkd c = 6 ∧ zci c = ci ∧ j < zln c ∧ zfk ci j = 0 ∧ zlo c j = lo ∧ zhi c j = hi
def SF (c ci j t : Nat) : Prop := c < zNC ∧ zkd c = 6 ∧ zci c = ci ∧ j < zln c ∧ zfk ci j = 2 ∧ zrf c j = t
def SJ (c ci j : Nat) : Prop := c < zNC ∧ zkd c = 6 ∧ zci c = ci ∧ j < zln c ∧ zfk ci j = 1
def OB (c : Nat) (C : String) : Prop := c < zNC ∧ zkd c = 6 ∧ ∃ (T : u_T) (N : Nat), vwCl[zci c]? = some (C, T, N)
/-- arrays: of ints (with a range), of a kind, of longs, of references -/
def AI (c n : Nat) (lo hi : Int) : Prop := c < zNC ∧ zkd c = 0 ∧ zln c = n ∧ ∀ j, zlo c j = lo ∧ zhi c j = hi
def AK (c kd n : Nat) : Prop := c < zNC ∧ zkd c = kd ∧ zln c = n
/-- what a class's constant pool says of a field -/
def FL (own : String) (index ci j : Nat) : Prop := ∃ (C : String) (T : u_T) (N : Nat), vwCl[ci]? = some (C, T, N) ∧ (∀ w ∈ u_ws C T N, w ∈ wsB) ∧ j < N ∧ Cond.fieldLink own index (T j).1 (T j).2.1 (T j).2.2.1 ∈ wsB
def FP (own : String) (index ci j : Nat) (ty : FieldType) : Prop := ∃ (C : String) (T : u_T) (N : Nat), vwCl[ci]? = some (C, T, N) ∧ (∀ w ∈ u_ws C T N, w ∈ wsB) ∧ j < N ∧ Cond.fieldLink own index (T j).1 (T j).2.1 (T j).2.2.1 ∈ wsB ∧ (T j).2.2.2 = false ∧ parseFieldDescriptor (T j).2.2.1 = some ty ∧ ∃ ty0 : Nat → FieldType, (∀ k, k < N → parseFieldDescriptor (T k).2.2.1 = some (ty0 k)) ∧ ∀ a, a < N → ∀ b, b < N → a ≠ b → (T a).2.1 ≠ (T b).2.1
theorem map_set {α : Type} (f g : Nat → α) (n j : Nat) (h : ∀ i, i ≠ j → g i = f i) : ((List.range n).map f).set j (g j) = (List.range n).map g := by
  apply List.ext_getElem?
  intro i
  by_cases hi : i < n
  · by_cases hij : i = j
    · subst hij
      rw [List.getElem?_set_self (by simpa using hi), List.getElem?_map, List.getElem?_range hi]; rfl
    · rw [List.getElem?_set_ne (fun q => hij q.symm), List.getElem?_map, List.getElem?_map, List.getElem?_range hi]
      show some (f i) = some (g i)
      rw [h i hij]
  · rw [List.getElem?_eq_none (by simp; omega), List.getElem?_eq_none (by simp; omega)]
theorem ent_obj {k : Nat → ClassId} {ad : Nat → Nat} {M : zM} {L : Nat → Nat → Int64} {c : Nat} (h : zkd c = 6) : ent k ad M L c = .inr (zci c, (List.range (zln c)).map (fldv ad M L c)) := by unfold ent; rw [if_pos h]
theorem ent_arr {k : Nat → ClassId} {ad : Nat → Nat} {M : zM} {L : Nat → Nat → Int64} {c kd : Nat} (h : zkd c = kd) (hk : kd = 0 ∨ kd = 2 ∨ kd = 5) : ent k ad M L c = .inl (k kd, zln c, .inl (fun j => Int32.ofInt (M c j))) := by
  unfold ent
  rw [if_neg (by omega), if_neg (by omega), if_neg (by omega), h]
theorem ent_long {k : Nat → ClassId} {ad : Nat → Nat} {M : zM} {L : Nat → Nat → Int64} {c : Nat} (h : zkd c = 1) : ent k ad M L c = .inl (k 1, zln c, .inr (.inl (L c))) := by
  unfold ent
  rw [if_neg (by omega), if_pos h]
theorem ent_ref {k : Nat → ClassId} {ad : Nat → Nat} {M : zM} {L : Nat → Nat → Int64} {c kd : Nat} (h : zkd c = kd) (hk : kd = 3 ∨ kd = 4) : ent k ad M L c = .inl (k kd, zln c, .inr (.inr (.inr (.inr (fun j => some (ad (zrf c j))))))) := by
  unfold ent
  rw [if_neg (by omega), if_neg (by omega), if_pos (by omega), h]
theorem AA_sub {ad : Nat → Nat} {a b : Nat} (h : a ≤ b) : ∀ q, AA ad b q → AA ad a q := by
  intro q hq
  rcases hq with hq | hq
  · exact Or.inl hq
  · exact Or.inr (Nat.le_trans h hq)
def PRW (Γ : Gam) (M : zM) (sz : Nat) (U : State) : Prop := U.heap.size = sz ∧ Hp (gD Γ) (gk Γ) (ga Γ) M U.heap ∧ va_K (gD Γ) vwCl (TY (gk Γ)) U ∧ EX U ∧ SX (gs Γ) (AA (ga Γ) sz) U U.heap ∧ zJ (ga Γ)
theorem PRW.blind {Γ : Gam} {M : zM} {sz : Nat} {av : List Value} : FrameBlind (va_Pc av (PRW Γ M sz)) := by
  intro a U g mk q
  obtain ⟨h0, h1, h2, h3, h4, h5, h6⟩ := q
  exact ⟨h0, h1, h2, va_K.moved (u := U) (U := U.calling g mk a) (Vm.Alike.refl U.vm) h3, EX.same (u := U) (U := U.calling g mk a) rfl h4, SX.same (U := U) (V := U.calling g mk a) h5 rfl, h6⟩
abbrev rmF (fr lo : Nat) : Room := { frames := fr, cells := 0, slots := 0, locals := lo }
abbrev QcI (Γ : Gam) (A : Nat → Prop) (post : Int → zM → Prop) : Array Value → State → Outcome → State → Prop := va_Qi (S := zM) (fun r M' => ∃ z, r = Int32.ofInt z ∧ zR z ∧ post z M') (fun M' t => Hp (gD Γ) (gk Γ) (ga Γ) M' t.heap) A
abbrev QcV (Γ : Gam) (A : Nat → Prop) (post : zM → Prop) : Array Value → State → Outcome → State → Prop := va_Qv (S := zM) post (fun M' t => Hp (gD Γ) (gk Γ) (ga Γ) M' t.heap) A
abbrev QcL (Γ : Gam) (A : Nat → Prop) (post : Int64 → zM → Prop) : Array Value → State → Outcome → State → Prop := va_Ql (S := zM) post (fun M' t => Hp (gD Γ) (gk Γ) (ga Γ) M' t.heap) A
/-- contracts: an int, nothing, a long comes back -/
def CtI (Γ : Gam) (y : MethodName) (cc : ByteArray) (nL : Nat) (ret : Option FieldType) (fr lo : Nat) (av : List Value) (M : zM) (post : Int → zM → Prop) : Prop :=
  ∀ sz, Met (gl Γ) y (wB y cc nL ret) (rmF fr lo) (va_Pc av (PRW Γ M sz)) (QcI Γ (AA (ga Γ) sz) post) 0 0 (AA (ga Γ) sz)
def CtV (Γ : Gam) (y : MethodName) (cc : ByteArray) (nL : Nat) (ret : Option FieldType) (fr lo : Nat) (av : List Value) (M : zM) (post : zM → Prop) : Prop :=
  ∀ sz, Met (gl Γ) y (wB y cc nL ret) (rmF fr lo) (va_Pc av (PRW Γ M sz)) (QcV Γ (AA (ga Γ) sz) post) 0 0 (AA (ga Γ) sz)
def CtL (Γ : Gam) (y : MethodName) (cc : ByteArray) (nL : Nat) (ret : Option FieldType) (fr lo : Nat) (av : List Value) (M : zM) (post : Int64 → zM → Prop) : Prop :=
  ∀ sz, Met (gl Γ) y (wB y cc nL ret) (rmF fr lo) (va_Pc av (PRW Γ M sz)) (QcL Γ (AA (ga Γ) sz) post) 0 0 (AA (ga Γ) sz)
abbrev QI (Γ : Gam) (x : Cx) (post : Int → zM → Prop) : State → Prop := MQ (xb x) (QcI Γ (xA Γ x) post) (xa x) (xs x) 0 0 (xA Γ x)
abbrev QV (Γ : Gam) (x : Cx) (post : zM → Prop) : State → Prop := MQ (xb x) (QcV Γ (xA Γ x) post) (xa x) (xs x) 0 0 (xA Γ x)
abbrev QL (Γ : Gam) (x : Cx) (post : Int64 → zM → Prop) : State → Prop := MQ (xb x) (QcL Γ (xA Γ x) post) (xa x) (xs x) 0 0 (xA Γ x)
theorem ok_of {Γ : Gam} {y : MethodName} {cc : ByteArray} {nL : Nat} {ret : Option FieldType} {fr lo : Nat} {p : Program} {e : Env} {s : State} {m : MethodId} {args : Array Value} {below : List Frame} {meth : Method} {c : Code} {s₁ : State} {M : zM}
    (B : BodyLoose p (gl Γ) y (headSpec (wB y cc nL ret) (rmF fr lo)) cc nL ret e s m args below meth c s₁) (hml : c.maxLocals = nL) (hv : PRW Γ M s.heap.size s) : Ok Γ (p, e, (headSpec (wB y cc nL ret) (rmF fr lo)).room, s, m, args, below, meth, c) cc nL y.cls fr lo := by
  obtain ⟨-, hH, hK, hE, hX, hJ⟩ := hv
  exact ⟨B.exec, B.bytes, hml, findClass_of_methodNamed B.named, fun w h => atoms_spec (ws := wB y cc nL ret) B.pre w (List.mem_cons_of_mem _ h), hK, hE, hX, hJ, B.notSynchronized, rfl⟩
theorem met_i {Γ : Gam} {y : MethodName} {cc : ByteArray} {nL : Nat} {ret : Option FieldType} {fr lo : Nat} {av : List Value} {M : zM} {post : Int → zM → Prop} (hy : plainName y.cls = true) (hlen : (lg_sl av).length ≤ nL)
    (h : ∀ x : Cx, Ok Γ x cc nL y.cls fr lo → (xh x).sig.returnType = ret → G Γ x nL (QI Γ x post) M 0 (lv_args 0 av) []) : CtI Γ y cc nL ret fr lo av M post := by
  intro sz
  refine Met.ofW (cc := cc) (maxL := nL) (ret := ret) hy rfl ?_
  intro p e s m args below meth c s₁ B hml hv
  obtain ⟨rfl, hv⟩ := hv
  obtain rfl := hv.1
  have hx := ok_of B hml hv
  rw [lg_entry_eq]
  exact h _ hx B.returns _ [] _ hv.2.1 va_S.rf (lv_entry av hlen)
theorem met_v {Γ : Gam} {y : MethodName} {cc : ByteArray} {nL : Nat} {ret : Option FieldType} {fr lo : Nat} {av : List Value} {M : zM} {post : zM → Prop} (hy : plainName y.cls = true) (hlen : (lg_sl av).length ≤ nL)
    (h : ∀ x : Cx, Ok Γ x cc nL y.cls fr lo → (xh x).sig.returnType = ret → G Γ x nL (QV Γ x post) M 0 (lv_args 0 av) []) : CtV Γ y cc nL ret fr lo av M post := by
  intro sz
  refine Met.ofW (cc := cc) (maxL := nL) (ret := ret) hy rfl ?_
  intro p e s m args below meth c s₁ B hml hv
  obtain ⟨rfl, hv⟩ := hv
  obtain rfl := hv.1
  have hx := ok_of B hml hv
  rw [lg_entry_eq]
  exact h _ hx B.returns _ [] _ hv.2.1 va_S.rf (lv_entry av hlen)
theorem met_l {Γ : Gam} {y : MethodName} {cc : ByteArray} {nL : Nat} {ret : Option FieldType} {fr lo : Nat} {av : List Value} {M : zM} {post : Int64 → zM → Prop} (hy : plainName y.cls = true) (hlen : (lg_sl av).length ≤ nL)
    (h : ∀ x : Cx, Ok Γ x cc nL y.cls fr lo → (xh x).sig.returnType = ret → G Γ x nL (QL Γ x post) M 0 (lv_args 0 av) []) : CtL Γ y cc nL ret fr lo av M post := by
  intro sz
  refine Met.ofW (cc := cc) (maxL := nL) (ret := ret) hy rfl ?_
  intro p e s m args below meth c s₁ B hml hv
  obtain ⟨rfl, hv⟩ := hv
  obtain rfl := hv.1
  have hx := ok_of B hml hv
  rw [lg_entry_eq]
  exact h _ hx B.returns _ [] _ hv.2.1 va_S.rf (lv_entry av hlen)
/-- calls -/
def LV (own : String) (index : Nat) (y : MethodName) (cc : ByteArray) (nL : Nat) (ret : Option FieldType) (n : Nat) : Prop :=
  Cond.methodLink own index y ∈ wsB ∧ Cond.instanceMethod y ∈ wsB ∧ Cond.selects y.cls y y ∈ wsB ∧ Cond.initialized y.cls ∈ wsB ∧ Cond.code y cc nL ret ∈ wsB ∧ (y.cls ≠ "java/lang/invoke/MethodHandle" ∧ y.cls ≠ "java/lang/invoke/VarHandle" ∧ (parseMethodDescriptor y.desc).map (fun d => d.parameters.length) = some n)
def LT (own : String) (index : Nat) (y : MethodName) (cc : ByteArray) (nL : Nat) (ret : Option FieldType) (n : Nat) : Prop :=
  Cond.methodLink own index y ∈ wsB ∧ Cond.static y ∈ wsB ∧ Cond.initialized y.cls ∈ wsB ∧ Cond.code y cc nL ret ∈ wsB ∧ (y.cls ≠ "java/lang/invoke/MethodHandle" ∧ y.cls ≠ "java/lang/invoke/VarHandle" ∧ (parseMethodDescriptor y.desc).map (fun d => d.parameters.length) = some n)
def LN (own : String) (index : Nat) (y : MethodName) (cc : ByteArray) (nL : Nat) (ret : Option FieldType) (n : Nat) : Prop :=
  (∃ host, Cond.methodLinkNest own index y host ∈ nst) ∧ Cond.static y ∈ wsB ∧ Cond.initialized y.cls ∈ wsB ∧ Cond.code y cc nL ret ∈ wsB ∧ (y.cls ≠ "java/lang/invoke/MethodHandle" ∧ y.cls ≠ "java/lang/invoke/VarHandle" ∧ (parseMethodDescriptor y.desc).map (fun d => d.parameters.length) = some n)
theorem zrI {a b e : Int} (h1 : a ≤ e) (h2 : e ≤ b) (ha : -2147483648 ≤ a) (hb : b ≤ 2147483647) : zR e := ⟨Int.le_trans ha h1, Int.le_trans h2 hb⟩
theorem akI {c n : Nat} {a b : Int} (h : AI c n a b) : AK c 0 n := ⟨h.1, h.2.1, h.2.2.1⟩
theorem dq {c : ByteArray} {l : List (Nat × Instr × Nat)} (h : ∀ q ∈ l, decode c q.1 = .ok (q.2.1, q.2.2)) (k : Nat) {pc : Nat} {i : Instr} {n : Nat} (e : l[k]? = some (pc, i, n)) : decode c pc = .ok (i, n) := h (pc, i, n) (List.mem_of_getElem? e)
def lset (L : Nat → Nat → Int64) (c j : Nat) (v : Int64) : Nat → Nat → Int64 := fun a b => if a = c ∧ b = j then v else L a b
theorem lset_eq (L : Nat → Nat → Int64) (c j : Nat) (v : Int64) : lset L c j v c j = v := by simp [lset]
theorem lset_ne (L : Nat → Nat → Int64) (c j : Nat) (v : Int64) {a b : Nat} (h : a ≠ c ∨ b ≠ j) : lset L c j v a b = L a b := by
  unfold lset
  rw [if_neg]
  rintro ⟨h1, h2⟩
  rcases h with h | h
  · exact h h1
  · exact h h2
section GM
variable {Γ : Gam} {x : Cx} {cc : ByteArray} {nL : Nat} {own : String} {fr lo : Nat} {Q : State → Prop} {M : zM} {pc n : Nat} {lv : List (Nat × Value)} {st : List Value}
theorem g_getI (hx : Ok Γ x cc nL own fr lo) {index ci c j : Nat} {a b : Int} (f : FL own index ci j) (sl : SI c ci j a b) (d : decode cc pc = .ok (.getfield index, 3)) (hn : pc + 3 = n) (kk : a ≤ M c j → M c j ≤ b → G Γ x nL Q M n lv (vI (M c j) :: st)) : G Γ x nL Q M pc lv (aR Γ c :: st) := by
  subst hn; intro H locs ls hH hS hl
  obtain ⟨C, T, N, h1, h2, h3, h4⟩ := f
  obtain ⟨s1, s2, rfl, s3, s4, s5, s6⟩ := sl
  obtain ⟨hI, L, hP⟩ := hH
  have q := hI c j
  rw [s5, s6] at q
  refine va_get hx.1 hx.2.1 hx.2.2.2.2.1 h2 hx.2.2.2.1 hx.2.2.2.2.2.1 hP c (by rw [wW_at s1, ent_obj s2]) h1 j h3 (hx.2.2.2.2.1 _ h4) (fun _ h => h) (v := vI (M c j)) ?_ d (kk q.1 q.2 H locs ls ⟨hI, L, hP⟩ hS hl)
  rw [List.getElem?_map, List.getElem?_range s3]
  show some (fldv _ _ _ _ _) = _
  unfold fldv
  rw [if_pos s4]
theorem g_getJ (hx : Ok Γ x cc nL own fr lo) {index ci c j : Nat} (f : FL own index ci j) (sl : SJ c ci j) (d : decode cc pc = .ok (.getfield index, 3)) (hn : pc + 3 = n) (kk : ∀ w : Int64, G Γ x nL Q M n lv (.long w :: st)) : G Γ x nL Q M pc lv (aR Γ c :: st) := by
  subst hn; intro H locs ls hH hS hl
  obtain ⟨C, T, N, h1, h2, h3, h4⟩ := f
  obtain ⟨s1, s2, rfl, s3, s4⟩ := sl
  obtain ⟨hI, L, hP⟩ := hH
  refine va_get hx.1 hx.2.1 hx.2.2.2.2.1 h2 hx.2.2.2.1 hx.2.2.2.2.2.1 hP c (by rw [wW_at s1, ent_obj s2]) h1 j h3 (hx.2.2.2.2.1 _ h4) (fun _ h => h) (v := .long (L c j)) ?_ d (kk _ H locs ls ⟨hI, L, hP⟩ hS hl)
  rw [List.getElem?_map, List.getElem?_range s3]
  show some (fldv _ _ _ _ _) = _
  unfold fldv
  rw [if_neg (by omega), if_pos s4]
theorem g_getR (hx : Ok Γ x cc nL own fr lo) {index ci c j t : Nat} (f : FL own index ci j) (sl : SF c ci j t) (d : decode cc pc = .ok (.getfield index, 3)) (hn : pc + 3 = n) (kk : G Γ x nL Q M n lv (aR Γ t :: st)) : G Γ x nL Q M pc lv (aR Γ c :: st) := by
  subst hn; intro H locs ls hH hS hl
  obtain ⟨C, T, N, h1, h2, h3, h4⟩ := f
  obtain ⟨s1, s2, rfl, s3, s4, rfl⟩ := sl
  obtain ⟨hI, L, hP⟩ := hH
  refine va_get hx.1 hx.2.1 hx.2.2.2.2.1 h2 hx.2.2.2.1 hx.2.2.2.2.2.1 hP c (by rw [wW_at s1, ent_obj s2]) h1 j h3 (hx.2.2.2.2.1 _ h4) (fun _ h => h) (v := .ref (ga Γ (zrf c j))) ?_ d (kk H locs ls ⟨hI, L, hP⟩ hS hl)
  rw [List.getElem?_map, List.getElem?_range s3]
  show some (fldv _ _ _ _ _) = _
  unfold fldv
  rw [if_neg (by omega), if_neg (by omega)]
theorem g_putX (hx : Ok Γ x cc nL own fr lo) {index ci c j : Nat} {a b v : Int} {ty : FieldType} (f : FP own index ci j ty) (sl : SI c ci j a b) (hnar : narrow ty (vI v) = vI v) (hfit : fits ty (vI v) = true) (d : decode cc pc = .ok (.putfield index, 3)) (hn : pc + 3 = n) (ha : a ≤ v) (hb : v ≤ b)
    (kk : ∀ M' : zM, M' c j = v → (∀ a' b', (a' ≠ c ∨ b' ≠ j) → M' a' b' = M a' b') → G Γ x nL Q M' n lv st) : G Γ x nL Q M pc lv (vI v :: aR Γ c :: st) := by
  subst hn; intro H locs ls hH hS hl
  obtain ⟨C, T, N, h1, h2, h3, h4, h5, h6, ty0, h7, h8⟩ := f
  obtain ⟨s1, s2, rfl, s3, s4, s5, s6⟩ := sl
  obtain ⟨hI, L, hP⟩ := hH
  refine va_put hx.1 hx.2.1 hx.2.2.2.2.1 h2 ty0 h7 h8 hx.2.2.2.1 hx.2.2.2.2.2.1 hP (wD hx.2.2.2.2.2.2.2.2.1) hS c (by rw [wW_at s1, ent_obj s2]) h1 j h3 (hx.2.2.2.2.1 _ h4) (fun _ h => h) h5 h6 hnar hfit (by simpa using s3) d (fun H1 locs1 hP1 _ hS1 => ?_)
  have e : (wW (gk Γ) (ga Γ) M L).set c (ga Γ c, .inr (zci c, ((List.range (zln c)).map (fldv (ga Γ) M L c)).set j (vI v))) = wW (gk Γ) (ga Γ) (zset M c j v) L := by
    refine wW_set s1 ?_ (fun a' b' h => zset_ne _ _ _ _ (Or.inl h)) (fun _ _ _ => rfl)
    rw [ent_obj s2]
    congr 2
    have e2 : fldv (ga Γ) (zset M c j v) L c j = vI v := by unfold fldv; rw [if_pos s4, zset_eq]
    rw [← e2]
    exact (map_set _ _ _ _ (fun i hi => by unfold fldv; rw [zset_ne _ _ _ _ (Or.inr hi)])).symm
  rw [e] at hP1
  exact kk (zset M c j v) (zset_eq _ _ _ _) (fun a' b' h => zset_ne _ _ _ _ h) H1 locs1 ls ⟨hI.set (by rw [s5]; exact ha) (by rw [s6]; exact hb), L, hP1⟩ hS1 hl
theorem g_putI (hx : Ok Γ x cc nL own fr lo) {index ci c j : Nat} {a b v : Int} (f : FP own index ci j .int) (sl : SI c ci j a b) (d : decode cc pc = .ok (.putfield index, 3)) (hn : pc + 3 = n) (ha : a ≤ v) (hb : v ≤ b)
    (kk : ∀ M' : zM, M' c j = v → (∀ a' b', (a' ≠ c ∨ b' ≠ j) → M' a' b' = M a' b') → G Γ x nL Q M' n lv st) : G Γ x nL Q M pc lv (vI v :: aR Γ c :: st) := g_putX hx f sl rfl rfl d hn ha hb kk
theorem g_putZ (hx : Ok Γ x cc nL own fr lo) {index ci c j : Nat} {a b v : Int} (f : FP own index ci j .boolean) (sl : SI c ci j a b) (d : decode cc pc = .ok (.putfield index, 3)) (hn : pc + 3 = n) (hv : v = 0 ∨ v = 1) (ha : a ≤ v) (hb : v ≤ b)
    (kk : ∀ M' : zM, M' c j = v → (∀ a' b', (a' ≠ c ∨ b' ≠ j) → M' a' b' = M a' b') → G Γ x nL Q M' n lv st) : G Γ x nL Q M pc lv (vI v :: aR Γ c :: st) := by
  refine g_putX hx f sl ?_ ?_ d hn ha hb kk
  · rcases hv with rfl | rfl <;> rfl
  · rcases hv with rfl | rfl <;> rfl
theorem g_putJ (hx : Ok Γ x cc nL own fr lo) {index ci c j : Nat} {v : Int64} (f : FP own index ci j .long) (sl : SJ c ci j) (d : decode cc pc = .ok (.putfield index, 3)) (hn : pc + 3 = n)
    (kk : G Γ x nL Q M n lv st) : G Γ x nL Q M pc lv (.long v :: aR Γ c :: st) := by
  subst hn; intro H locs ls hH hS hl
  obtain ⟨C, T, N, h1, h2, h3, h4, h5, h6, ty0, h7, h8⟩ := f
  obtain ⟨s1, s2, rfl, s3, s4⟩ := sl
  obtain ⟨hI, L, hP⟩ := hH
  refine va_put hx.1 hx.2.1 hx.2.2.2.2.1 h2 ty0 h7 h8 hx.2.2.2.1 hx.2.2.2.2.2.1 hP (wD hx.2.2.2.2.2.2.2.2.1) hS c (by rw [wW_at s1, ent_obj s2]) h1 j h3 (hx.2.2.2.2.1 _ h4) (fun _ h => h) h5 h6 rfl rfl (by simpa using s3) d (fun H1 locs1 hP1 _ hS1 => ?_)
  have e : (wW (gk Γ) (ga Γ) M L).set c (ga Γ c, .inr (zci c, ((List.range (zln c)).map (fldv (ga Γ) M L c)).set j (.long v))) = wW (gk Γ) (ga Γ) M (lset L c j v) := by
    refine wW_set s1 ?_ (fun a' b' h => rfl) (fun a' b' h => lset_ne _ _ _ _ (Or.inl h))
    rw [ent_obj s2]
    congr 2
    have e2 : fldv (ga Γ) M (lset L c j v) c j = .long v := by unfold fldv; rw [if_neg (by omega), if_pos s4, lset_eq]
    rw [← e2]
    exact (map_set _ _ _ _ (fun i hi => by unfold fldv; rw [lset_ne _ _ _ _ (Or.inr hi)])).symm
  rw [e] at hP1
  exact kk H1 locs1 ls ⟨hI, _, hP1⟩ hS1 hl
/-- arrays -/
theorem g_iald (hx : Ok Γ x cc nL own fr lo) {c N : Nat} {a b i : Int} (s : AI c N a b) (d : decode cc pc = .ok (.iaload, 1)) (hn : pc + 1 = n) (h0 : 0 ≤ i) (h1 : i < N) (h2 : i ≤ 2147483647) {q : Nat} (hq : i.toNat = q) (kk : a ≤ M c q → M c q ≤ b → G Γ x nL Q M n lv (vI (M c q) :: st)) : G Γ x nL Q M pc lv (vI i :: aR Γ c :: st) := by
  subst hq
  subst hn; intro H locs ls hH hS hl
  obtain ⟨s1, s2, rfl, s3⟩ := s
  obtain ⟨hI, L, hP⟩ := hH
  have q := hI c i.toNat
  rw [(s3 _).1, (s3 _).2] at q
  refine va_iald hx.1 hx.2.1 hx.2.2.2.2.2.1 hP c 0 (by rw [wW_at s1, ent_arr s2 (Or.inl rfl)]) rfl (inI h0 h1 h2) d ?_
  rw [cN h0 h2]
  exact kk q.1 q.2 H locs ls ⟨hI, L, hP⟩ hS hl
theorem g_ialdX (hx : Ok Γ x cc nL own fr lo) {c N : Nat} {i : Int} (s : AK c 0 N) (d : decode cc pc = .ok (.iaload, 1)) (hn : pc + 1 = n) (h0 : 0 ≤ i) (h1 : i < N) (h2 : i ≤ 2147483647) {q : Nat} (hq : i.toNat = q) (kk : zlo c q ≤ M c q → M c q ≤ zhi c q → G Γ x nL Q M n lv (vI (M c q) :: st)) : G Γ x nL Q M pc lv (vI i :: aR Γ c :: st) := by
  subst hq
  subst hn; intro H locs ls hH hS hl
  obtain ⟨s1, s2, rfl⟩ := s
  obtain ⟨hI, L, hP⟩ := hH
  have q := hI c i.toNat
  refine va_iald hx.1 hx.2.1 hx.2.2.2.2.2.1 hP c 0 (by rw [wW_at s1, ent_arr s2 (Or.inl rfl)]) rfl (inI h0 h1 h2) d ?_
  rw [cN h0 h2]
  exact kk q.1 q.2 H locs ls ⟨hI, L, hP⟩ hS hl
theorem g_zald (hx : Ok Γ x cc nL own fr lo) {c N : Nat} {i : Int} (s : AK c 2 N) (d : decode cc pc = .ok (.baload, 1)) (hn : pc + 1 = n) (h0 : 0 ≤ i) (h1 : i < N) (h2 : i ≤ 2147483647) {q : Nat} (hq : i.toNat = q) (kk : zlo c q ≤ M c q → M c q ≤ zhi c q → G Γ x nL Q M n lv (vI (M c q) :: st)) : G Γ x nL Q M pc lv (vI i :: aR Γ c :: st) := by
  subst hq
  subst hn; intro H locs ls hH hS hl
  obtain ⟨s1, s2, rfl⟩ := s
  obtain ⟨hI, L, hP⟩ := hH
  have q := hI c i.toNat
  refine va_zald hx.1 hx.2.1 hx.2.2.2.2.2.1 hP c 2 (by rw [wW_at s1, ent_arr s2 (Or.inr (Or.inl rfl))]) rfl (inI h0 h1 h2) d ?_
  rw [cN h0 h2]
  exact kk q.1 q.2 H locs ls ⟨hI, L, hP⟩ hS hl
theorem g_bald (hx : Ok Γ x cc nL own fr lo) {c N : Nat} {i : Int} (s : AK c 5 N) (d : decode cc pc = .ok (.baload, 1)) (hn : pc + 1 = n) (h0 : 0 ≤ i) (h1 : i < N) (h2 : i ≤ 2147483647) {q : Nat} (hq : i.toNat = q) (kk : zlo c q ≤ M c q → M c q ≤ zhi c q → G Γ x nL Q M n lv (vI (M c q) :: st)) : G Γ x nL Q M pc lv (vI i :: aR Γ c :: st) := by
  subst hq
  subst hn; intro H locs ls hH hS hl
  obtain ⟨s1, s2, rfl⟩ := s
  obtain ⟨hI, L, hP⟩ := hH
  have q := hI c i.toNat
  refine va_bald hx.1 hx.2.1 hx.2.2.2.2.2.1 hP c 5 (by rw [wW_at s1, ent_arr s2 (Or.inr (Or.inr rfl))]) rfl (inI h0 h1 h2) d ?_
  rw [cN h0 h2]
  exact kk q.1 q.2 H locs ls ⟨hI, L, hP⟩ hS hl
theorem set_arr {k : Nat → ClassId} {ad : Nat → Nat} {L : Nat → Nat → Int64} {c kd i : Nat} {v : Int} (s1 : c < zNC) (s2 : zkd c = kd) (hk : kd = 0 ∨ kd = 2 ∨ kd = 5) : (wW k ad M L).set c (ad c, .inl (k kd, zln c, .inl (upd (fun j => Int32.ofInt (M c j)) i (Int32.ofInt v)))) = wW k ad (zset M c i v) L := by
  refine wW_set s1 ?_ (fun a' b' h => zset_ne _ _ _ _ (Or.inl h)) (fun _ _ _ => rfl)
  rw [ent_arr s2 hk]
  congr 4
  funext j
  unfold upd
  by_cases h : j = i
  · subst h; rw [if_pos rfl, zset_eq]
  · rw [if_neg h, zset_ne _ _ _ _ (Or.inr h)]
theorem g_iastX (hx : Ok Γ x cc nL own fr lo) {c N : Nat} {i v : Int} (s : AK c 0 N) (d : decode cc pc = .ok (.iastore, 1)) (hn : pc + 1 = n) (h0 : 0 ≤ i) (h1 : i < N) (h2 : i ≤ 2147483647) {q : Nat} (hq : i.toNat = q) (ha : zlo c q ≤ v) (hb : v ≤ zhi c q)
    (kk : ∀ M' : zM, M' c q = v → (∀ a' b', (a' ≠ c ∨ b' ≠ q) → M' a' b' = M a' b') → G Γ x nL Q M' n lv st) : G Γ x nL Q M pc lv (vI v :: vI i :: aR Γ c :: st) := by
  subst hq
  subst hn; intro H locs ls hH hS hl
  obtain ⟨s1, s2, rfl⟩ := s
  obtain ⟨hI, L, hP⟩ := hH
  refine va_iast hx.1 hx.2.1 hx.2.2.2.2.2.1 hP (wD hx.2.2.2.2.2.2.2.2.1) hS c 0 (by rw [wW_at s1, ent_arr s2 (Or.inl rfl)]) rfl (inI h0 h1 h2) d (fun H1 locs1 hP1 _ hS1 => ?_)
  rw [cN h0 h2, set_arr s1 s2 (Or.inl rfl)] at hP1
  exact kk _ (zset_eq _ _ _ _) (fun a' b' h => zset_ne _ _ _ _ h) H1 locs1 ls ⟨hI.set ha hb, L, hP1⟩ hS1 hl
theorem g_iast (hx : Ok Γ x cc nL own fr lo) {c N : Nat} {a b i v : Int} (s : AI c N a b) (d : decode cc pc = .ok (.iastore, 1)) (hn : pc + 1 = n) (h0 : 0 ≤ i) (h1 : i < N) (h2 : i ≤ 2147483647) {q : Nat} (hq : i.toNat = q) (ha : a ≤ v) (hb : v ≤ b)
    (kk : ∀ M' : zM, M' c q = v → (∀ a' b', (a' ≠ c ∨ b' ≠ q) → M' a' b' = M a' b') → G Γ x nL Q M' n lv st) : G Γ x nL Q M pc lv (vI v :: vI i :: aR Γ c :: st) :=
  g_iastX hx ⟨s.1, s.2.1, s.2.2.1⟩ d hn h0 h1 h2 hq (by rw [(s.2.2.2 _).1]; exact ha) (by rw [(s.2.2.2 _).2]; exact hb) kk
theorem g_zast (hx : Ok Γ x cc nL own fr lo) {c N : Nat} {i v : Int} (s : AK c 2 N) (d : decode cc pc = .ok (.bastore, 1)) (hn : pc + 1 = n) (h0 : 0 ≤ i) (h1 : i < N) (h2 : i ≤ 2147483647) {q : Nat} (hq : i.toNat = q) (hv : v = 0 ∨ v = 1) (ha : zlo c q ≤ v) (hb : v ≤ zhi c q)
    (kk : ∀ M' : zM, M' c q = v → (∀ a' b', (a' ≠ c ∨ b' ≠ q) → M' a' b' = M a' b') → G Γ x nL Q M' n lv st) : G Γ x nL Q M pc lv (vI v :: vI i :: aR Γ c :: st) := by
  subst hq
  subst hn; intro H locs ls hH hS hl
  obtain ⟨s1, s2, rfl⟩ := s
  obtain ⟨hI, L, hP⟩ := hH
  refine va_zast hx.1 hx.2.1 hx.2.2.2.2.2.1 hP (wD hx.2.2.2.2.2.2.2.2.1) hS c 2 (by rw [wW_at s1, ent_arr s2 (Or.inr (Or.inl rfl))]) rfl (inI h0 h1 h2) d (fun H1 locs1 hP1 _ hS1 => ?_)
  have e : vp_nar .boolean (Int32.ofInt v) = Int32.ofInt v := by rcases hv with rfl | rfl <;> rfl
  rw [e, cN h0 h2, set_arr s1 s2 (Or.inr (Or.inl rfl))] at hP1
  exact kk _ (zset_eq _ _ _ _) (fun a' b' h => zset_ne _ _ _ _ h) H1 locs1 ls ⟨hI.set ha hb, L, hP1⟩ hS1 hl
theorem g_bast (hx : Ok Γ x cc nL own fr lo) {c N : Nat} {i v : Int} (s : AK c 5 N) (d : decode cc pc = .ok (.bastore, 1)) (hn : pc + 1 = n) (h0 : 0 ≤ i) (h1 : i < N) (h2 : i ≤ 2147483647) {q : Nat} (hq : i.toNat = q) (hv1 : -128 ≤ v) (hv2 : v ≤ 127) (ha : zlo c q ≤ v) (hb : v ≤ zhi c q)
    (kk : ∀ M' : zM, M' c q = v → (∀ a' b', (a' ≠ c ∨ b' ≠ q) → M' a' b' = M a' b') → G Γ x nL Q M' n lv st) : G Γ x nL Q M pc lv (vI v :: vI i :: aR Γ c :: st) := by
  subst hq
  subst hn; intro H locs ls hH hS hl
  obtain ⟨s1, s2, rfl⟩ := s
  obtain ⟨hI, L, hP⟩ := hH
  refine va_bast hx.1 hx.2.1 hx.2.2.2.2.2.1 hP (wD hx.2.2.2.2.2.2.2.2.1) hS c 5 (by rw [wW_at s1, ent_arr s2 (Or.inr (Or.inr rfl))]) rfl (inI h0 h1 h2) d (fun H1 locs1 hP1 _ hS1 => ?_)
  have e : vp_nar .byte (Int32.ofInt v) = Int32.ofInt v := by
    show (Int32.ofInt v).toInt8.toInt32 = _
    apply Int32.toInt_inj.mp
    rw [Int8.toInt_toInt32, Int32.toInt_toInt8, tI (by omega) (by omega)]
    exact Int.bmod_eq_of_le (by omega) (by omega)
  rw [e, cN h0 h2, set_arr s1 s2 (Or.inr (Or.inr rfl))] at hP1
  exact kk _ (zset_eq _ _ _ _) (fun a' b' h => zset_ne _ _ _ _ h) H1 locs1 ls ⟨hI.set ha hb, L, hP1⟩ hS1 hl
theorem g_lald (hx : Ok Γ x cc nL own fr lo) {c N : Nat} {i : Int} (s : AK c 1 N) (d : decode cc pc = .ok (.laload, 1)) (hn : pc + 1 = n) (h0 : 0 ≤ i) (h1 : i < N) (h2 : i ≤ 2147483647) (kk : ∀ w : Int64, G Γ x nL Q M n lv (.long w :: st)) : G Γ x nL Q M pc lv (vI i :: aR Γ c :: st) := by
  subst hn; intro H locs ls hH hS hl
  obtain ⟨s1, s2, rfl⟩ := s
  obtain ⟨hI, L, hP⟩ := hH
  exact va_lald hx.1 hx.2.1 hx.2.2.2.2.2.1 hP c 1 (by rw [wW_at s1, ent_long s2]) rfl (inI h0 h1 h2) d (kk _ H locs ls ⟨hI, L, hP⟩ hS hl)
theorem g_last (hx : Ok Γ x cc nL own fr lo) {c N : Nat} {i : Int} {v : Int64} (s : AK c 1 N) (d : decode cc pc = .ok (.lastore, 1)) (hn : pc + 1 = n) (h0 : 0 ≤ i) (h1 : i < N) (h2 : i ≤ 2147483647) (kk : G Γ x nL Q M n lv st) : G Γ x nL Q M pc lv (.long v :: vI i :: aR Γ c :: st) := by
  subst hn; intro H locs ls hH hS hl
  obtain ⟨s1, s2, rfl⟩ := s
  obtain ⟨hI, L, hP⟩ := hH
  refine va_last hx.1 hx.2.1 hx.2.2.2.2.2.1 hP (wD hx.2.2.2.2.2.2.2.2.1) hS c 1 (by rw [wW_at s1, ent_long s2]) rfl (inI h0 h1 h2) d (fun H1 locs1 hP1 _ hS1 => ?_)
  have key : ∀ g : Nat → Int64, (wW (gk Γ) (ga Γ) M L).set c (ga Γ c, .inl (gk Γ 1, zln c, .inr (.inl g))) = wW (gk Γ) (ga Γ) M (fun a => if a = c then g else L a) := fun g => by
    refine wW_set s1 ?_ (fun a' b' h => rfl) (fun a' b' h => by rw [if_neg h])
    rw [ent_long s2, if_pos rfl]
  rw [key] at hP1
  exact kk H1 locs1 ls ⟨hI, _, hP1⟩ hS1 hl
theorem g_aald (hx : Ok Γ x cc nL own fr lo) {c kd N : Nat} {i : Int} (s : AK c kd N) (hk : kd = 3 ∨ kd = 4) (d : decode cc pc = .ok (.aaload, 1)) (hn : pc + 1 = n) (h0 : 0 ≤ i) (h1 : i < N) (h2 : i ≤ 2147483647) {q : Nat} (hq : i.toNat = q) (kk : G Γ x nL Q M n lv (aR Γ (zrf c q) :: st)) : G Γ x nL Q M pc lv (vI i :: aR Γ c :: st) := by
  subst hq
  subst hn; intro H locs ls hH hS hl
  obtain ⟨s1, s2, rfl⟩ := s
  obtain ⟨hI, L, hP⟩ := hH
  have k2 := kk H locs ls ⟨hI, L, hP⟩ hS hl
  rcases hk with rfl | rfl
  · refine va_aldq (C := "RaftForest$Rule") hx.1 hx.2.1 hx.2.2.2.2.2.1 hP c 3 (by rw [wW_at s1, ent_ref s2 (Or.inl rfl)]) rfl (inI h0 h1 h2) d ?_
    rw [cN h0 h2]
    exact k2
  · refine va_aldq (C := "RaftForest$Image") hx.1 hx.2.1 hx.2.2.2.2.2.1 hP c 4 (by rw [wW_at s1, ent_ref s2 (Or.inr rfl)]) rfl (inI h0 h1 h2) d ?_
    rw [cN h0 h2]
    exact k2
theorem g_alen (hx : Ok Γ x cc nL own fr lo) {c N : Nat} (s : AK c 0 N) (d : decode cc pc = .ok (.arraylength, 1)) (hn : pc + 1 = n) (kk : G Γ x nL Q M n lv (vI N :: st)) : G Γ x nL Q M pc lv (aR Γ c :: st) := by
  subst hn; intro H locs ls hH hS hl
  obtain ⟨s1, s2, rfl⟩ := s
  obtain ⟨hI, L, hP⟩ := hH
  exact va_alen (ty := .int) (v := Int32.ofInt (zln c)) hx.1 hx.2.1 hx.2.2.2.2.2.1 hP c 0 (by rw [wW_at s1, ent_arr s2 (Or.inl rfl)]) rfl rfl d (kk H locs ls ⟨hI, L, hP⟩ hS hl)
/-- ends -/
theorem g_iret {post : Int → zM → Prop} {v : Int} (hx : Ok Γ x cc nL own fr lo) (hr : (xh x).sig.returnType = some .int) (d : decode cc pc = .ok (.ireturn, 1)) (hv : zR v) (hp : post v M) : G Γ x nL (QI Γ x post) M pc lv [vI v] := by
  intro H locs ls hH hS hl
  exact W.iret hx.1 hx.2.1 hr (fun t ht hW => ⟨⟨_, M, rfl, ⟨v, rfl, hv, hp⟩, by show Hp _ _ _ M t.heap; rw [ht]; exact hH⟩, hS.F ht⟩) hS.2.2 d hx.2.2.2.2.2.2.2.2.2.1
theorem g_zret {post : Int → zM → Prop} {v : Int} (hx : Ok Γ x cc nL own fr lo) (hr : (xh x).sig.returnType = some .boolean) (d : decode cc pc = .ok (.ireturn, 1)) (hv : v = 0 ∨ v = 1) (hp : post v M) : G Γ x nL (QI Γ x post) M pc lv [vI v] := by
  intro H locs ls hH hS hl
  exact W.zret (ty := .boolean) hx.1 hx.2.1 hr (by rcases hv with rfl | rfl <;> rfl) (fun t ht hW => ⟨⟨_, M, rfl, ⟨v, rfl, by rcases hv with rfl | rfl <;> decide, hp⟩, by show Hp _ _ _ M t.heap; rw [ht]; exact hH⟩, hS.F ht⟩) hS.2.2 d hx.2.2.2.2.2.2.2.2.2.1
theorem g_vret {post : zM → Prop} (hx : Ok Γ x cc nL own fr lo) (hr : (xh x).sig.returnType = none) (d : decode cc pc = .ok (.return_, 1)) (hp : post M) : G Γ x nL (QV Γ x post) M pc lv [] := by
  intro H locs ls hH hS hl
  exact W.vret hx.1 hx.2.1 hr (fun t ht hW => ⟨⟨M, rfl, hp, by show Hp _ _ _ M t.heap; rw [ht]; exact hH⟩, hS.F ht⟩) hS.2.2 d hx.2.2.2.2.2.2.2.2.2.1
theorem g_lret {post : Int64 → zM → Prop} {v : Int64} (hx : Ok Γ x cc nL own fr lo) (hr : (xh x).sig.returnType = some .long) (d : decode cc pc = .ok (.lreturn, 1)) (hp : post v M) : G Γ x nL (QL Γ x post) M pc lv [.long v] := by
  intro H locs ls hH hS hl
  exact W.lret hx.1 hx.2.1 hr (fun t ht hW => ⟨⟨_, M, rfl, hp, by show Hp _ _ _ M t.heap; rw [ht]; exact hH⟩, hS.F ht⟩) hS.2.2 d hx.2.2.2.2.2.2.2.2.2.1
theorem pre_of {H : Heap} {locs : List Loc} {av : List Value} (hx : Ok Γ x cc nL own fr lo) (hH : Hp (gD Γ) (gk Γ) (ga Γ) M H) (hS : va_S (xA Γ x) (xs x).heap H locs) : PreS (xs x) H (va_Pc av (PRW Γ M H.size)) av := by
  refine ⟨PRW.blind, fun U hU hW => ⟨rfl, by rw [hU], by rw [hU]; exact hH, va_K.moved hW.alike hx.2.2.2.2.2.1, hx.2.2.2.2.2.2.1.warm hW, ?_, hx.2.2.2.2.2.2.2.2.1⟩⟩
  rw [hU]
  exact hx.2.2.2.2.2.2.2.1.go hS.2.1 (AA_sub hS.1) hW
theorem preV_of {H : Heap} {locs : List Loc} {As : List Value} {b : Nat} {C : String} (hx : Ok Γ x cc nL own fr lo) (hb : OB b C) (hH : Hp (gD Γ) (gk Γ) (ga Γ) M H) (hS : va_S (xA Γ x) (xs x).heap H locs) : PreV (xs x) H C (ga Γ b) (va_Pc (aR Γ b :: As) (PRW Γ M H.size)) As := by
  have hp := pre_of (av := aR Γ b :: As) hx hH hS
  obtain ⟨h1, h2, T, N, h3⟩ := hb
  obtain ⟨hI, L, hP⟩ := hH
  exact ⟨hp.1, va_recv hx.2.2.2.2.2.1 hP h3 (q0 := b) (by rw [wW_at h1, ent_obj h2]), hp.2⟩
variable {y : MethodName} {cy : ByteArray} {ny fy ly index : Nat} {ry : Option FieldType} {As rest st0 : List Value} {b : Nat}
theorem g_callVi {post : Int → zM → Prop} (hx : Ok Γ x cc nL own fr lo) (C : CtI Γ y cy ny ry fy ly (aR Γ b :: As) M post) (L : LV own index y cy ny ry As.length) (hb : OB b y.cls) (d : decode cc pc = .ok (.invokevirtual index, 3)) (hn : pc + 3 = n) (hf : fy + 1 ≤ fr) (hlo : 8 + (ny + 11) + ly ≤ lo) (hs : (rest.map fun v => v.category).sum ≤ 8) (hst : st0 = As.reverse ++ aR Γ b :: rest) (kk : ∀ z M', zR z → post z M' → G Γ x nL Q M' n lv (vI z :: rest)) : G Γ x nL Q M pc lv st0 := by
  subst hn; intro H locs ls hH hS hl
  have hR := hx.2.2.2.2.2.2.2.2.2.2
  obtain ⟨w1, w2, w3, w4, w5, w6⟩ := L
  refine va_calli (va_runV (As := As) (rest := rest) ⟨hx.1, hx.2.1, hx.2.2.1, hx.2.2.2.1, hx.2.2.2.2.1⟩ (C H.size) (cwV As.length hx.2.2.2.2.1 (gV w1 w2 w3 w4 w5) rfl rfl rfl ⟨rfl, w6⟩ ⟨by rw [hR]; exact hf, by rw [hR]; exact hlo⟩) (preV_of hx hb hH hS) rfl rfl hl.1 hst (lv_room hs) d ⟨Nat.zero_le _, Nat.zero_le _⟩) hS (fun q _ h => AA_sub hS.1 q h) (AA_sub hS.1) (fun r u t H1 locs1 ht _ hw hB _ _ hS1 => ?_)
  obtain ⟨z, rfl, hz, hpost⟩ := hw
  exact kk z u hz hpost H1 locs1 ls (by have hB' : Hp (gD Γ) (gk Γ) (ga Γ) u t.heap := hB; rw [ht] at hB'; exact hB') hS1 hl
theorem g_callSi {post : Int → zM → Prop} (hx : Ok Γ x cc nL own fr lo) (C : CtI Γ y cy ny ry fy ly As M post) (L : LT own index y cy ny ry As.length) (d : decode cc pc = .ok (.invokestatic index, 3)) (hn : pc + 3 = n) (hf : fy + 1 ≤ fr) (hlo : 8 + (ny + 11) + ly ≤ lo) (hs : (rest.map fun v => v.category).sum ≤ 8) (hst : st0 = As.reverse ++ rest) (kk : ∀ z M', zR z → post z M' → G Γ x nL Q M' n lv (vI z :: rest)) : G Γ x nL Q M pc lv st0 := by
  subst hn; intro H locs ls hH hS hl
  have hR := hx.2.2.2.2.2.2.2.2.2.2
  obtain ⟨w1, w2, w3, w4, w6⟩ := L
  refine va_calli (va_runS (As := As) (rest := rest) ⟨hx.1, hx.2.1, hx.2.2.1, hx.2.2.2.1, hx.2.2.2.2.1⟩ (C H.size) (va_cwS As.length hx.2.2.2.2.1 (gT w1 w2 w3 w4) rfl rfl rfl w6 ⟨by rw [hR]; exact hf, by rw [hR]; exact hlo⟩) (pre_of hx hH hS) rfl rfl hl.1 hst (lv_room hs) d ⟨Nat.zero_le _, Nat.zero_le _⟩) hS (fun q _ h => AA_sub hS.1 q h) (AA_sub hS.1) (fun r u t H1 locs1 ht _ hw hB _ _ hS1 => ?_)
  obtain ⟨z, rfl, hz, hpost⟩ := hw
  exact kk z u hz hpost H1 locs1 ls (by have hB' : Hp (gD Γ) (gk Γ) (ga Γ) u t.heap := hB; rw [ht] at hB'; exact hB') hS1 hl
theorem g_callNi {post : Int → zM → Prop} (hx : Ok Γ x cc nL own fr lo) (C : CtI Γ y cy ny ry fy ly As M post) (L : LN own index y cy ny ry As.length) (d : decode cc pc = .ok (.invokestatic index, 3)) (hn : pc + 3 = n) (hf : fy + 1 ≤ fr) (hlo : 8 + (ny + 11) + ly ≤ lo) (hs : (rest.map fun v => v.category).sum ≤ 8) (hst : st0 = As.reverse ++ rest) (kk : ∀ z M', zR z → post z M' → G Γ x nL Q M' n lv (vI z :: rest)) : G Γ x nL Q M pc lv st0 := by
  subst hn; intro H locs ls hH hS hl
  have hR := hx.2.2.2.2.2.2.2.2.2.2
  obtain ⟨⟨host, w1⟩, w2, w3, w4, w6⟩ := L
  refine va_calli (va_runSN (As := As) (rest := rest) ⟨hx.1, hx.2.1, hx.2.2.1, hx.2.2.2.1, hx.2.2.2.2.1⟩ (C H.size) ⟨va_cnB As.length hx.2.2.2.2.1 (gM w4) rfl rfl rfl (hx.2.2.2.2.2.2.1.1 _ w1) (hx.2.2.2.2.1 _ w3) w6 ⟨by rw [hR]; exact hf, by rw [hR]; exact hlo⟩, hx.2.2.2.2.1 _ w2, trivial⟩ (pre_of hx hH hS) rfl rfl hl.1 hst (lv_room hs) d ⟨Nat.zero_le _, Nat.zero_le _⟩) hS (fun q _ h => AA_sub hS.1 q h) (AA_sub hS.1) (fun r u t H1 locs1 ht _ hw hB _ _ hS1 => ?_)
  obtain ⟨z, rfl, hz, hpost⟩ := hw
  exact kk z u hz hpost H1 locs1 ls (by have hB' : Hp (gD Γ) (gk Γ) (ga Γ) u t.heap := hB; rw [ht] at hB'; exact hB') hS1 hl
theorem g_callVv {post : zM → Prop} (hx : Ok Γ x cc nL own fr lo) (C : CtV Γ y cy ny ry fy ly (aR Γ b :: As) M post) (L : LV own index y cy ny ry As.length) (hb : OB b y.cls) (d : decode cc pc = .ok (.invokevirtual index, 3)) (hn : pc + 3 = n) (hf : fy + 1 ≤ fr) (hlo : 8 + (ny + 11) + ly ≤ lo) (hs : (rest.map fun v => v.category).sum ≤ 8) (hst : st0 = As.reverse ++ aR Γ b :: rest) (kk : ∀ M', post M' → G Γ x nL Q M' n lv rest) : G Γ x nL Q M pc lv st0 := by
  subst hn; intro H locs ls hH hS hl
  have hR := hx.2.2.2.2.2.2.2.2.2.2
  obtain ⟨w1, w2, w3, w4, w5, w6⟩ := L
  refine va_callv (va_runV (As := As) (rest := rest) ⟨hx.1, hx.2.1, hx.2.2.1, hx.2.2.2.1, hx.2.2.2.2.1⟩ (C H.size) (cwV As.length hx.2.2.2.2.1 (gV w1 w2 w3 w4 w5) rfl rfl rfl ⟨rfl, w6⟩ ⟨by rw [hR]; exact hf, by rw [hR]; exact hlo⟩) (preV_of hx hb hH hS) rfl rfl hl.1 hst (lv_room hs) d ⟨Nat.zero_le _, Nat.zero_le _⟩) hS (fun q _ h => AA_sub hS.1 q h) (AA_sub hS.1) (fun u t H1 locs1 ht _ hw hB _ _ hS1 => ?_)
  exact kk u hw H1 locs1 ls (by have hB' : Hp (gD Γ) (gk Γ) (ga Γ) u t.heap := hB; rw [ht] at hB'; exact hB') hS1 hl
theorem g_callSv {post : zM → Prop} (hx : Ok Γ x cc nL own fr lo) (C : CtV Γ y cy ny ry fy ly As M post) (L : LT own index y cy ny ry As.length) (d : decode cc pc = .ok (.invokestatic index, 3)) (hn : pc + 3 = n) (hf : fy + 1 ≤ fr) (hlo : 8 + (ny + 11) + ly ≤ lo) (hs : (rest.map fun v => v.category).sum ≤ 8) (hst : st0 = As.reverse ++ rest) (kk : ∀ M', post M' → G Γ x nL Q M' n lv rest) : G Γ x nL Q M pc lv st0 := by
  subst hn; intro H locs ls hH hS hl
  have hR := hx.2.2.2.2.2.2.2.2.2.2
  obtain ⟨w1, w2, w3, w4, w6⟩ := L
  refine va_callv (va_runS (As := As) (rest := rest) ⟨hx.1, hx.2.1, hx.2.2.1, hx.2.2.2.1, hx.2.2.2.2.1⟩ (C H.size) (va_cwS As.length hx.2.2.2.2.1 (gT w1 w2 w3 w4) rfl rfl rfl w6 ⟨by rw [hR]; exact hf, by rw [hR]; exact hlo⟩) (pre_of hx hH hS) rfl rfl hl.1 hst (lv_room hs) d ⟨Nat.zero_le _, Nat.zero_le _⟩) hS (fun q _ h => AA_sub hS.1 q h) (AA_sub hS.1) (fun u t H1 locs1 ht _ hw hB _ _ hS1 => ?_)
  exact kk u hw H1 locs1 ls (by have hB' : Hp (gD Γ) (gk Γ) (ga Γ) u t.heap := hB; rw [ht] at hB'; exact hB') hS1 hl
theorem g_callNv {post : zM → Prop} (hx : Ok Γ x cc nL own fr lo) (C : CtV Γ y cy ny ry fy ly As M post) (L : LN own index y cy ny ry As.length) (d : decode cc pc = .ok (.invokestatic index, 3)) (hn : pc + 3 = n) (hf : fy + 1 ≤ fr) (hlo : 8 + (ny + 11) + ly ≤ lo) (hs : (rest.map fun v => v.category).sum ≤ 8) (hst : st0 = As.reverse ++ rest) (kk : ∀ M', post M' → G Γ x nL Q M' n lv rest) : G Γ x nL Q M pc lv st0 := by
  subst hn; intro H locs ls hH hS hl
  have hR := hx.2.2.2.2.2.2.2.2.2.2
  obtain ⟨⟨host, w1⟩, w2, w3, w4, w6⟩ := L
  refine va_callv (va_runSN (As := As) (rest := rest) ⟨hx.1, hx.2.1, hx.2.2.1, hx.2.2.2.1, hx.2.2.2.2.1⟩ (C H.size) ⟨va_cnB As.length hx.2.2.2.2.1 (gM w4) rfl rfl rfl (hx.2.2.2.2.2.2.1.1 _ w1) (hx.2.2.2.2.1 _ w3) w6 ⟨by rw [hR]; exact hf, by rw [hR]; exact hlo⟩, hx.2.2.2.2.1 _ w2, trivial⟩ (pre_of hx hH hS) rfl rfl hl.1 hst (lv_room hs) d ⟨Nat.zero_le _, Nat.zero_le _⟩) hS (fun q _ h => AA_sub hS.1 q h) (AA_sub hS.1) (fun u t H1 locs1 ht _ hw hB _ _ hS1 => ?_)
  exact kk u hw H1 locs1 ls (by have hB' : Hp (gD Γ) (gk Γ) (ga Γ) u t.heap := hB; rw [ht] at hB'; exact hB') hS1 hl
theorem g_callVl {post : Int64 → zM → Prop} (hx : Ok Γ x cc nL own fr lo) (C : CtL Γ y cy ny ry fy ly (aR Γ b :: As) M post) (L : LV own index y cy ny ry As.length) (hb : OB b y.cls) (d : decode cc pc = .ok (.invokevirtual index, 3)) (hn : pc + 3 = n) (hf : fy + 1 ≤ fr) (hlo : 8 + (ny + 11) + ly ≤ lo) (hs : (rest.map fun v => v.category).sum ≤ 8) (hst : st0 = As.reverse ++ aR Γ b :: rest) (kk : ∀ z M', post z M' → G Γ x nL Q M' n lv (.long z :: rest)) : G Γ x nL Q M pc lv st0 := by
  subst hn; intro H locs ls hH hS hl
  have hR := hx.2.2.2.2.2.2.2.2.2.2
  obtain ⟨w1, w2, w3, w4, w5, w6⟩ := L
  refine va_calll (va_runV (As := As) (rest := rest) ⟨hx.1, hx.2.1, hx.2.2.1, hx.2.2.2.1, hx.2.2.2.2.1⟩ (C H.size) (cwV As.length hx.2.2.2.2.1 (gV w1 w2 w3 w4 w5) rfl rfl rfl ⟨rfl, w6⟩ ⟨by rw [hR]; exact hf, by rw [hR]; exact hlo⟩) (preV_of hx hb hH hS) rfl rfl hl.1 hst (lv_room hs) d ⟨Nat.zero_le _, Nat.zero_le _⟩) hS (fun q _ h => AA_sub hS.1 q h) (AA_sub hS.1) (fun r u t H1 locs1 ht _ hw hB _ _ hS1 => ?_)
  exact kk r u hw H1 locs1 ls (by have hB' : Hp (gD Γ) (gk Γ) (ga Γ) u t.heap := hB; rw [ht] at hB'; exact hB') hS1 hl
theorem g_callSl {post : Int64 → zM → Prop} (hx : Ok Γ x cc nL own fr lo) (C : CtL Γ y cy ny ry fy ly As M post) (L : LT own index y cy ny ry As.length) (d : decode cc pc = .ok (.invokestatic index, 3)) (hn : pc + 3 = n) (hf : fy + 1 ≤ fr) (hlo : 8 + (ny + 11) + ly ≤ lo) (hs : (rest.map fun v => v.category).sum ≤ 8) (hst : st0 = As.reverse ++ rest) (kk : ∀ z M', post z M' → G Γ x nL Q M' n lv (.long z :: rest)) : G Γ x nL Q M pc lv st0 := by
  subst hn; intro H locs ls hH hS hl
  have hR := hx.2.2.2.2.2.2.2.2.2.2
  obtain ⟨w1, w2, w3, w4, w6⟩ := L
  refine va_calll (va_runS (As := As) (rest := rest) ⟨hx.1, hx.2.1, hx.2.2.1, hx.2.2.2.1, hx.2.2.2.2.1⟩ (C H.size) (va_cwS As.length hx.2.2.2.2.1 (gT w1 w2 w3 w4) rfl rfl rfl w6 ⟨by rw [hR]; exact hf, by rw [hR]; exact hlo⟩) (pre_of hx hH hS) rfl rfl hl.1 hst (lv_room hs) d ⟨Nat.zero_le _, Nat.zero_le _⟩) hS (fun q _ h => AA_sub hS.1 q h) (AA_sub hS.1) (fun r u t H1 locs1 ht _ hw hB _ _ hS1 => ?_)
  exact kk r u hw H1 locs1 ls (by have hB' : Hp (gD Γ) (gk Γ) (ga Γ) u t.heap := hB; rw [ht] at hB'; exact hB') hS1 hl
theorem g_callNl {post : Int64 → zM → Prop} (hx : Ok Γ x cc nL own fr lo) (C : CtL Γ y cy ny ry fy ly As M post) (L : LN own index y cy ny ry As.length) (d : decode cc pc = .ok (.invokestatic index, 3)) (hn : pc + 3 = n) (hf : fy + 1 ≤ fr) (hlo : 8 + (ny + 11) + ly ≤ lo) (hs : (rest.map fun v => v.category).sum ≤ 8) (hst : st0 = As.reverse ++ rest) (kk : ∀ z M', post z M' → G Γ x nL Q M' n lv (.long z :: rest)) : G Γ x nL Q M pc lv st0 := by
  subst hn; intro H locs ls hH hS hl
  have hR := hx.2.2.2.2.2.2.2.2.2.2
  obtain ⟨⟨host, w1⟩, w2, w3, w4, w6⟩ := L
  refine va_calll (va_runSN (As := As) (rest := rest) ⟨hx.1, hx.2.1, hx.2.2.1, hx.2.2.2.1, hx.2.2.2.2.1⟩ (C H.size) ⟨va_cnB As.length hx.2.2.2.2.1 (gM w4) rfl rfl rfl (hx.2.2.2.2.2.2.1.1 _ w1) (hx.2.2.2.2.1 _ w3) w6 ⟨by rw [hR]; exact hf, by rw [hR]; exact hlo⟩, hx.2.2.2.2.1 _ w2, trivial⟩ (pre_of hx hH hS) rfl rfl hl.1 hst (lv_room hs) d ⟨Nat.zero_le _, Nat.zero_le _⟩) hS (fun q _ h => AA_sub hS.1 q h) (AA_sub hS.1) (fun r u t H1 locs1 ht _ hw hB _ _ hS1 => ?_)
  exact kk r u hw H1 locs1 ls (by have hB' : Hp (gD Γ) (gk Γ) (ga Γ) u t.heap := hB; rw [ht] at hB'; exact hB') hS1 hl
theorem g_lv {lv' : List (Nat × Value)} (ks : List Nat) (h : lv_pick lv ks = lv') (kk : G Γ x nL Q M pc lv' st) : G Γ x nL Q M pc lv st := by
  intro H locs ls hH hS hl
  exact kk H locs ls hH hS (lv_sub hl ks h)
theorem g_max (hx : Ok Γ x cc nL own fr lo) {a b : Int} (w1 : Cond.methodLink own index Lib.Math.max.name ∈ wsB) (w2 : Cond.static Lib.Math.max.name ∈ wsB) (w3 : Cond.initialized "java/lang/Math" ∈ wsB) (w4 : Cond.code Lib.Math.max.name Lib.Math.max.code 2 (some .int) ∈ wsB) (d : decode cc pc = .ok (.invokestatic index, 3)) (hn : pc + 3 = n) (hf : 1 ≤ fr) (hlo : (st.map fun v => v.category).sum + 13 ≤ lo) (ha : zR a) (hb : zR b) (kk : ∀ z, zR z → (z = a ∨ z = b) → a ≤ z → b ≤ z → G Γ x nL Q M n lv (vI z :: st)) : G Γ x nL Q M pc lv (vI b :: vI a :: st) := by
  subst hn; intro H locs ls hH hS hl
  have hR := hx.2.2.2.2.2.2.2.2.2.2
  have hw := hx.2.2.2.2.1
  refine va_mmax hx.1 hx.2.1 (hx.2.2.1.trans hl.1.symm) hx.2.2.2.1 (hw _ w1) (hw _ w2) (hw _ w3) (hw _ w4) (by rw [hR]; exact hf) (by rw [hR]; exact hlo) (by rw [hR]; exact Nat.le_refl _) (by rw [hR]; exact Nat.le_refl _) d ?_
  by_cases h : Int32.ofInt a < Int32.ofInt b
  · rw [if_pos h]
    rw [lI ha hb] at h
    exact kk b hb (Or.inr rfl) (by omega) (by omega) H locs ls hH hS hl
  · rw [if_neg h]
    rw [lI ha hb] at h
    exact kk a ha (Or.inl rfl) (by omega) (by omega) H locs ls hH hS hl
theorem g_min (hx : Ok Γ x cc nL own fr lo) {a b : Int} (w1 : Cond.methodLink own index Lib.Math.min.name ∈ wsB) (w2 : Cond.static Lib.Math.min.name ∈ wsB) (w3 : Cond.initialized "java/lang/Math" ∈ wsB) (w4 : Cond.code Lib.Math.min.name Lib.Math.min.code 2 (some .int) ∈ wsB) (d : decode cc pc = .ok (.invokestatic index, 3)) (hn : pc + 3 = n) (hf : 1 ≤ fr) (hlo : (st.map fun v => v.category).sum + 13 ≤ lo) (ha : zR a) (hb : zR b) (kk : ∀ z, zR z → (z = a ∨ z = b) → z ≤ a → z ≤ b → G Γ x nL Q M n lv (vI z :: st)) : G Γ x nL Q M pc lv (vI b :: vI a :: st) := by
  subst hn; intro H locs ls hH hS hl
  have hR := hx.2.2.2.2.2.2.2.2.2.2
  have hw := hx.2.2.2.2.1
  refine va_mmin hx.1 hx.2.1 (hx.2.2.1.trans hl.1.symm) hx.2.2.2.1 (hw _ w1) (hw _ w2) (hw _ w3) (hw _ w4) (by rw [hR]; exact hf) (by rw [hR]; exact hlo) (by rw [hR]; exact Nat.le_refl _) (by rw [hR]; exact Nat.le_refl _) d ?_
  by_cases h : Int32.ofInt b < Int32.ofInt a
  · rw [if_pos h]
    rw [lI hb ha] at h
    exact kk b hb (Or.inr rfl) (by omega) (by omega) H locs ls hH hS hl
  · rw [if_neg h]
    rw [lI hb ha] at h
    exact kk a ha (Or.inl rfl) (by omega) (by omega) H locs ls hH hS hl
theorem g_copy (hx : Ok Γ x cc nL own fr lo) {c0 c1 n0 n1 : Nat} {sp dp k : Int} (w1 : Cond.methodLink own index arraycopyName ∈ wsB) (w2 : Cond.native arraycopyName ∈ wsB) (w3 : Cond.static arraycopyName ∈ wsB) (w4 : Cond.initialized "java/lang/System" ∈ wsB) (s0 : AK c0 0 n0) (s1 : AK c1 0 n1) (d : decode cc pc = .ok (.invokestatic index, 3)) (hn : pc + 3 = n) (hf : 1 ≤ fr) (hlo : (st.map fun v => v.category).sum + (nativeFrameWords "java/lang/System" "arraycopy" 5 + 11) ≤ lo)
    (h1 : 0 ≤ sp) (h2 : 0 ≤ dp) (h3 : 0 ≤ k) (h4 : sp + k ≤ n0) (h5 : dp + k ≤ n1) (h6 : sp ≤ 2147483647) (h7 : dp ≤ 2147483647) (h8 : k ≤ 2147483647) (hr : ∀ j : Nat, zlo c1 j ≤ (if dp.toNat ≤ j ∧ j < dp.toNat + k.toNat then M c0 (sp.toNat + (j - dp.toNat)) else M c1 j) ∧ (if dp.toNat ≤ j ∧ j < dp.toNat + k.toNat then M c0 (sp.toNat + (j - dp.toNat)) else M c1 j) ≤ zhi c1 j)
    (kk : ∀ M' : zM, (∀ j : Nat, M' c1 j = if dp.toNat ≤ j ∧ j < dp.toNat + k.toNat then M c0 (sp.toNat + (j - dp.toNat)) else M c1 j) → (∀ a' b', a' ≠ c1 → M' a' b' = M a' b') → G Γ x nL Q M' n lv st) : G Γ x nL Q M pc lv (vI k :: vI dp :: aR Γ c1 :: vI sp :: aR Γ c0 :: st) := by
  subst hn; intro H locs ls hH hS hl
  have hR := hx.2.2.2.2.2.2.2.2.2.2
  have hw := hx.2.2.2.2.1
  obtain ⟨a1, a2, rfl⟩ := s0
  obtain ⟨b1, b2, rfl⟩ := s1
  obtain ⟨hI, L, hP⟩ := hH
  have ng : ∀ z : Int, 0 ≤ z → z ≤ 2147483647 → ¬ Int32.ofInt z < 0 := fun z q1 q2 => by rw [z0, lI ⟨by omega, q2⟩ ⟨by omega, by omega⟩]; omega
  refine va_copyi (ty := .int) hx.1 hx.2.1 (hx.2.2.1.trans hl.1.symm) hx.2.2.2.1 (hw _ w1) (hw _ w2) (hw _ w3) (hw _ w4) hx.2.2.2.2.2.1 hP (wD hx.2.2.2.2.2.2.2.2.1) hS c0 c1 0 0 (by rw [wW_at a1, ent_arr a2 (Or.inl rfl)]) (by rw [wW_at b1, ent_arr b2 (Or.inl rfl)]) rfl rfl rfl (ng _ h1 h6) (ng _ h2 h7) (ng _ h3 h8) (by rw [cN h1 h6, cN h3 h8]; omega) (by rw [cN h2 h7, cN h3 h8]; omega) (fun _ _ => rfl) (by rw [hR]; exact hf) (by rw [hR]; exact hlo) d (fun H1 locs1 hP1 _ hS1 => ?_)
  rw [cN h1 h6, cN h2 h7, cN h3 h8] at hP1
  let M' : zM := fun a j => if a = c1 then (if dp.toNat ≤ j ∧ j < dp.toNat + k.toNat then M c0 (sp.toNat + (j - dp.toNat)) else M c1 j) else M a j
  have m1 : ∀ j : Nat, M' c1 j = if dp.toNat ≤ j ∧ j < dp.toNat + k.toNat then M c0 (sp.toNat + (j - dp.toNat)) else M c1 j := fun j => if_pos rfl
  have m2 : ∀ a' b', a' ≠ c1 → M' a' b' = M a' b' := fun a' b' h => if_neg h
  have e : (wW (gk Γ) (ga Γ) M L).set c1 (ga Γ c1, .inl (gk Γ 0, zln c1, .inl (va_cpy (fun j => Int32.ofInt (M c0 j)) (fun j => Int32.ofInt (M c1 j)) sp.toNat dp.toNat k.toNat))) = wW (gk Γ) (ga Γ) M' L := by
    refine wW_set b1 ?_ m2 (fun _ _ _ => rfl)
    rw [ent_arr b2 (Or.inl rfl)]
    congr 4
    funext j
    unfold va_cpy
    rw [m1 j]
    by_cases hj : dp.toNat ≤ j ∧ j < dp.toNat + k.toNat
    · rw [if_pos hj, if_pos hj]
    · rw [if_neg hj, if_neg hj]
  rw [e] at hP1
  refine kk M' m1 m2 H1 locs1 ls ⟨fun a j => ?_, L, hP1⟩ hS1 hl
  by_cases ha : a = c1
  · subst ha; rw [m1 j]; exact hr j
  · rw [m2 a j ha]; exact hI a j
end GM
