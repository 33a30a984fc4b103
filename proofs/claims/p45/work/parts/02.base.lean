/-! MY BASE: one list of words for every method; worlds with fixed array classes; calls in one row. -/
/-- all words of the tables that go through calls -/
def wsB : List Cond := lw_tbl.filter goodWord
theorem wB_in : ∀ w ∈ wsB, w ∈ lw_tbl := fun _ h => (List.mem_filter.mp h).1
theorem wdT {w : Cond} (i : Nat) (h : tables_1[i]? = some w) (hg : goodWord w = true) : w ∈ wsB := List.mem_filter.mpr ⟨List.mem_append_right _ (List.mem_of_getElem? h), hg⟩
theorem wdP {w : Cond} (i : Nat) (h : (k2_sels lw_privs)[i]? = some w) (hg : goodWord w = true) : w ∈ wsB := List.mem_filter.mpr ⟨List.mem_append_left _ (List.mem_of_getElem? h), hg⟩
theorem in_T {ws : List Cond} (ps : List Nat) (hp : ws = ps.filterMap (fun i => tables_1[i]?)) (hg : ws.all goodWord = true) : ∀ w ∈ ws, w ∈ wsB := by
  intro w hw
  have h1 := List.all_eq_true.mp hg w hw
  rw [hp] at hw
  obtain ⟨i, -, hi⟩ := List.mem_filterMap.mp hw
  exact wdT i hi h1
/-- the words of a method: its code, and all of these -/
abbrev wB (y : MethodName) (b : ByteArray) (n : Nat) (r : Option FieldType) : List Cond := .code y b n r :: wsB
theorem gB {ws : List Cond} (h : ∀ w ∈ ws, w ∈ wsB) : GoodIn wsB ws := fun w hw => ⟨h w hw, good_of_word (List.mem_filter.mp (h w hw)).2⟩
theorem gM {y : MethodName} {b : ByteArray} {n : Nat} {r : Option FieldType} (h : Cond.code y b n r ∈ wsB) : GoodIn wsB (wB y b n r) :=
  gB (fun w hw => (List.mem_cons.mp hw).elim (fun e => by rw [e]; exact h) id)
theorem gV {own C : String} {idx : Nat} {y : MethodName} {b : ByteArray} {n : Nat} {r : Option FieldType} (h1 : Cond.methodLink own idx y ∈ wsB) (h2 : Cond.instanceMethod y ∈ wsB) (h3 : Cond.selects C y y ∈ wsB) (h4 : Cond.initialized C ∈ wsB) (h : Cond.code y b n r ∈ wsB) : GoodIn wsB (wsV own idx C y (wB y b n r)) := by
  refine gB (fun w hw => ?_)
  unfold wsV at hw
  simp only [List.cons_append, List.nil_append, List.mem_cons] at hw
  rcases hw with e | e | e | e | e | e
  · rw [e]; exact h1
  · rw [e]; exact h2
  · rw [e]; exact h3
  · rw [e]; exact h4
  · rw [e]; exact h
  · exact e
theorem gS {own : String} {idx : Nat} {y : MethodName} {b : ByteArray} {n : Nat} {r : Option FieldType} (h1 : Cond.methodLink own idx y ∈ wsB) (h2 : Cond.static y ∈ wsB) (h4 : Cond.initialized own ∈ wsB) (h : Cond.code y b n r ∈ wsB) : GoodIn wsB (wsS own idx y (wB y b n r)) := by
  refine gB (fun w hw => ?_)
  unfold wsS at hw
  simp only [List.cons_append, List.nil_append, List.mem_cons] at hw
  rcases hw with e | e | e | e | e
  · rw [e]; exact h1
  · rw [e]; exact h2
  · rw [e]; exact h4
  · rw [e]; exact h
  · exact e
theorem gT {own : String} {idx : Nat} {y : MethodName} {b : ByteArray} {n : Nat} {r : Option FieldType} (h1 : Cond.methodLink own idx y ∈ wsB) (h2 : Cond.static y ∈ wsB) (h4 : Cond.initialized y.cls ∈ wsB) (h : Cond.code y b n r ∈ wsB) : GoodIn wsB (va_wsS own idx y (wB y b n r)) := by
  refine gB (fun w hw => ?_)
  unfold va_wsS at hw
  simp only [List.cons_append, List.nil_append, List.mem_cons] at hw
  rcases hw with e | e | e | e | e
  · rw [e]; exact h1
  · rw [e]; exact h2
  · rw [e]; exact h4
  · rw [e]; exact h
  · exact e
/-- the classes of arrays: 0 int, 1 long, 2 boolean, 3 of Rules, 4 of Images, 5 byte -/
abbrev TY (k : Nat → ClassId) : List (ClassId × FieldType) := [(k 0, .int), (k 1, .long), (k 2, .boolean), (k 3, .object "RaftForest$Rule"), (k 4, .object "RaftForest$Image"), (k 5, .byte)]
/-- links across the nest -/
def nst : List Cond := [.methodLinkNest "RaftForest" 9 yX7_init "RaftForest", .methodLinkNest "RaftForest$RiverReader" 11 yX2_init "RaftForest", .methodLinkNest "RaftForest" 38 yX4_init "RaftForest", .methodLinkNest "RaftForest" 43 yX2_init "RaftForest", .methodLinkNest "RaftForest$World" 11 yX6_init "RaftForest", .methodLinkNest "RaftForest$World" 20 yX0_init "RaftForest", .methodLinkNest "RaftForest" 64 yX1_init "RaftForest", .methodLinkNest "RaftForest$Image" 9 yX2_init "RaftForest", .methodLinkNest "RaftForest$Image" 18 yX6_init "RaftForest", .methodLinkNest "RaftForest$Image" 25 yX0_init "RaftForest", .methodLinkNest "RaftForest$River" 55 yX9_copyRow "RaftForest", .methodLinkNest "RaftForest$State" 70 yX9_copyRow "RaftForest", .methodLinkNest "RaftForest$Books" 70 yX9_copyRow "RaftForest"]
/-- what no word carries -/
def EX (U : State) : Prop := (∀ w ∈ nst, va_Nw w U) ∧ va_AO "RaftForest$Rule" U ∧ va_AO "RaftForest$Image" U
theorem nst_isM : ∀ w ∈ nst, ∃ a i x h, w = Cond.methodLinkNest a i x h := by
  intro w hw
  simp only [nst, List.mem_cons, List.not_mem_nil, or_false] at hw
  rcases hw with e | e | e | e | e | e | e | e | e | e | e | e | e <;> exact ⟨_, _, _, _, e⟩
theorem EX.warm {s U : State} (hW : s.WarmedH U.vm) (h : EX s) : EX U := by
  refine ⟨fun w hw => ?_, h.2.1.moved hW.alike, h.2.2.moved hW.alike⟩
  obtain ⟨a, i, x, hh, e⟩ := nst_isM w hw
  subst e
  exact va_Nw.warmM hW (h.1 _ hw)
theorem EX.same {u U : State} (hv : u.vm = U.vm) (h : EX u) : EX U := by
  refine ⟨fun w hw => ?_, h.2.1.moved (by rw [hv]; exact Vm.Alike.refl _), h.2.2.moved (by rw [hv]; exact Vm.Alike.refl _)⟩
  obtain ⟨a, i, x, hh, e⟩ := nst_isM w hw
  subst e
  exact va_Nw.same rfl hv (h.1 _ hw)
/-- a String constant that is only measured: where it is, where its bytes are, how many -/
def SL (a v n : Nat) (bs : List Int32) (A : Nat → Prop) (U : State) (H : Heap) : Prop := va_O "java/lang/String" a A U H ∧ va_OF "java/lang/String" "coder" "B" (.int 0) a A U H ∧ va_OF "java/lang/String" "value" "[B" (.ref v) a A U H ∧ va_T .byte v n (fun j => .int (bs.getD j 0)) A U H
def sN : List (String × Nat × String × Nat) := [("RaftForestModel", 223, "log", 3), ("RaftForestModel", 225, "wood", 4), ("RaftForestModel", 226, "length", 6), ("RaftForestModel", 227, "rings", 5), ("RaftForestModel", 229, "bend", 4), ("RaftForestModel", 231, "village", 7), ("RaftForestModel", 233, "owner", 5), ("RaftForestModel", 235, "felled", 6), ("RaftForestModel", 237, "last", 4), ("RaftForestModel", 239, "notches", 7), ("RaftForestModel", 240, "room", 4), ("RaftForestModel", 242, "water", 5), ("RaftForestModel", 244, "day", 3), ("RaftForestModel", 324, "not", 3), ("RaftForestModel", 338, "and", 3), ("RaftForestModel", 340, "or", 2), ("RaftForestModel", 342, "river", 5), ("RaftForestModel", 344, "width", 5), ("RaftForestModel", 345, "toll", 4), ("RaftForestModel", 384, "jam", 3), ("RaftForestModel", 386, "take", 4), ("RaftForestModel", 388, "add", 3), ("RaftForestModel", 390, "elect", 5), ("RaftForestModel", 392, "mine", 4), ("RaftForestModel", 397, "if", 2), ("RaftForest$RiverReader", 34, "river village width wood log toll", 33), ("RaftForest$RuleReader", 29, "jam take add elect mine", 23), ("RaftForest$RuleReader", 50, "if", 2), ("RaftForest$RuleReader", 73, "and", 3), ("RaftForest$RuleReader", 75, "or", 2), ("RaftForest$RuleReader", 77, "not", 3), ("RaftForest$RuleReader", 96, "log wood length rings bend village owner felled last notches room water day", 75)]
/-- the bytes of the Strings -/
def sBy : List (List Int32) := [[108, 111, 103], [119, 111, 111, 100], [108, 101, 110, 103, 116, 104], [114, 105, 110, 103, 115], [98, 101, 110, 100], [118, 105, 108, 108, 97, 103, 101], [111, 119, 110, 101, 114], [102, 101, 108, 108, 101, 100], [108, 97, 115, 116], [110, 111, 116, 99, 104, 101, 115], [114, 111, 111, 109], [119, 97, 116, 101, 114], [100, 97, 121], [110, 111, 116], [97, 110, 100], [111, 114], [114, 105, 118, 101, 114], [119, 105, 100, 116, 104], [116, 111, 108, 108], [106, 97, 109], [116, 97, 107, 101], [97, 100, 100], [101, 108, 101, 99, 116], [109, 105, 110, 101], [105, 102], [114, 105, 118, 101, 114, 32, 118, 105, 108, 108, 97, 103, 101, 32, 119, 105, 100, 116, 104, 32, 119, 111, 111, 100, 32, 108, 111, 103, 32, 116, 111, 108, 108], [106, 97, 109, 32, 116, 97, 107, 101, 32, 97, 100, 100, 32, 101, 108, 101, 99, 116, 32, 109, 105, 110, 101], [105, 102], [97, 110, 100], [111, 114], [110, 111, 116], [108, 111, 103, 32, 119, 111, 111, 100, 32, 108, 101, 110, 103, 116, 104, 32, 114, 105, 110, 103, 115, 32, 98, 101, 110, 100, 32, 118, 105, 108, 108, 97, 103, 101, 32, 111, 119, 110, 101, 114, 32, 102, 101, 108, 108, 101, 100, 32, 108, 97, 115, 116, 32, 110, 111, 116, 99, 104, 101, 115, 32, 114, 111, 111, 109, 32, 119, 97, 116, 101, 114, 32, 100, 97, 121]]
/-- the Strings, and String's own switch -/
def SX (sd : Nat → Nat) (A : Nat → Prop) (U : State) (H : Heap) : Prop := (va_Z "java/lang/String" "COMPACT_STRINGS" "Z" (.int 1) A U H ∧ va_Zq "jdk/internal/util/Preconditions" "SIOOBE_FORMATTER" "Ljava/util/function/BiFunction;" A U H) ∧ ∀ (i : Nat) (r : String × Nat × String × Nat), sN[i]? = some r → vk_R r.1 r.2.1 r.2.2.1 (sd (2 * i)) U ∧ SL (sd (2 * i)) (sd (2 * i + 1)) r.2.2.2 (sBy.getD i []) A U H
theorem SL.go {a v n : Nat} {bs : List Int32} {A B : Nat → Prop} {U V : State} {H H1 : Heap} (h : SL a v n bs A U H) (hq : ∀ q : Nat, q < H.size → ¬ A q → H1[q]? = H[q]?) (hB : ∀ q, B q → A q) (hv : U.vm.Alike V.vm) : SL a v n bs B V H1 := by
  obtain ⟨h1, h2, h3, h4⟩ := h
  exact ⟨((h1.kept hq).narrow hB).moved hv, ((h2.kept hq).narrow hB).moved hv, ((h3.kept hq).narrow hB).moved hv, ((h4.kept hq).narrow hB).moved hv⟩
theorem SX.go {sd : Nat → Nat} {A B : Nat → Prop} {U V : State} {H H1 : Heap} (h : SX sd A U H) (hq : ∀ q : Nat, q < H.size → ¬ A q → H1[q]? = H[q]?) (hB : ∀ q, B q → A q) (hW : U.WarmedH V.vm) : SX sd B V H1 := by
  refine ⟨⟨((h.1.1.kept hq).narrow hB).moved hW.alike, ((h.1.2.kept hq).narrow hB).moved hW.alike⟩, fun i r hi => ?_⟩
  obtain ⟨h1, h2⟩ := h.2 i r hi
  exact ⟨h1.warm hW, h2.go hq hB hW.alike⟩
theorem SX.same {sd : Nat → Nat} {A : Nat → Prop} {U V : State} {H : Heap} (h : SX sd A U H) (hv : V.vm = U.vm) : SX sd A V H := by
  refine ⟨⟨h.1.1.moved (by rw [hv]; exact Vm.Alike.refl _), h.1.2.moved (by rw [hv]; exact Vm.Alike.refl _)⟩, fun i r hi => ?_⟩
  obtain ⟨h1, h2⟩ := h.2 i r hi
  exact ⟨h1.same hv, h2.go (fun _ _ _ => rfl) (fun _ h => h) (by rw [hv]; exact Vm.Alike.refl _)⟩
/-- a method's start -/
def PRE (D : va_G) (k : Nat → ClassId) (sd : Nat → Nat) (ws : va_W) (sz : Nat) (U : State) : Prop := U.heap.size = sz ∧ va_P D vwCl ws U.heap ∧ va_K D vwCl (TY k) U ∧ va_D (fun _ => True) ws ∧ EX U ∧ SX sd (va_A ws sz) U U.heap
/-- a method's world behind it -/
def PO (D : va_G) (A : Nat → Prop) (ws : va_W) (t : State) : Prop := va_P D vwCl ws t.heap ∧ va_D A ws
theorem PRE.blind {D : va_G} {k : Nat → ClassId} {sd : Nat → Nat} {ws : va_W} {sz : Nat} {av : List Value} : FrameBlind (va_Pc av (PRE D k sd ws sz)) := by
  intro a U g mk q
  obtain ⟨h0, h1, h2, h3, h4, h5, h6⟩ := q
  exact ⟨h0, h1, h2, va_K.moved (u := U) (U := U.calling g mk a) (Vm.Alike.refl U.vm) h3, h4, EX.same (u := U) (U := U.calling g mk a) rfl h5, SX.same (U := U) (V := U.calling g mk a) h6 rfl⟩
section XB
variable {p : Program} {l : Launch} {e : Env} {R : Room} {s : State} {m : MethodId} {args : Array Value} {below : List Frame} {meth : Method} {c : Code} {H H0 : Heap} {locs : List Loc} {cells slots : Nat} {Q : State → Prop}
variable {cc : ByteArray} {pc : Nat} {ls : Array Slot} {rest : List Value} {D : va_G} {A : Nat → Prop} {ws wc wr : va_W} {k : Nat → ClassId}
theorem x_top {x v : Int32} (h : x = v) (kk : W p l e R s m args below meth c H locs cells slots Q (F0 m pc ls (.int v :: rest))) : W p l e R s m args below meth c H locs cells slots Q (F0 m pc ls (.int x :: rest)) := by rw [h]; exact kk
theorem x_ldcwS (hx : p.tables.exec = Jvm.exec) (hb : c.code = cc) {own tx : String} {index q : Nat} (hown : s.vm.findClass own = some m.cls) (hZ : vk_R own index tx q s) (hdg : decode cc pc = .ok (.ldc_w index, 3))
    (kk : W p l e R s m args below meth c H locs cells slots Q (F0 m (pc + 3) ls (.ref q :: rest))) : W p l e R s m args below meth c H locs cells slots Q (F0 m pc ls rest) := by
  intro T hT X
  obtain ⟨t, a1, b1⟩ := kk T hT X
  refine ⟨t, ?_, b1⟩
  obtain ⟨kc, cf, i, a', hk, hcf, hcp, -, hr, hev'⟩ := Cond.stringRef_spec hown hZ.1
  cases hZ.2.symm.trans hev'
  obtain ⟨k', hk', he⟩ := X.warmed.alike.2.2 _ _ hk
  have hr' : k'.resolved[index]? = some (some (.string q)) := by
    rcases X.warmed.entry hk hk' index with h | ⟨h, -⟩
    · rw [h]; exact hr
    · rw [hr] at h; cases h
  subst hb
  jvm_step X.here [hx, hdg, ldc_w.wp_string (e := e) (s := T) (f := F0 m pc ls rest) X.here.top hk' (by rw [he]; exact hcf) hcp hr']
  exact a1
theorem x_topl {x v : Int64} (h : x = v) (kk : W p l e R s m args below meth c H locs cells slots Q (F0 m pc ls (.long v :: rest))) : W p l e R s m args below meth c H locs cells slots Q (F0 m pc ls (.long x :: rest)) := by rw [h]; exact kk
theorem x_topv {x v : Value} (h : x = v) (kk : W p l e R s m args below meth c H locs cells slots Q (F0 m pc ls (v :: rest))) : W p l e R s m args below meth c H locs cells slots Q (F0 m pc ls (x :: rest)) := by rw [h]; exact kk
variable {sd : Nat → Nat}
theorem pre_S {av : List Value} (hK : va_K D vwCl (TY k) s) (hE : EX s) (hX : SX sd A s s.heap) (hP : va_P D vwCl ws H) (hD : va_D A ws) (hS : va_S A s.heap H locs) (hA : ∀ q, s.heap.size ≤ q → A q) (is : List Nat) (hn : va_nd is = true) (hC : is.map (fun i => ws[i]?) = wc.map some) : PreS s H (va_Pc av (PRE D k sd wc H.size)) av := by
  have hF := va_free hD hS hA is hC
  refine ⟨PRE.blind, fun U hU hW => ⟨rfl, by rw [hU], ?_, va_K.moved hW.alike hK, (hD.sub is hn hC).weaken (fun _ _ _ _ => trivial), hE.warm hW, ?_⟩⟩
  · rw [hU]
    intro j q hq
    obtain ⟨i, -, hi⟩ := va_in_of is hC hq
    exact hP i q hi
  · rw [hU]
    exact hX.go hS.2.1 hF hW
theorem pre_V {As : List Value} {b q0 ci : Nat} {r : vw_C} {fs : List Value} (hK : va_K D vwCl (TY k) s) (hE : EX s) (hX : SX sd A s s.heap) (hP : va_P D vwCl ws H) (hD : va_D A ws) (hS : va_S A s.heap H locs) (hA : ∀ q, s.heap.size ≤ q → A q) (is : List Nat) (hn : va_nd is = true) (hC : is.map (fun i => ws[i]?) = wc.map some) (hc : vwCl[ci]? = some r) (he : ws[q0]? = some (b, .inr (ci, fs))) : PreV s H r.1 b (va_Pc (.ref b :: As) (PRE D k sd wc H.size)) As :=
  ⟨PRE.blind, va_recv hK hP hc he, (pre_S (av := .ref b :: As) hK hE hX hP hD hS hA is hn hC).2⟩
variable {mc ms : Nat} {st0 : List Value} {a : Array Value} {S : Type} {w1 : S → va_W}
theorem x_v {post : S → Prop} (hr : va_Run p l e R s m args below meth c H locs cells slots mc ms (F0 m pc ls st0) rest (va_Qv post (fun u t => PO D (va_A wc H.size) (w1 u) t) (va_A wc H.size) a) (va_A wc H.size))
    (hP : va_P D vwCl ws H) (hD : va_D A ws) (hS : va_S A H0 H locs) (hA : ∀ q, H0.size ≤ q → A q) (isC isR : List Nat) (hC : isC.map (fun i => ws[i]?) = wc.map some) (hR : isR.map (fun i => ws[i]?) = wr.map some) (hn : va_nd isR = true) (hdis : ∀ i ∈ isR, i ∉ isC)
    (kk : ∀ (u : S) (H1 : Heap) (locs1 : List Loc), post u → va_P D vwCl (wr ++ w1 u) H1 → va_D A (wr ++ w1 u) → va_S A H0 H1 locs1 → W p l e R s m args below meth c H1 locs1 (cells + mc) (slots + ms) Q (F0 m (pc + 3) ls rest)) : W p l e R s m args below meth c H locs cells slots Q (F0 m pc ls st0) := by
  have hF := va_free hD hS hA isC hC
  refine va_callv hr hS (fun q _ h => hF q h) hF (fun u t H1 locs1 ht _ hw hB _ hk hS1 => ?_)
  obtain ⟨hP1, hD1⟩ := hB
  rw [ht] at hP1
  obtain ⟨hP2, hD2⟩ := va_join hP hD isC isR hC hR hn hdis hk hF hP1 hD1
  exact kk u H1 locs1 hw hP2 hD2 hS1
theorem x_i {post : Int32 → S → Prop} (hr : va_Run p l e R s m args below meth c H locs cells slots mc ms (F0 m pc ls st0) rest (va_Qi post (fun u t => PO D (va_A wc H.size) (w1 u) t) (va_A wc H.size) a) (va_A wc H.size))
    (hP : va_P D vwCl ws H) (hD : va_D A ws) (hS : va_S A H0 H locs) (hA : ∀ q, H0.size ≤ q → A q) (isC isR : List Nat) (hC : isC.map (fun i => ws[i]?) = wc.map some) (hR : isR.map (fun i => ws[i]?) = wr.map some) (hn : va_nd isR = true) (hdis : ∀ i ∈ isR, i ∉ isC)
    (kk : ∀ (r : Int32) (u : S) (H1 : Heap) (locs1 : List Loc), post r u → va_P D vwCl (wr ++ w1 u) H1 → va_D A (wr ++ w1 u) → va_S A H0 H1 locs1 → W p l e R s m args below meth c H1 locs1 (cells + mc) (slots + ms) Q (F0 m (pc + 3) ls (.int r :: rest))) : W p l e R s m args below meth c H locs cells slots Q (F0 m pc ls st0) := by
  have hF := va_free hD hS hA isC hC
  refine va_calli hr hS (fun q _ h => hF q h) hF (fun r u t H1 locs1 ht _ hw hB _ hk hS1 => ?_)
  obtain ⟨hP1, hD1⟩ := hB
  rw [ht] at hP1
  obtain ⟨hP2, hD2⟩ := va_join hP hD isC isR hC hR hn hdis hk hF hP1 hD1
  exact kk r u H1 locs1 hw hP2 hD2 hS1
theorem x_r {post : S → Prop} {a0 : Nat} (hr : va_Run p l e R s m args below meth c H locs cells slots mc ms (F0 m pc ls st0) rest (va_Qr post (fun u ra t => ra = a0 ∧ PO D (va_A wc H.size) (w1 u) t) (va_A wc H.size) a) (va_A wc H.size))
    (hP : va_P D vwCl ws H) (hD : va_D A ws) (hS : va_S A H0 H locs) (hA : ∀ q, H0.size ≤ q → A q) (isC isR : List Nat) (hC : isC.map (fun i => ws[i]?) = wc.map some) (hR : isR.map (fun i => ws[i]?) = wr.map some) (hn : va_nd isR = true) (hdis : ∀ i ∈ isR, i ∉ isC)
    (kk : ∀ (u : S) (H1 : Heap) (locs1 : List Loc), post u → va_P D vwCl (wr ++ w1 u) H1 → va_D A (wr ++ w1 u) → va_S A H0 H1 locs1 → W p l e R s m args below meth c H1 locs1 (cells + mc) (slots + ms) Q (F0 m (pc + 3) ls (.ref a0 :: rest))) : W p l e R s m args below meth c H locs cells slots Q (F0 m pc ls st0) := by
  have hF := va_free hD hS hA isC hC
  refine va_callr hr hS (fun q _ h => hF q h) hF (fun u ra t H1 locs1 ht _ hw hB _ hk hS1 => ?_)
  obtain ⟨e1, hP1, hD1⟩ := hB
  subst e1
  rw [ht] at hP1
  obtain ⟨hP2, hD2⟩ := va_join hP hD isC isR hC hR hn hdis hk hF hP1 hD1
  exact kk u H1 locs1 hw hP2 hD2 hS1
/-- the callee's cells are the last ones -/
theorem va_joinL {A0 : Nat → Prop} {w1' : va_W} {H1 : Heap} (hP : va_P D vwCl (wr ++ wc) H) (hD : va_D A0 (wr ++ wc)) (hk : ∀ q : Nat, q < H.size → ¬ va_A wc H.size q → H1[q]? = H[q]?) (hF : ∀ q, va_A wc H.size q → A0 q) (hP1 : va_P D vwCl w1' H1) (hD1 : va_D (va_A wc H.size) w1') : va_P D vwCl (wr ++ w1') H1 ∧ va_D A0 (wr ++ w1') := by
  have at' : ∀ (i : Nat) (q : Nat × va_E), wr[i]? = some q → (wr ++ wc)[i]? = some q ∧ i < wr.length := by
    intro i q hq
    have hl := (List.getElem?_eq_some_iff.mp hq).1
    exact ⟨by rw [List.getElem?_append_left hl]; exact hq, hl⟩
  have apart : ∀ (i : Nat) (q : Nat × va_E), wr[i]? = some q → q.1 < H.size ∧ ¬ va_A wc H.size q.1 := by
    intro i q hq
    obtain ⟨h2, hl0⟩ := at' i q hq
    have hl := (hP i q h2).lt
    refine ⟨hl, fun h => ?_⟩
    rcases h with ⟨k2, e, h⟩ | h
    · have h4 : (wr ++ wc)[wr.length + k2]? = some (q.1, e) := by
        rw [List.getElem?_append_right (by omega), show wr.length + k2 - wr.length = k2 by omega]; exact h
      have hij := hD.1 i _ q (q.1, e) h2 h4 rfl
      omega
    · omega
  have hDr : va_D A0 wr := ⟨fun i j p q hi hj hpq => hD.1 i j p q (at' i p hi).1 (at' j q hj).1 hpq, fun i q hi => hD.2 i q (at' i q hi).1⟩
  refine ⟨va_P.app (fun i q hq => ?_) hP1, va_D.app hDr (hD1.weaken (fun _ q _ h => hF q.1 h)) (fun i j x y hx hy hxy => ?_)⟩
  · obtain ⟨g1, g2⟩ := apart i q hq
    exact (hP i q (at' i q hq).1).kept (hk q.1 g1 g2)
  · exact (apart i x hx).2 (by rw [hxy]; exact hD1.2 j y hy)
theorem va_freeL {A0 : Nat → Prop} (hD : va_D A0 (wr ++ wc)) (hS : va_S A0 H0 H locs) (hA : ∀ q, H0.size ≤ q → A0 q) : ∀ q, va_A wc H.size q → A0 q := by
  intro q h
  rcases h with ⟨i, e, h⟩ | h
  · exact hD.2 (wr.length + i) (q, e) (by rw [List.getElem?_append_right (by omega), show wr.length + i - wr.length = i by omega]; exact h)
  · exact hA q (Nat.le_trans hS.1 h)
theorem pre_SL {av : List Value} (hK : va_K D vwCl (TY k) s) (hE : EX s) (hX : SX sd A s s.heap) (hP : va_P D vwCl (wr ++ wc) H) (hD : va_D A (wr ++ wc)) (hS : va_S A s.heap H locs) (hA : ∀ q, s.heap.size ≤ q → A q) : PreS s H (va_Pc av (PRE D k sd wc H.size)) av := by
  have hF := va_freeL hD hS hA
  have at' : ∀ (i : Nat) (q : Nat × va_E), wc[i]? = some q → (wr ++ wc)[wr.length + i]? = some q := fun i q h => by
    rw [List.getElem?_append_right (by omega), show wr.length + i - wr.length = i by omega]; exact h
  refine ⟨PRE.blind, fun U hU hW => ⟨rfl, by rw [hU], ?_, va_K.moved hW.alike hK, ⟨fun i j p q hi hj hpq => ?_, fun _ _ _ => trivial⟩, hE.warm hW, ?_⟩⟩
  · rw [hU]
    exact fun i q hq => hP _ q (at' i q hq)
  · have := hD.1 _ _ p q (at' i p hi) (at' j q hj) hpq
    omega
  · rw [hU]
    exact hX.go hS.2.1 hF hW
theorem x_vL {post : S → Prop} (hr : va_Run p l e R s m args below meth c H locs cells slots mc ms (F0 m pc ls st0) rest (va_Qv post (fun u t => PO D (va_A wc H.size) (w1 u) t) (va_A wc H.size) a) (va_A wc H.size))
    (hP : va_P D vwCl (wr ++ wc) H) (hD : va_D A (wr ++ wc)) (hS : va_S A H0 H locs) (hA : ∀ q, H0.size ≤ q → A q)
    (kk : ∀ (u : S) (H1 : Heap) (locs1 : List Loc), post u → va_P D vwCl (wr ++ w1 u) H1 → va_D A (wr ++ w1 u) → va_S A H0 H1 locs1 → W p l e R s m args below meth c H1 locs1 (cells + mc) (slots + ms) Q (F0 m (pc + 3) ls rest)) : W p l e R s m args below meth c H locs cells slots Q (F0 m pc ls st0) := by
  have hF := va_freeL hD hS hA
  refine va_callv hr hS (fun q _ h => hF q h) hF (fun u t H1 locs1 ht _ hw hB _ hk hS1 => ?_)
  obtain ⟨hP1, hD1⟩ := hB
  rw [ht] at hP1
  obtain ⟨hP2, hD2⟩ := va_joinL hP hD hk hF hP1 hD1
  exact kk u H1 locs1 hw hP2 hD2 hS1
/-- arrays of fixed classes -/
theorem x_newI (hx : p.tables.exec = Jvm.exec) (hb : c.code = cc) (harr : (Cond.arrayClass .int).before args s = true) (hK : va_K D vwCl (TY k) s) (hP : va_P D vwCl ws H) (hD : va_D A ws) (hS : va_S A H0 H locs) (hA : ∀ q, H0.size ≤ q → A q)
    {n : Int32} {N' : Nat} (hn : ¬ n < 0) (hN : n.toNatClampNeg = N') (hbytes : N' * componentBytes .int ≤ 536870912) (hcells : cells + 1 ≤ R.cells) (hslots : slots + N' ≤ R.slots) (hdg : decode cc pc = .ok (.newarray .int, 2))
    (kk : ∀ (q : Nat) (H1 : Heap), va_P D vwCl (ws ++ [(q, .inl (k 0, N', .inl (fun _ => 0)))]) H1 → va_D A (ws ++ [(q, .inl (k 0, N', .inl (fun _ => 0)))]) → va_S A H0 H1 locs → W p l e R s m args below meth c H1 locs (cells + 1) (slots + N') Q (F0 m (pc + 2) ls (.ref q :: rest))) : W p l e R s m args below meth c H locs cells slots Q (F0 m pc ls (.int n :: rest)) := by
  refine va_newa (atype := .int) (ty := .int) (a0 := (N', .inl (fun _ => 0))) hx hb harr rfl hK hP hD hS hA (fun _ => rfl) hn hN hbytes hcells hslots hdg (fun q cA H1 hK1 hP1 hD1 hS1 => ?_)
  have e : cA = k 0 := Option.some.inj ((va_nm_int (hK1.2 6 (cA, .int) rfl).2).symm.trans (va_nm_int (hK.2 0 (k 0, .int) rfl).2))
  subst e
  exact kk q H1 hP1 hD1 hS1
theorem x_newJ (hx : p.tables.exec = Jvm.exec) (hb : c.code = cc) (harr : (Cond.arrayClass .long).before args s = true) (hK : va_K D vwCl (TY k) s) (hP : va_P D vwCl ws H) (hD : va_D A ws) (hS : va_S A H0 H locs) (hA : ∀ q, H0.size ≤ q → A q)
    {n : Int32} {N' : Nat} (hn : ¬ n < 0) (hN : n.toNatClampNeg = N') (hbytes : N' * componentBytes .long ≤ 536870912) (hcells : cells + 1 ≤ R.cells) (hslots : slots + N' ≤ R.slots) (hdg : decode cc pc = .ok (.newarray .long, 2))
    (kk : ∀ (q : Nat) (H1 : Heap), va_P D vwCl (ws ++ [(q, .inl (k 1, N', .inr (.inl (fun _ => 0))))]) H1 → va_D A (ws ++ [(q, .inl (k 1, N', .inr (.inl (fun _ => 0))))]) → va_S A H0 H1 locs → W p l e R s m args below meth c H1 locs (cells + 1) (slots + N') Q (F0 m (pc + 2) ls (.ref q :: rest))) : W p l e R s m args below meth c H locs cells slots Q (F0 m pc ls (.int n :: rest)) := by
  refine va_newa (atype := .long) (ty := .long) (a0 := (N', .inr (.inl (fun _ => 0)))) hx hb harr rfl hK hP hD hS hA (fun _ => rfl) hn hN hbytes hcells hslots hdg (fun q cA H1 hK1 hP1 hD1 hS1 => ?_)
  have e : cA = k 1 := Option.some.inj ((va_nm_long (hK1.2 6 (cA, .long) rfl).2).symm.trans (va_nm_long (hK.2 1 (k 1, .long) rfl).2))
  subst e
  exact kk q H1 hP1 hD1 hS1
theorem x_newZ (hx : p.tables.exec = Jvm.exec) (hb : c.code = cc) (harr : (Cond.arrayClass .boolean).before args s = true) (hK : va_K D vwCl (TY k) s) (hP : va_P D vwCl ws H) (hD : va_D A ws) (hS : va_S A H0 H locs) (hA : ∀ q, H0.size ≤ q → A q)
    {n : Int32} {N' : Nat} (hn : ¬ n < 0) (hN : n.toNatClampNeg = N') (hbytes : N' * componentBytes .boolean ≤ 536870912) (hcells : cells + 1 ≤ R.cells) (hslots : slots + N' ≤ R.slots) (hdg : decode cc pc = .ok (.newarray .boolean, 2))
    (kk : ∀ (q : Nat) (H1 : Heap), va_P D vwCl (ws ++ [(q, .inl (k 2, N', .inl (fun _ => 0)))]) H1 → va_D A (ws ++ [(q, .inl (k 2, N', .inl (fun _ => 0)))]) → va_S A H0 H1 locs → W p l e R s m args below meth c H1 locs (cells + 1) (slots + N') Q (F0 m (pc + 2) ls (.ref q :: rest))) : W p l e R s m args below meth c H locs cells slots Q (F0 m pc ls (.int n :: rest)) := by
  refine va_newa (atype := .boolean) (ty := .boolean) (a0 := (N', .inl (fun _ => 0))) hx hb harr rfl hK hP hD hS hA (fun _ => rfl) hn hN hbytes hcells hslots hdg (fun q cA H1 hK1 hP1 hD1 hS1 => ?_)
  have e : cA = k 2 := Option.some.inj ((va_nm_boolean (hK1.2 6 (cA, .boolean) rfl).2).symm.trans (va_nm_boolean (hK.2 2 (k 2, .boolean) rfl).2))
  subst e
  exact kk q H1 hP1 hD1 hS1
theorem x_newB (hx : p.tables.exec = Jvm.exec) (hb : c.code = cc) (harr : (Cond.arrayClass .byte).before args s = true) (hK : va_K D vwCl (TY k) s) (hP : va_P D vwCl ws H) (hD : va_D A ws) (hS : va_S A H0 H locs) (hA : ∀ q, H0.size ≤ q → A q)
    {n : Int32} {N' : Nat} (hn : ¬ n < 0) (hN : n.toNatClampNeg = N') (hbytes : N' * componentBytes .byte ≤ 536870912) (hcells : cells + 1 ≤ R.cells) (hslots : slots + N' ≤ R.slots) (hdg : decode cc pc = .ok (.newarray .byte, 2))
    (kk : ∀ (q : Nat) (H1 : Heap), va_P D vwCl (ws ++ [(q, .inl (k 5, N', .inl (fun _ => 0)))]) H1 → va_D A (ws ++ [(q, .inl (k 5, N', .inl (fun _ => 0)))]) → va_S A H0 H1 locs → W p l e R s m args below meth c H1 locs (cells + 1) (slots + N') Q (F0 m (pc + 2) ls (.ref q :: rest))) : W p l e R s m args below meth c H locs cells slots Q (F0 m pc ls (.int n :: rest)) := by
  refine va_newa (atype := .byte) (ty := .byte) (a0 := (N', .inl (fun _ => 0))) hx hb harr rfl hK hP hD hS hA (fun _ => rfl) hn hN hbytes hcells hslots hdg (fun q cA H1 hK1 hP1 hD1 hS1 => ?_)
  have e : cA = k 5 := Option.some.inj ((va_nm_byte (hK1.2 6 (cA, .byte) rfl).2).symm.trans (va_nm_byte (hK.2 5 (k 5, .byte) rfl).2))
  subst e
  exact kk q H1 hP1 hD1 hS1
theorem va_nm_obj {s : State} {cA : ClassId} {C : String} (h : va_RA s cA (.object C)) : s.vm.findClass ("[" ++ (FieldType.object C).toString) = some cA := by
  obtain ⟨_, _, _, _, _, h4⟩ := h
  exact h4
theorem x_newQ3 (hx : p.tables.exec = Jvm.exec) (hb : c.code = cc) {own : String} {index : Nat} (hown : s.vm.findClass own = some m.cls) (hcl : (Cond.classLink own index "RaftForest$Rule").before args s = true) (hE : EX s) (hK : va_K D vwCl (TY k) s) (hP : va_P D vwCl ws H) (hD : va_D A ws) (hS : va_S A H0 H locs) (hA : ∀ q, H0.size ≤ q → A q)
    {n : Int32} {N' : Nat} (hn : ¬ n < 0) (hN : n.toNatClampNeg = N') (hbytes : N' * 4 ≤ 536870912) (hcells : cells + 1 ≤ R.cells) (hslots : slots + N' ≤ R.slots) (hdg : decode cc pc = .ok (.anewarray index, 3))
    (kk : ∀ (q : Nat) (H1 : Heap), va_P D vwCl (ws ++ [(q, .inl (k 3, N', .inr (.inr (.inr (.inr (fun _ => none))))))]) H1 → va_D A (ws ++ [(q, .inl (k 3, N', .inr (.inr (.inr (.inr (fun _ => none))))))]) → va_S A H0 H1 locs → W p l e R s m args below meth c H1 locs (cells + 1) (slots + N') Q (F0 m (pc + 3) ls (.ref q :: rest))) : W p l e R s m args below meth c H locs cells slots Q (F0 m pc ls (.int n :: rest)) := by
  refine va_newq hx hb hown hcl hE.2.1 hK hP hD hS hA hn hN hbytes hcells hslots hdg (fun q cA H1 hK1 hP1 hD1 hS1 => ?_)
  have e : cA = k 3 := Option.some.inj ((va_nm_obj (hK1.2 6 (cA, .object "RaftForest$Rule") rfl).2).symm.trans (va_nm_obj (hK.2 3 (k 3, .object "RaftForest$Rule") rfl).2))
  subst e
  exact kk q H1 hP1 hD1 hS1
theorem x_newQ4 (hx : p.tables.exec = Jvm.exec) (hb : c.code = cc) {own : String} {index : Nat} (hown : s.vm.findClass own = some m.cls) (hcl : (Cond.classLink own index "RaftForest$Image").before args s = true) (hE : EX s) (hK : va_K D vwCl (TY k) s) (hP : va_P D vwCl ws H) (hD : va_D A ws) (hS : va_S A H0 H locs) (hA : ∀ q, H0.size ≤ q → A q)
    {n : Int32} {N' : Nat} (hn : ¬ n < 0) (hN : n.toNatClampNeg = N') (hbytes : N' * 4 ≤ 536870912) (hcells : cells + 1 ≤ R.cells) (hslots : slots + N' ≤ R.slots) (hdg : decode cc pc = .ok (.anewarray index, 3))
    (kk : ∀ (q : Nat) (H1 : Heap), va_P D vwCl (ws ++ [(q, .inl (k 4, N', .inr (.inr (.inr (.inr (fun _ => none))))))]) H1 → va_D A (ws ++ [(q, .inl (k 4, N', .inr (.inr (.inr (.inr (fun _ => none))))))]) → va_S A H0 H1 locs → W p l e R s m args below meth c H1 locs (cells + 1) (slots + N') Q (F0 m (pc + 3) ls (.ref q :: rest))) : W p l e R s m args below meth c H locs cells slots Q (F0 m pc ls (.int n :: rest)) := by
  refine va_newq hx hb hown hcl hE.2.2 hK hP hD hS hA hn hN hbytes hcells hslots hdg (fun q cA H1 hK1 hP1 hD1 hS1 => ?_)
  have e : cA = k 4 := Option.some.inj ((va_nm_obj (hK1.2 6 (cA, .object "RaftForest$Image") rfl).2).symm.trans (va_nm_obj (hK.2 4 (k 4, .object "RaftForest$Image") rfl).2))
  subst e
  exact kk q H1 hP1 hD1 hS1
end XB
theorem x_in1 {v : Int64} (h : ¬ lg_cmp v 0 < 0) : 0 < lg_cmp v (-1) := by
  rw [lg_cmp_lt] at h
  rw [lg_cmp_gt]
  have h1 := Int64.not_lt.mp h
  exact Int64.lt_of_lt_of_le (by decide) h1
theorem x_in2 {v : Int64} (h : ¬ lg_cmp v 0 < 0) (hq : v < 0 ∨ 3 < v) : 0 < lg_cmp v 3 := by
  rw [lg_cmp_lt] at h
  rw [lg_cmp_gt]
  exact hq.resolve_left h
theorem x_in3 {p : Int32} (h : p < 0 ∨ 4 ≤ p) : p.toInt64 < 0 ∨ 3 < p.toInt64 := by
  rcases h with h | h
  · left
    rw [Int64.lt_iff_toInt_lt, Int32.toInt_toInt64]
    exact Int32.lt_iff_toInt_lt.mp h
  · right
    rw [Int64.lt_iff_toInt_lt, Int32.toInt_toInt64]
    have h2 := Int32.le_iff_toInt_le.mp h
    have e4 : (4 : Int32).toInt = 4 := by decide
    have e3 : (3 : Int64).toInt = 3 := by decide
    omega
theorem x_four (p : Int32) : p = 0 ∨ p = 1 ∨ p = 2 ∨ p = 3 ∨ (p < 0 ∨ 4 ≤ p) := by
  by_cases h1 : p < 0
  · exact Or.inr (Or.inr (Or.inr (Or.inr (Or.inl h1))))
  by_cases h2 : 4 ≤ p
  · exact Or.inr (Or.inr (Or.inr (Or.inr (Or.inr h2))))
  have e0 : (0 : Int32).toInt = 0 := by decide
  have e1 : (1 : Int32).toInt = 1 := by decide
  have e2 : (2 : Int32).toInt = 2 := by decide
  have e3 : (3 : Int32).toInt = 3 := by decide
  have e4 : (4 : Int32).toInt = 4 := by decide
  have g1 : ¬ p.toInt < 0 := fun q => h1 (Int32.lt_iff_toInt_lt.mpr (by rw [e0]; exact q))
  have g2 : ¬ 4 ≤ p.toInt := fun q => h2 (Int32.le_iff_toInt_le.mpr (by rw [e4]; exact q))
  have g : p.toInt = 0 ∨ p.toInt = 1 ∨ p.toInt = 2 ∨ p.toInt = 3 := by omega
  rcases g with g | g | g | g
  · exact Or.inl (Int32.toInt_inj.mp (by rw [g, e0]))
  · exact Or.inr (Or.inl (Int32.toInt_inj.mp (by rw [g, e1])))
  · exact Or.inr (Or.inr (Or.inl (Int32.toInt_inj.mp (by rw [g, e2]))))
  · exact Or.inr (Or.inr (Or.inr (Or.inl (Int32.toInt_inj.mp (by rw [g, e3])))))
