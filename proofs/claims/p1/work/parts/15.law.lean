/-! THE CLAIM OUT OF ONE WALK OF THE LAW'S BODY. Your part is whole_start (and what it stands on); all else here is the same for every law, but numbers. -/
def R_law : String := "RaftForestLaw"
def lw_P (b : Addr) (xs : List Int32) (args : Array Value) (s : State) : Prop := args = #[.ref b] ∧ s.IntsAt b xs ∧ xs.length ≤ 6 ∧ (Jvm.Cond.and given_1 narrow_1).before args s = true
def lw_Q (_ : Array Value) (s : State) (o : Outcome) (t : State) : Prop := o = .returned (some (.int 1)) ∧ Framed s o t [] 600000 7302250
def lw_Z (below : List Frame) (a : Array Value) (s : State) : State → Prop := fun t => ∃ o, t.status = .running ∧ Ended t below o ∧ lw_Q a s o t
/-- the law's own end, with 1 on the stack, nothing written that was there before, its room as the claim has it -/
theorem lw_ret {p : Program} {l : Launch} {e : Env} {s : State} {m : MethodId} {below : List Frame} {meth : Method} {c : Code} {b : Nat} (hx : p.tables.exec = Jvm.exec) (hb : c.code = code) (hr : meth.sig.returnType = ret) (hlocks : meth.locks = false) {pc : Nat} {H : Heap} {ls : Array Slot} (hdg : decode code pc = .ok (.ireturn, 1)) : W p l e room_1 s m #[Value.ref b] below meth c H [] 600000 7302250 (lw_Z below #[Value.ref b] s) (F0 m pc ls [.int 1]) := by
  intro T hT X
  obtain ⟨fs, hret, hrun, hended, hW, hframe⟩ := X.leave (v := some (.int 1)) (hlocks := hlocks) (fun h => by rw [hr] at h; cases h)
  have hmeth' : T.vm.method? m = some meth := X.method'
  refine ⟨T.setFrames fs, ?_, .returned (some (.int 1)), hrun, hended, rfl, ⟨_, rfl⟩, hW, hframe⟩
  jvm_step X.here [X.here.top, hx, hb, hdg, hmeth', hr, ret, narrow_b1]
  (try refine ⟨rfl, ?_⟩); (try refine ⟨rfl, ?_⟩)
  first | (intro acts; rw [hret _ acts rfl rfl rfl]) | rw [hret _ _ rfl rfl rfl]
  exact Steps.refl _
/-- what holds at the law's entry: the machine, the code, the tables' words (any of lw_tbl by 'hts w (by decide +kernel)'), the script of L ints xs at the cell b, what the Statement gives of the start (any of its parts by flat_of_before) -/
def lw_At (p : Program) (s : State) (m : MethodId) (meth : Method) (c : Code) (b L : Nat) (xs : Nat → Int32) : Prop :=
  p.tables.exec = Jvm.exec ∧ c.code = code ∧ meth.sig.returnType = ret ∧ c.maxLocals = 4 ∧ s.vm.findClass R_law = some m.cls ∧ (∀ w ∈ lw_tbl, w.before #[Value.ref b] s = true) ∧ va_X b L xs s s.heap ∧ b < s.heap.size ∧ meth.locks = false ∧ (Jvm.Cond.and given_1 narrow_1).before #[Value.ref b] s = true
def LC (p : Program) (s : State) (m : MethodId) (meth : Method) (c : Code) (D : va_G) (k : Nat → ClassId) (sd : Nat → Nat) (A : Nat → Prop) (b : Nat) (xs : Nat → Int32) : Prop := p.tables.exec = Jvm.exec ∧ c.code = code ∧ meth.sig.returnType = ret ∧ c.maxLocals = 4 ∧ s.vm.findClass RL = some m.cls ∧ (∀ w ∈ wsB, w.before #[Value.ref b] s = true) ∧ va_X b 6 xs s s.heap ∧ b < s.heap.size ∧ meth.locks = false ∧ va_K D vwCl (TY k) s ∧ EX s ∧ SX sd A s s.heap ∧ (∀ q : Nat, s.heap.size ≤ q → A q) ∧ (∀ q : Nat, A q → s.heap.size ≤ q) ∧ ¬ A b
set_option maxHeartbeats 4000000 in
set_option maxRecDepth 100000 in
theorem law_end {p : Program} {l : Launch} {e : Env} {s : State} {m : MethodId} {below : List Frame} {meth : Method} {c : Code} {D : va_G} {k : Nat → ClassId} {sd : Nat → Nat} {A : Nat → Prop} {b : Nat} {xs : Nat → Int32} {x y : Nat} {H : Heap} {locs : List Loc} {ls : Array Slot} (C : LC p s m meth c D k sd A b xs) (hS : va_S A s.heap H locs) (hl : lv_has ls 4 [(0, .ref b), (1, .ref x), (2, .ref y), (3, .int 0)]) : W p l e room_1 s m #[Value.ref b] below meth c H locs 287 18933 (lw_Z below #[Value.ref b] s) (F0 m 1566 ls []) := by
  obtain ⟨hx, hb, hr, hml, hown, hw, hXs, hbl, hlocks, hK, hE, hX, hA, hAr, hbA⟩ := C
  refine lv_iinc (v := 6) (lv' := [(3, .int 6), (0, .ref b), (1, .ref x), (2, .ref y)]) hx hb dL_law_1566 hl (k := 3) rfl (by decide) (by decide) rfl (fun ls hl => ?_)
  refine lv_goto (tgt := 18) hx hb dL_law_1569 (by decide) ?_
  refine lv_iload_n hx hb dL_law_18 rfl (lv_at hl 0 rfl) ?_
  refine lv_aload_n hx hb dL_law_19 rfl (lv_at hl 1 rfl) ?_
  refine va_slen hx hb hXs hbl hbA hS dL_law_20 ?_
  refine x_top (v := 6) (by decide) ?_
  refine lv_bipush (v := 6) hx hb dL_law_21 (by decide) ?_
  refine lv_isub hx hb dL_law_23 ?_
  refine x_top (v := 0) (by decide) ?_
  refine lv_icmp_gt (tgt := 1572) hx hb dL_law_24 (by decide) (fun _ => ?_) (fun h => absurd (by decide) h)
  refine lv_iconst (v := 1) hx hb dL_law_1572 (by decide) ?_
  refine va_forget (fun q hq => hAr _ (hS.2.2 q hq)) ?_
  refine W.widen (k := 600000) (n := 7302250) (Nat.le_of_ble_eq_true rfl) (Nat.le_of_ble_eq_true rfl) ?_
  exact lw_ret hx hb hr hlocks dL_law_1573
theorem va_P.sl {D : va_G} {cl : List vw_C} {ws ws' : va_W} {H : Heap} (h : va_P D cl ws H) (hs : List.Sublist ws' ws) : va_P D cl ws' H := fun i q hq => by
  obtain ⟨j, hj⟩ := List.getElem?_of_mem (hs.subset (List.mem_of_getElem? hq))
  exact h j q hj
theorem va_D.sl {A : Nat → Prop} {ws ws' : va_W} (h : va_D A ws) (hs : List.Sublist ws' ws) : va_D A ws' := by
  have hp : List.Pairwise (fun p q : Nat × va_E => p.1 ≠ q.1) ws := List.pairwise_iff_getElem.mpr (fun i j hi hj hij e => absurd (h.1 i j _ _ (List.getElem?_eq_getElem hi) (List.getElem?_eq_getElem hj) e) (Nat.ne_of_lt hij))
  have hp' := List.pairwise_iff_getElem.mp (hp.sublist hs)
  refine ⟨fun i j p q hi hj e => ?_, fun i q hi => ?_⟩
  · obtain ⟨hi', ei⟩ := List.getElem?_eq_some_iff.mp hi
    obtain ⟨hj', ej⟩ := List.getElem?_eq_some_iff.mp hj
    rcases Nat.lt_trichotomy i j with h' | h' | h'
    · exact absurd (by rw [ei, ej]; exact e) (hp' i j hi' hj' h')
    · exact h'
    · exact absurd (by rw [ei, ej]; exact e.symm) (hp' j i hj' hi' h')
  · obtain ⟨j, hj⟩ := List.getElem?_of_mem (hs.subset (List.mem_of_getElem? hi))
    exact h.2 j q hj
def SW0 (k : Nat → ClassId) (x : Nat) (u : Nat → Nat → Nat) (y : Nat) (v : Nat → Nat) : va_W := [(x, .inr (9, [.ref (u 0 0), .ref (u 0 1), .ref (u 0 2), .ref (u 0 3), .int 0, .ref (u 0 4), .ref (u 0 17), .ref (u 0 6), .ref (u 0 18), .ref (u 0 19), .ref (u 0 20), .ref (u 0 21)])), (u 0 0, .inr (7, [.ref (u 1 0), .int 0, .int 0, .int 0, .int 0, .int 0])), (u 1 0, .inl (k 0, 400, .inl (fun _ => 0))), (y, .inr (10, [.int 0, .ref (v 1), .ref (v 2), .ref (v 3), .ref (v 4), .ref (v 5), .ref (v 6), .ref (v 7), .ref (v 8), .ref (v 9), .ref (v 10), .ref (v 11), .ref (v 12), .ref (v 13), .ref (v 14), .ref (v 15), .ref (v 16), .ref (v 17), .ref (v 18), .ref (v 19), .ref (v 20), .ref (v 21), .ref (v 22), .ref (v 23), .ref (v 24), .ref (v 25), .ref (v 26), .ref (v 27), .ref (v 28), .ref (v 29), .ref (v 30), .ref (v 31), .ref (v 32), .ref (v 33), .ref (v 34), .ref (v 35), .ref (v 36), .int 0, .int 0, .int 0, .int 0, .int 0, .int 0, .int 0, .int 0, .int 0, .int 13, .int 0, .ref (v 48), .ref (v 49), .ref (v 50), .ref (v 51), .ref (v 52), .ref (v 53), .ref (v 54), .ref (v 55), .ref (v 56), .ref (v 57), .ref (v 58), .ref (v 59), .ref (v 60), .int 0, .int 0, .int 0, .int 0, .int 0, .int 0, .int 0, .ref (v 68), .ref (v 69), .ref (v 70), .ref (v 71), .ref (v 72), .int 0, .int 0, .ref (v 75), .ref (v 76), .ref (v 77), .int 0, .int 0])), (v 48, .inl (k 5, 400, .inl (fun _ => 0)))]
set_option maxRecDepth 100000 in
theorem sub_0 (k : Nat → ClassId) (x : Nat) (u : Nat → Nat → Nat) (y : Nat) (v : Nat → Nat) : List.Sublist (SW0 k x u y v) (G9n k x u ++ G10 k y v) := by
  have h : List.Sublist ((([(x, .inr (9, [.ref (u 0 0), .ref (u 0 1), .ref (u 0 2), .ref (u 0 3), .int 0, .ref (u 0 4), .ref (u 0 17), .ref (u 0 6), .ref (u 0 18), .ref (u 0 19), .ref (u 0 20), .ref (u 0 21)]))] ++ (((((((((((((((((((([] : va_W) ++ [(u 0 0, .inr (7, [.ref (u 1 0), .int 0, .int 0, .int 0, .int 0, .int 0])), (u 1 0, .inl (k 0, 400, .inl (fun _ => 0)))]) ++ ([] : va_W)) ++ ([] : va_W)) ++ ([] : va_W)) ++ ([] : va_W)) ++ ([] : va_W)) ++ ([] : va_W)) ++ ([] : va_W)) ++ ([] : va_W)) ++ ([] : va_W)) ++ ([] : va_W)) ++ ([] : va_W)) ++ ([] : va_W)) ++ ([] : va_W)) ++ ([] : va_W)) ++ ([] : va_W)) ++ ([] : va_W)) ++ ([] : va_W)) ++ ([] : va_W))) ++ [(y, .inr (10, [.int 0, .ref (v 1), .ref (v 2), .ref (v 3), .ref (v 4), .ref (v 5), .ref (v 6), .ref (v 7), .ref (v 8), .ref (v 9), .ref (v 10), .ref (v 11), .ref (v 12), .ref (v 13), .ref (v 14), .ref (v 15), .ref (v 16), .ref (v 17), .ref (v 18), .ref (v 19), .ref (v 20), .ref (v 21), .ref (v 22), .ref (v 23), .ref (v 24), .ref (v 25), .ref (v 26), .ref (v 27), .ref (v 28), .ref (v 29), .ref (v 30), .ref (v 31), .ref (v 32), .ref (v 33), .ref (v 34), .ref (v 35), .ref (v 36), .int 0, .int 0, .int 0, .int 0, .int 0, .int 0, .int 0, .int 0, .int 0, .int 13, .int 0, .ref (v 48), .ref (v 49), .ref (v 50), .ref (v 51), .ref (v 52), .ref (v 53), .ref (v 54), .ref (v 55), .ref (v 56), .ref (v 57), .ref (v 58), .ref (v 59), .ref (v 60), .int 0, .int 0, .int 0, .int 0, .int 0, .int 0, .int 0, .ref (v 68), .ref (v 69), .ref (v 70), .ref (v 71), .ref (v 72), .int 0, .int 0, .ref (v 75), .ref (v 76), .ref (v 77), .int 0, .int 0])), (v 48, .inl (k 5, 400, .inl (fun _ => 0)))]) : va_W) (G9n k x u ++ G10 k y v) := List.Sublist.append (List.Sublist.append (List.Sublist.cons₂ _ (List.nil_sublist _)) (List.Sublist.append (List.Sublist.append (List.Sublist.append (List.Sublist.append (List.Sublist.append (List.Sublist.append (List.Sublist.append (List.Sublist.append (List.Sublist.append (List.Sublist.append (List.Sublist.append (List.Sublist.append (List.Sublist.append (List.Sublist.append (List.Sublist.append (List.Sublist.append (List.Sublist.append (List.Sublist.append (List.Sublist.append (List.Sublist.refl ([] : va_W)) (List.Sublist.refl _)) (List.nil_sublist _)) (List.nil_sublist _)) (List.nil_sublist _)) (List.nil_sublist _)) (List.nil_sublist _)) (List.nil_sublist _)) (List.nil_sublist _)) (List.nil_sublist _)) (List.nil_sublist _)) (List.nil_sublist _)) (List.nil_sublist _)) (List.nil_sublist _)) (List.nil_sublist _)) (List.nil_sublist _)) (List.nil_sublist _)) (List.nil_sublist _)) (List.nil_sublist _)) (List.nil_sublist _))) (List.Sublist.cons₂ _ (List.Sublist.cons _ (List.Sublist.cons _ (List.Sublist.cons _ (List.Sublist.cons _ (List.Sublist.cons _ (List.Sublist.cons _ (List.Sublist.cons _ (List.Sublist.cons _ (List.Sublist.cons _ (List.Sublist.cons _ (List.Sublist.cons _ (List.Sublist.cons _ (List.Sublist.cons _ (List.Sublist.cons _ (List.Sublist.cons _ (List.Sublist.cons _ (List.Sublist.cons _ (List.Sublist.cons _ (List.Sublist.cons _ (List.Sublist.cons _ (List.Sublist.cons _ (List.Sublist.cons _ (List.Sublist.cons _ (List.Sublist.cons _ (List.Sublist.cons _ (List.Sublist.cons _ (List.Sublist.cons _ (List.Sublist.cons _ (List.Sublist.cons _ (List.Sublist.cons _ (List.Sublist.cons _ (List.Sublist.cons _ (List.Sublist.cons _ (List.Sublist.cons _ (List.Sublist.cons _ (List.Sublist.cons _ (List.Sublist.cons₂ _ (List.nil_sublist _)))))))))))))))))))))))))))))))))))))))
  have e : SW0 k x u y v = ((([(x, .inr (9, [.ref (u 0 0), .ref (u 0 1), .ref (u 0 2), .ref (u 0 3), .int 0, .ref (u 0 4), .ref (u 0 17), .ref (u 0 6), .ref (u 0 18), .ref (u 0 19), .ref (u 0 20), .ref (u 0 21)]))] ++ (((((((((((((((((((([] : va_W) ++ [(u 0 0, .inr (7, [.ref (u 1 0), .int 0, .int 0, .int 0, .int 0, .int 0])), (u 1 0, .inl (k 0, 400, .inl (fun _ => 0)))]) ++ ([] : va_W)) ++ ([] : va_W)) ++ ([] : va_W)) ++ ([] : va_W)) ++ ([] : va_W)) ++ ([] : va_W)) ++ ([] : va_W)) ++ ([] : va_W)) ++ ([] : va_W)) ++ ([] : va_W)) ++ ([] : va_W)) ++ ([] : va_W)) ++ ([] : va_W)) ++ ([] : va_W)) ++ ([] : va_W)) ++ ([] : va_W)) ++ ([] : va_W)) ++ ([] : va_W))) ++ [(y, .inr (10, [.int 0, .ref (v 1), .ref (v 2), .ref (v 3), .ref (v 4), .ref (v 5), .ref (v 6), .ref (v 7), .ref (v 8), .ref (v 9), .ref (v 10), .ref (v 11), .ref (v 12), .ref (v 13), .ref (v 14), .ref (v 15), .ref (v 16), .ref (v 17), .ref (v 18), .ref (v 19), .ref (v 20), .ref (v 21), .ref (v 22), .ref (v 23), .ref (v 24), .ref (v 25), .ref (v 26), .ref (v 27), .ref (v 28), .ref (v 29), .ref (v 30), .ref (v 31), .ref (v 32), .ref (v 33), .ref (v 34), .ref (v 35), .ref (v 36), .int 0, .int 0, .int 0, .int 0, .int 0, .int 0, .int 0, .int 0, .int 0, .int 13, .int 0, .ref (v 48), .ref (v 49), .ref (v 50), .ref (v 51), .ref (v 52), .ref (v 53), .ref (v 54), .ref (v 55), .ref (v 56), .ref (v 57), .ref (v 58), .ref (v 59), .ref (v 60), .int 0, .int 0, .int 0, .int 0, .int 0, .int 0, .int 0, .ref (v 68), .ref (v 69), .ref (v 70), .ref (v 71), .ref (v 72), .int 0, .int 0, .ref (v 75), .ref (v 76), .ref (v 77), .int 0, .int 0])), (v 48, .inl (k 5, 400, .inl (fun _ => 0)))]) : va_W) := by simp only [SW0, List.nil_append, List.append_nil, List.cons_append]
  rw [e]
  exact h
set_option maxHeartbeats 4000000 in
set_option maxRecDepth 100000 in
/-- feed -/
theorem lawm_feed {p : Program} {l : Launch} {e : Env} {s : State} {m : MethodId} {below : List Frame} {meth : Method} {c : Code} {D : va_G} {k : Nat → ClassId} {sd : Nat → Nat} {A : Nat → Prop} {b : Nat} {xs : Nat → Int32} {x y : Nat} {u : Nat → Nat → Nat} {v : Nat → Nat} {H : Heap} {locs : List Loc} {ls : Array Slot} (C : LC p s m meth c D k sd A b xs) (hP : va_P D vwCl (SW0 k x u y v) H) (hD : va_D A (SW0 k x u y v)) (hS : va_S A s.heap H locs) (hl : lv_has ls 4 [(0, .ref b), (1, .ref x), (2, .ref y), (3, .int 0)]) : W p l e room_1 s m #[Value.ref b] below meth c H locs 287 18933 (lw_Z below #[Value.ref b] s) (F0 m 224 ls []) := by
  obtain ⟨hx, hb, hr, hml, hown, hw, hXs, hbl, hlocks, hK, hE, hX, hA, hAr, hbA⟩ := id C
  refine lv_aload_n hx hb dL_law_224 rfl (lv_at hl 1 rfl) ?_
  refine lv_aload_n hx hb dL_law_225 rfl (lv_at hl 0 rfl) ?_
  refine lv_iload_n hx hb dL_law_226 rfl (lv_at hl 3 rfl) ?_
  refine lv_iconst (v := 1) hx hb dL_law_227 (by decide) ?_
  refine lv_iadd hx hb dL_law_228 ?_
  refine x_top (v := 1) (by decide) ?_
  refine va_sld hx hb hXs hbl hbA hS (i := 1) (by unfold vp_in; decide) dL_law_229 ?_
  refine x_top (v := xs 1) rfl ?_
  refine lv_aload_n hx hb dL_law_230 rfl (lv_at hl 0 rfl) ?_
  refine lv_iload_n hx hb dL_law_231 rfl (lv_at hl 3 rfl) ?_
  refine lv_iconst (v := 2) hx hb dL_law_232 (by decide) ?_
  refine lv_iadd hx hb dL_law_233 ?_
  refine x_top (v := 2) (by decide) ?_
  refine va_sld hx hb hXs hbl hbA hS (i := 2) (by unfold vp_in; decide) dL_law_234 ?_
  refine x_top (v := xs 2) rfl ?_
  refine lv_aload_n hx hb dL_law_235 rfl (lv_at hl 0 rfl) ?_
  refine lv_iload_n hx hb dL_law_236 rfl (lv_at hl 3 rfl) ?_
  refine lv_iconst (v := 3) hx hb dL_law_237 (by decide) ?_
  refine lv_iadd hx hb dL_law_238 ?_
  refine x_top (v := 3) (by decide) ?_
  refine va_sld hx hb hXs hbl hbA hS (i := 3) (by unfold vp_in; decide) dL_law_239 ?_
  refine x_top (v := xs 3) rfl ?_
  refine lv_aload_n hx hb dL_law_240 rfl (lv_at hl 0 rfl) ?_
  refine lv_iload_n hx hb dL_law_241 rfl (lv_at hl 3 rfl) ?_
  refine lv_iconst (v := 4) hx hb dL_law_242 (by decide) ?_
  refine lv_iadd hx hb dL_law_243 ?_
  refine x_top (v := 4) (by decide) ?_
  refine va_sld hx hb hXs hbl hbA hS (i := 4) (by unfold vp_in; decide) dL_law_244 ?_
  refine x_top (v := xs 4) rfl ?_
  refine lv_aload_n hx hb dL_law_245 rfl (lv_at hl 0 rfl) ?_
  refine lv_iload_n hx hb dL_law_246 rfl (lv_at hl 3 rfl) ?_
  refine lv_iconst (v := 5) hx hb dL_law_247 (by decide) ?_
  refine lv_iadd hx hb dL_law_248 ?_
  refine x_top (v := 5) (by decide) ?_
  refine va_sld hx hb hXs hbl hbA hS (i := 5) (by unfold vp_in; decide) dL_law_249 ?_
  refine x_top (v := xs 5) rfl ?_
  refine x_i (wr := [(y, .inr (10, [.int 0, .ref (v 1), .ref (v 2), .ref (v 3), .ref (v 4), .ref (v 5), .ref (v 6), .ref (v 7), .ref (v 8), .ref (v 9), .ref (v 10), .ref (v 11), .ref (v 12), .ref (v 13), .ref (v 14), .ref (v 15), .ref (v 16), .ref (v 17), .ref (v 18), .ref (v 19), .ref (v 20), .ref (v 21), .ref (v 22), .ref (v 23), .ref (v 24), .ref (v 25), .ref (v 26), .ref (v 27), .ref (v 28), .ref (v 29), .ref (v 30), .ref (v 31), .ref (v 32), .ref (v 33), .ref (v 34), .ref (v 35), .ref (v 36), .int 0, .int 0, .int 0, .int 0, .int 0, .int 0, .int 0, .int 0, .int 0, .int 13, .int 0, .ref (v 48), .ref (v 49), .ref (v 50), .ref (v 51), .ref (v 52), .ref (v 53), .ref (v 54), .ref (v 55), .ref (v 56), .ref (v 57), .ref (v 58), .ref (v 59), .ref (v 60), .int 0, .int 0, .int 0, .int 0, .int 0, .int 0, .int 0, .ref (v 68), .ref (v 69), .ref (v 70), .ref (v 71), .ref (v 72), .int 0, .int 0, .ref (v 75), .ref (v 76), .ref (v 77), .int 0, .int 0])), (v 48, .inl (k 5, 400, .inl (fun _ => 0)))]) (va_runV (As := [.int (xs 1), .int (xs 2), .int (xs 3), .int (xs 4), .int (xs 5)]) (rest := []) ⟨hx, hb, hml, hown, hw⟩ (kX9_feed l D k sd x (u 0 0) (u 0 1) (u 0 2) (u 0 3) (u 0 4) (u 0 17) (u 0 6) (u 0 18) (u 0 19) (u 0 20) (u 0 21) (u 1 0) (fun _ => 0) (xs 1) (xs 2) (xs 3) (xs 4) (xs 5) H.size) (cwV 5 hw (gV wd_456 wd_457 wd_458 wd_1 wd_459) rfl rfl rfl (by decide +kernel) ⟨Nat.le_of_ble_eq_true rfl, Nat.le_of_ble_eq_true rfl⟩) (pre_V (ci := 9) (r := (RX9, TX9, 12)) hK hE hX hP hD hS hA [0, 1, 2] (by decide) rfl rfl (q0 := 0) rfl) rfl rfl hl.1 rfl (lv_room (Nat.le_of_ble_eq_true rfl)) dL_law_250 ⟨Nat.le_of_ble_eq_true rfl, Nat.le_of_ble_eq_true rfl⟩) hP hD hS hA [0, 1, 2] [3, 4] rfl rfl (by decide) (by decide) (fun r_3 u_1 H locs hp_2 hP hD hS => ?_)
  subst hp_2
  have hP : va_P D vwCl ([(y, .inr (10, [.int 0, .ref (v 1), .ref (v 2), .ref (v 3), .ref (v 4), .ref (v 5), .ref (v 6), .ref (v 7), .ref (v 8), .ref (v 9), .ref (v 10), .ref (v 11), .ref (v 12), .ref (v 13), .ref (v 14), .ref (v 15), .ref (v 16), .ref (v 17), .ref (v 18), .ref (v 19), .ref (v 20), .ref (v 21), .ref (v 22), .ref (v 23), .ref (v 24), .ref (v 25), .ref (v 26), .ref (v 27), .ref (v 28), .ref (v 29), .ref (v 30), .ref (v 31), .ref (v 32), .ref (v 33), .ref (v 34), .ref (v 35), .ref (v 36), .int 0, .int 0, .int 0, .int 0, .int 0, .int 0, .int 0, .int 0, .int 0, .int 13, .int 0, .ref (v 48), .ref (v 49), .ref (v 50), .ref (v 51), .ref (v 52), .ref (v 53), .ref (v 54), .ref (v 55), .ref (v 56), .ref (v 57), .ref (v 58), .ref (v 59), .ref (v 60), .int 0, .int 0, .int 0, .int 0, .int 0, .int 0, .int 0, .ref (v 68), .ref (v 69), .ref (v 70), .ref (v 71), .ref (v 72), .int 0, .int 0, .ref (v 75), .ref (v 76), .ref (v 77), .int 0, .int 0])), (v 48, .inl (k 5, 400, .inl (fun _ => 0)))]) H := hP
  have hD : va_D A ([(y, .inr (10, [.int 0, .ref (v 1), .ref (v 2), .ref (v 3), .ref (v 4), .ref (v 5), .ref (v 6), .ref (v 7), .ref (v 8), .ref (v 9), .ref (v 10), .ref (v 11), .ref (v 12), .ref (v 13), .ref (v 14), .ref (v 15), .ref (v 16), .ref (v 17), .ref (v 18), .ref (v 19), .ref (v 20), .ref (v 21), .ref (v 22), .ref (v 23), .ref (v 24), .ref (v 25), .ref (v 26), .ref (v 27), .ref (v 28), .ref (v 29), .ref (v 30), .ref (v 31), .ref (v 32), .ref (v 33), .ref (v 34), .ref (v 35), .ref (v 36), .int 0, .int 0, .int 0, .int 0, .int 0, .int 0, .int 0, .int 0, .int 0, .int 13, .int 0, .ref (v 48), .ref (v 49), .ref (v 50), .ref (v 51), .ref (v 52), .ref (v 53), .ref (v 54), .ref (v 55), .ref (v 56), .ref (v 57), .ref (v 58), .ref (v 59), .ref (v 60), .int 0, .int 0, .int 0, .int 0, .int 0, .int 0, .int 0, .ref (v 68), .ref (v 69), .ref (v 70), .ref (v 71), .ref (v 72), .int 0, .int 0, .ref (v 75), .ref (v 76), .ref (v 77), .int 0, .int 0])), (v 48, .inl (k 5, 400, .inl (fun _ => 0)))]) := hD
  refine lv_aload_n hx hb dL_law_253 rfl (lv_at hl 2 rfl) ?_
  refine lv_aload_n hx hb dL_law_254 rfl (lv_at hl 0 rfl) ?_
  refine lv_iload_n hx hb dL_law_255 rfl (lv_at hl 3 rfl) ?_
  refine lv_iconst (v := 1) hx hb dL_law_256 (by decide) ?_
  refine lv_iadd hx hb dL_law_257 ?_
  refine x_top (v := 1) (by decide) ?_
  refine va_sld hx hb hXs hbl hbA hS (i := 1) (by unfold vp_in; decide) dL_law_258 ?_
  refine x_top (v := xs 1) rfl ?_
  refine lv_aload_n hx hb dL_law_259 rfl (lv_at hl 0 rfl) ?_
  refine lv_iload_n hx hb dL_law_260 rfl (lv_at hl 3 rfl) ?_
  refine lv_iconst (v := 2) hx hb dL_law_261 (by decide) ?_
  refine lv_iadd hx hb dL_law_262 ?_
  refine x_top (v := 2) (by decide) ?_
  refine va_sld hx hb hXs hbl hbA hS (i := 2) (by unfold vp_in; decide) dL_law_263 ?_
  refine x_top (v := xs 2) rfl ?_
  refine lv_aload_n hx hb dL_law_264 rfl (lv_at hl 0 rfl) ?_
  refine lv_iload_n hx hb dL_law_265 rfl (lv_at hl 3 rfl) ?_
  refine lv_iconst (v := 3) hx hb dL_law_266 (by decide) ?_
  refine lv_iadd hx hb dL_law_267 ?_
  refine x_top (v := 3) (by decide) ?_
  refine va_sld hx hb hXs hbl hbA hS (i := 3) (by unfold vp_in; decide) dL_law_268 ?_
  refine x_top (v := xs 3) rfl ?_
  refine lv_aload_n hx hb dL_law_269 rfl (lv_at hl 0 rfl) ?_
  refine lv_iload_n hx hb dL_law_270 rfl (lv_at hl 3 rfl) ?_
  refine lv_iconst (v := 4) hx hb dL_law_271 (by decide) ?_
  refine lv_iadd hx hb dL_law_272 ?_
  refine x_top (v := 4) (by decide) ?_
  refine va_sld hx hb hXs hbl hbA hS (i := 4) (by unfold vp_in; decide) dL_law_273 ?_
  refine x_top (v := xs 4) rfl ?_
  refine lv_aload_n hx hb dL_law_274 rfl (lv_at hl 0 rfl) ?_
  refine lv_iload_n hx hb dL_law_275 rfl (lv_at hl 3 rfl) ?_
  refine lv_iconst (v := 5) hx hb dL_law_276 (by decide) ?_
  refine lv_iadd hx hb dL_law_277 ?_
  refine x_top (v := 5) (by decide) ?_
  refine va_sld hx hb hXs hbl hbA hS (i := 5) (by unfold vp_in; decide) dL_law_278 ?_
  refine x_top (v := xs 5) rfl ?_
  refine x_i (wr := ([] : va_W)) (va_runV (As := [.int (xs 1), .int (xs 2), .int (xs 3), .int (xs 4), .int (xs 5)]) (rest := [.int 20]) ⟨hx, hb, hml, hown, hw⟩ (kX10_feed l D k sd y v (fun _ => 0) (xs 1) (xs 2) (xs 3) (xs 4) (xs 5) H.size) (cwV 5 hw (gV wd_1377 wd_1378 wd_1379 wd_11 wd_1380) rfl rfl rfl (by decide +kernel) ⟨Nat.le_of_ble_eq_true rfl, Nat.le_of_ble_eq_true rfl⟩) (pre_V (ci := 10) (r := (RX10, TX10, 80)) hK hE hX hP hD hS hA [0, 1] (by decide) rfl rfl (q0 := 0) rfl) rfl rfl hl.1 rfl (lv_room (Nat.le_of_ble_eq_true rfl)) dL_law_279 ⟨Nat.le_of_ble_eq_true rfl, Nat.le_of_ble_eq_true rfl⟩) hP hD hS hA [0, 1] [] rfl rfl (by decide) (by decide) (fun r_6 u_4 H locs hp_5 hP hD hS => ?_)
  subst hp_5
  have hP : va_P D vwCl (([] : va_W)) H := hP
  have hD : va_D A (([] : va_W)) := hD
  refine lv_icmp_eq (tgt := 1566) hx hb dL_law_282 (by decide) (fun _ => ?_) (fun h => absurd (by decide) h)
  exact law_end C hS (lv_sub hl [0, 1, 2, 3] rfl)
def SW1 (k : Nat → ClassId) (x : Nat) (u : Nat → Nat → Nat) (y : Nat) (v : Nat → Nat) : va_W := [(x, .inr (9, [.ref (u 0 0), .ref (u 0 1), .ref (u 0 2), .ref (u 0 3), .int 0, .ref (u 0 4), .ref (u 0 17), .ref (u 0 6), .ref (u 0 18), .ref (u 0 19), .ref (u 0 20), .ref (u 0 21)])), (u 0 0, .inr (7, [.ref (u 1 0), .int 0, .int 0, .int 0, .int 0, .int 0])), (u 0 5, .inr (2, [.int 0, .int 0, .int 0, .int 0, .int 0, .ref (u 6 0), .ref (u 6 1), .ref (u 6 2), .ref (u 6 3), .ref (u 6 4), .ref (u 6 5), .ref (u 6 6)])), (u 0 4, .inr (8, [.ref (u 0 5), .ref (u 5 0), .ref (u 5 10), .ref (u 5 23), .ref (u 0 3), .ref (u 5 24), .ref (u 5 25), .ref (u 5 26), .int 0])), (u 5 0, .inr (6, [.int 0, .int 0, .int (-1), .int 0, .int 0, .int 0, .ref (u 5 1), .ref (u 5 2), .ref (u 5 3), .ref (u 5 4), .ref (u 5 5), .ref (u 5 6), .ref (u 5 7), .ref (u 5 8), .ref (u 5 9)])), (u 5 10, .inr (0, [.int 0, .int 0, .ref (u 5 11), .ref (u 5 12), .int 0, .ref (u 5 13), .int 0, .ref (u 5 14), .ref (u 5 15), .ref (u 5 16), .ref (u 5 17), .int 0, .ref (u 5 18), .ref (u 5 19), .ref (u 5 20), .ref (u 5 21), .ref (u 5 22)])), (y, .inr (10, [.int 0, .ref (v 1), .ref (v 2), .ref (v 3), .ref (v 4), .ref (v 5), .ref (v 6), .ref (v 7), .ref (v 8), .ref (v 9), .ref (v 10), .ref (v 11), .ref (v 12), .ref (v 13), .ref (v 14), .ref (v 15), .ref (v 16), .ref (v 17), .ref (v 18), .ref (v 19), .ref (v 20), .ref (v 21), .ref (v 22), .ref (v 23), .ref (v 24), .ref (v 25), .ref (v 26), .ref (v 27), .ref (v 28), .ref (v 29), .ref (v 30), .ref (v 31), .ref (v 32), .ref (v 33), .ref (v 34), .ref (v 35), .ref (v 36), .int 0, .int 0, .int 0, .int 0, .int 0, .int 0, .int 0, .int 0, .int 0, .int 13, .int 0, .ref (v 48), .ref (v 49), .ref (v 50), .ref (v 51), .ref (v 52), .ref (v 53), .ref (v 54), .ref (v 55), .ref (v 56), .ref (v 57), .ref (v 58), .ref (v 59), .ref (v 60), .int 0, .int 0, .int 0, .int 0, .int 0, .int 0, .int 0, .ref (v 68), .ref (v 69), .ref (v 70), .ref (v 71), .ref (v 72), .int 0, .int 0, .ref (v 75), .ref (v 76), .ref (v 77), .int 0, .int 0])), (v 1, .inl (k 0, 17, .inl (scal0)))]
set_option maxRecDepth 100000 in
theorem sub_1 (k : Nat → ClassId) (x : Nat) (u : Nat → Nat → Nat) (y : Nat) (v : Nat → Nat) : List.Sublist (SW1 k x u y v) (G9n k x u ++ G10 k y v) := by
  have h : List.Sublist ((([(x, .inr (9, [.ref (u 0 0), .ref (u 0 1), .ref (u 0 2), .ref (u 0 3), .int 0, .ref (u 0 4), .ref (u 0 17), .ref (u 0 6), .ref (u 0 18), .ref (u 0 19), .ref (u 0 20), .ref (u 0 21)]))] ++ (((((((((((((((((((([] : va_W) ++ [(u 0 0, .inr (7, [.ref (u 1 0), .int 0, .int 0, .int 0, .int 0, .int 0]))]) ++ ([] : va_W)) ++ ([] : va_W)) ++ ([] : va_W)) ++ ([] : va_W)) ++ ([] : va_W)) ++ ([] : va_W)) ++ ([] : va_W)) ++ ([] : va_W)) ++ [(u 0 5, .inr (2, [.int 0, .int 0, .int 0, .int 0, .int 0, .ref (u 6 0), .ref (u 6 1), .ref (u 6 2), .ref (u 6 3), .ref (u 6 4), .ref (u 6 5), .ref (u 6 6)]))]) ++ [(u 0 4, .inr (8, [.ref (u 0 5), .ref (u 5 0), .ref (u 5 10), .ref (u 5 23), .ref (u 0 3), .ref (u 5 24), .ref (u 5 25), .ref (u 5 26), .int 0])), (u 5 0, .inr (6, [.int 0, .int 0, .int (-1), .int 0, .int 0, .int 0, .ref (u 5 1), .ref (u 5 2), .ref (u 5 3), .ref (u 5 4), .ref (u 5 5), .ref (u 5 6), .ref (u 5 7), .ref (u 5 8), .ref (u 5 9)])), (u 5 10, .inr (0, [.int 0, .int 0, .ref (u 5 11), .ref (u 5 12), .int 0, .ref (u 5 13), .int 0, .ref (u 5 14), .ref (u 5 15), .ref (u 5 16), .ref (u 5 17), .int 0, .ref (u 5 18), .ref (u 5 19), .ref (u 5 20), .ref (u 5 21), .ref (u 5 22)]))]) ++ ([] : va_W)) ++ ([] : va_W)) ++ ([] : va_W)) ++ ([] : va_W)) ++ ([] : va_W)) ++ ([] : va_W)) ++ ([] : va_W)) ++ ([] : va_W))) ++ [(y, .inr (10, [.int 0, .ref (v 1), .ref (v 2), .ref (v 3), .ref (v 4), .ref (v 5), .ref (v 6), .ref (v 7), .ref (v 8), .ref (v 9), .ref (v 10), .ref (v 11), .ref (v 12), .ref (v 13), .ref (v 14), .ref (v 15), .ref (v 16), .ref (v 17), .ref (v 18), .ref (v 19), .ref (v 20), .ref (v 21), .ref (v 22), .ref (v 23), .ref (v 24), .ref (v 25), .ref (v 26), .ref (v 27), .ref (v 28), .ref (v 29), .ref (v 30), .ref (v 31), .ref (v 32), .ref (v 33), .ref (v 34), .ref (v 35), .ref (v 36), .int 0, .int 0, .int 0, .int 0, .int 0, .int 0, .int 0, .int 0, .int 0, .int 13, .int 0, .ref (v 48), .ref (v 49), .ref (v 50), .ref (v 51), .ref (v 52), .ref (v 53), .ref (v 54), .ref (v 55), .ref (v 56), .ref (v 57), .ref (v 58), .ref (v 59), .ref (v 60), .int 0, .int 0, .int 0, .int 0, .int 0, .int 0, .int 0, .ref (v 68), .ref (v 69), .ref (v 70), .ref (v 71), .ref (v 72), .int 0, .int 0, .ref (v 75), .ref (v 76), .ref (v 77), .int 0, .int 0])), (v 1, .inl (k 0, 17, .inl (scal0)))]) : va_W) (G9n k x u ++ G10 k y v) := List.Sublist.append (List.Sublist.append (List.Sublist.cons₂ _ (List.nil_sublist _)) (List.Sublist.append (List.Sublist.append (List.Sublist.append (List.Sublist.append (List.Sublist.append (List.Sublist.append (List.Sublist.append (List.Sublist.append (List.Sublist.append (List.Sublist.append (List.Sublist.append (List.Sublist.append (List.Sublist.append (List.Sublist.append (List.Sublist.append (List.Sublist.append (List.Sublist.append (List.Sublist.append (List.Sublist.append (List.Sublist.refl ([] : va_W)) (List.Sublist.cons₂ _ (List.nil_sublist _))) (List.nil_sublist _)) (List.nil_sublist _)) (List.nil_sublist _)) (List.nil_sublist _)) (List.nil_sublist _)) (List.nil_sublist _)) (List.nil_sublist _)) (List.nil_sublist _)) (List.Sublist.cons₂ _ (List.nil_sublist _))) (List.Sublist.cons₂ _ (List.Sublist.cons₂ _ (List.Sublist.cons _ (List.Sublist.cons _ (List.Sublist.cons _ (List.Sublist.cons _ (List.Sublist.cons _ (List.Sublist.cons _ (List.Sublist.cons _ (List.Sublist.cons _ (List.Sublist.cons _ (List.Sublist.cons₂ _ (List.nil_sublist _)))))))))))))) (List.nil_sublist _)) (List.nil_sublist _)) (List.nil_sublist _)) (List.nil_sublist _)) (List.nil_sublist _)) (List.nil_sublist _)) (List.nil_sublist _)) (List.nil_sublist _))) (List.Sublist.cons₂ _ (List.Sublist.cons₂ _ (List.nil_sublist _)))
  have e : SW1 k x u y v = ((([(x, .inr (9, [.ref (u 0 0), .ref (u 0 1), .ref (u 0 2), .ref (u 0 3), .int 0, .ref (u 0 4), .ref (u 0 17), .ref (u 0 6), .ref (u 0 18), .ref (u 0 19), .ref (u 0 20), .ref (u 0 21)]))] ++ (((((((((((((((((((([] : va_W) ++ [(u 0 0, .inr (7, [.ref (u 1 0), .int 0, .int 0, .int 0, .int 0, .int 0]))]) ++ ([] : va_W)) ++ ([] : va_W)) ++ ([] : va_W)) ++ ([] : va_W)) ++ ([] : va_W)) ++ ([] : va_W)) ++ ([] : va_W)) ++ ([] : va_W)) ++ [(u 0 5, .inr (2, [.int 0, .int 0, .int 0, .int 0, .int 0, .ref (u 6 0), .ref (u 6 1), .ref (u 6 2), .ref (u 6 3), .ref (u 6 4), .ref (u 6 5), .ref (u 6 6)]))]) ++ [(u 0 4, .inr (8, [.ref (u 0 5), .ref (u 5 0), .ref (u 5 10), .ref (u 5 23), .ref (u 0 3), .ref (u 5 24), .ref (u 5 25), .ref (u 5 26), .int 0])), (u 5 0, .inr (6, [.int 0, .int 0, .int (-1), .int 0, .int 0, .int 0, .ref (u 5 1), .ref (u 5 2), .ref (u 5 3), .ref (u 5 4), .ref (u 5 5), .ref (u 5 6), .ref (u 5 7), .ref (u 5 8), .ref (u 5 9)])), (u 5 10, .inr (0, [.int 0, .int 0, .ref (u 5 11), .ref (u 5 12), .int 0, .ref (u 5 13), .int 0, .ref (u 5 14), .ref (u 5 15), .ref (u 5 16), .ref (u 5 17), .int 0, .ref (u 5 18), .ref (u 5 19), .ref (u 5 20), .ref (u 5 21), .ref (u 5 22)]))]) ++ ([] : va_W)) ++ ([] : va_W)) ++ ([] : va_W)) ++ ([] : va_W)) ++ ([] : va_W)) ++ ([] : va_W)) ++ ([] : va_W)) ++ ([] : va_W))) ++ [(y, .inr (10, [.int 0, .ref (v 1), .ref (v 2), .ref (v 3), .ref (v 4), .ref (v 5), .ref (v 6), .ref (v 7), .ref (v 8), .ref (v 9), .ref (v 10), .ref (v 11), .ref (v 12), .ref (v 13), .ref (v 14), .ref (v 15), .ref (v 16), .ref (v 17), .ref (v 18), .ref (v 19), .ref (v 20), .ref (v 21), .ref (v 22), .ref (v 23), .ref (v 24), .ref (v 25), .ref (v 26), .ref (v 27), .ref (v 28), .ref (v 29), .ref (v 30), .ref (v 31), .ref (v 32), .ref (v 33), .ref (v 34), .ref (v 35), .ref (v 36), .int 0, .int 0, .int 0, .int 0, .int 0, .int 0, .int 0, .int 0, .int 0, .int 13, .int 0, .ref (v 48), .ref (v 49), .ref (v 50), .ref (v 51), .ref (v 52), .ref (v 53), .ref (v 54), .ref (v 55), .ref (v 56), .ref (v 57), .ref (v 58), .ref (v 59), .ref (v 60), .int 0, .int 0, .int 0, .int 0, .int 0, .int 0, .int 0, .ref (v 68), .ref (v 69), .ref (v 70), .ref (v 71), .ref (v 72), .int 0, .int 0, .ref (v 75), .ref (v 76), .ref (v 77), .int 0, .int 0])), (v 1, .inl (k 0, 17, .inl (scal0)))]) : va_W) := by simp only [SW1, List.nil_append, List.append_nil, List.cons_append]
  rw [e]
  exact h
set_option maxHeartbeats 4000000 in
set_option maxRecDepth 100000 in
/-- end -/
theorem lawm_end {p : Program} {l : Launch} {e : Env} {s : State} {m : MethodId} {below : List Frame} {meth : Method} {c : Code} {D : va_G} {k : Nat → ClassId} {sd : Nat → Nat} {A : Nat → Prop} {b : Nat} {xs : Nat → Int32} {x y : Nat} {u : Nat → Nat → Nat} {v : Nat → Nat} {H : Heap} {locs : List Loc} {ls : Array Slot} (C : LC p s m meth c D k sd A b xs) (hP : va_P D vwCl (SW1 k x u y v) H) (hD : va_D A (SW1 k x u y v)) (hS : va_S A s.heap H locs) (hl : lv_has ls 4 [(0, .ref b), (1, .ref x), (2, .ref y), (3, .int 0)]) : W p l e room_1 s m #[Value.ref b] below meth c H locs 287 18933 (lw_Z below #[Value.ref b] s) (F0 m 287 ls []) := by
  obtain ⟨hx, hb, hr, hml, hown, hw, hXs, hbl, hlocks, hK, hE, hX, hA, hAr, hbA⟩ := id C
  refine lv_aload_n hx hb dL_law_287 rfl (lv_at hl 1 rfl) ?_
  refine lv_aload_n hx hb dL_law_288 rfl (lv_at hl 0 rfl) ?_
  refine lv_iload_n hx hb dL_law_289 rfl (lv_at hl 3 rfl) ?_
  refine lv_iconst (v := 1) hx hb dL_law_290 (by decide) ?_
  refine lv_iadd hx hb dL_law_291 ?_
  refine x_top (v := 1) (by decide) ?_
  refine va_sld hx hb hXs hbl hbA hS (i := 1) (by unfold vp_in; decide) dL_law_292 ?_
  refine x_top (v := xs 1) rfl ?_
  refine x_i (wr := C10 k y v) (va_runV (As := [.int (xs 1)]) (rest := []) ⟨hx, hb, hml, hown, hw⟩ (kX9_end l D k sd x u (xs 1) H.size) (cwV 1 hw (gV wd_464 wd_465 wd_466 wd_1 wd_467) rfl rfl rfl (by decide +kernel) ⟨Nat.le_of_ble_eq_true rfl, Nat.le_of_ble_eq_true rfl⟩) (pre_V (ci := 9) (r := (RX9, TX9, 12)) hK hE hX hP hD hS hA [0, 3, 2, 4, 5, 1] (by decide) rfl rfl (q0 := 0) rfl) rfl rfl hl.1 rfl (lv_room (Nat.le_of_ble_eq_true rfl)) dL_law_293 ⟨Nat.le_of_ble_eq_true rfl, Nat.le_of_ble_eq_true rfl⟩) hP hD hS hA [0, 3, 2, 4, 5, 1] [6, 7] rfl rfl (by decide) (by decide) (fun r_3 u_1 H locs hp_2 hP hD hS => ?_)
  have hP : va_P D vwCl (C10 k y v) H := hP
  have hD : va_D A (C10 k y v) := hD
  refine lv_aload_n hx hb dL_law_296 rfl (lv_at hl 2 rfl) ?_
  refine lv_aload_n hx hb dL_law_297 rfl (lv_at hl 0 rfl) ?_
  refine lv_iload_n hx hb dL_law_298 rfl (lv_at hl 3 rfl) ?_
  refine lv_iconst (v := 1) hx hb dL_law_299 (by decide) ?_
  refine lv_iadd hx hb dL_law_300 ?_
  refine x_top (v := 1) (by decide) ?_
  refine va_sld hx hb hXs hbl hbA hS (i := 1) (by unfold vp_in; decide) dL_law_301 ?_
  refine x_top (v := xs 1) rfl ?_
  refine x_i (wr := ([] : va_W)) (va_runV (As := [.int (xs 1)]) (rest := [.int r_3]) ⟨hx, hb, hml, hown, hw⟩ (kX10_end l D k sd y v (xs 1) H.size) (cwV 1 hw (gV wd_1385 wd_1386 wd_1387 wd_11 wd_1388) rfl rfl rfl (by decide +kernel) ⟨Nat.le_of_ble_eq_true rfl, Nat.le_of_ble_eq_true rfl⟩) (pre_V (ci := 10) (r := (RX10, TX10, 80)) hK hE hX hP hD hS hA [0, 1] (by decide) rfl rfl (q0 := 0) rfl) rfl rfl hl.1 rfl (lv_room (Nat.le_of_ble_eq_true rfl)) dL_law_302 ⟨Nat.le_of_ble_eq_true rfl, Nat.le_of_ble_eq_true rfl⟩) hP hD hS hA [0, 1] [] rfl rfl (by decide) (by decide) (fun r_6 u_4 H locs hp_5 hP hD hS => ?_)
  have hP : va_P D vwCl (([] : va_W)) H := hP
  have hD : va_D A (([] : va_W)) := hD
  refine lv_icmp_eq (tgt := 1566) hx hb dL_law_305 (by decide) (fun _ => ?_) (fun h => absurd (hp_2.trans hp_5.symm) h)
  exact law_end C hS (lv_sub hl [0, 1, 2, 3] rfl)
def SW2 (k : Nat → ClassId) (x : Nat) (u : Nat → Nat → Nat) (y : Nat) (v : Nat → Nat) : va_W := [(x, .inr (9, [.ref (u 0 0), .ref (u 0 1), .ref (u 0 2), .ref (u 0 3), .int 0, .ref (u 0 4), .ref (u 0 17), .ref (u 0 6), .ref (u 0 18), .ref (u 0 19), .ref (u 0 20), .ref (u 0 21)])), (u 0 0, .inr (7, [.ref (u 1 0), .int 0, .int 0, .int 0, .int 0, .int 0])), (u 0 1, .inr (3, [.ref (u 2 0), .ref (u 0 0), .int 0])), (u 2 0, .inr (2, [.int 0, .int 0, .int 0, .int 0, .int 0, .ref (u 2 1), .ref (u 2 2), .ref (u 2 3), .ref (u 2 4), .ref (u 2 5), .ref (u 2 6), .ref (u 2 7)])), (u 2 2, .inl (k 0, 9, .inl (fun _ => 0))), (y, .inr (10, [.int 0, .ref (v 1), .ref (v 2), .ref (v 3), .ref (v 4), .ref (v 5), .ref (v 6), .ref (v 7), .ref (v 8), .ref (v 9), .ref (v 10), .ref (v 11), .ref (v 12), .ref (v 13), .ref (v 14), .ref (v 15), .ref (v 16), .ref (v 17), .ref (v 18), .ref (v 19), .ref (v 20), .ref (v 21), .ref (v 22), .ref (v 23), .ref (v 24), .ref (v 25), .ref (v 26), .ref (v 27), .ref (v 28), .ref (v 29), .ref (v 30), .ref (v 31), .ref (v 32), .ref (v 33), .ref (v 34), .ref (v 35), .ref (v 36), .int 0, .int 0, .int 0, .int 0, .int 0, .int 0, .int 0, .int 0, .int 0, .int 13, .int 0, .ref (v 48), .ref (v 49), .ref (v 50), .ref (v 51), .ref (v 52), .ref (v 53), .ref (v 54), .ref (v 55), .ref (v 56), .ref (v 57), .ref (v 58), .ref (v 59), .ref (v 60), .int 0, .int 0, .int 0, .int 0, .int 0, .int 0, .int 0, .ref (v 68), .ref (v 69), .ref (v 70), .ref (v 71), .ref (v 72), .int 0, .int 0, .ref (v 75), .ref (v 76), .ref (v 77), .int 0, .int 0])), (v 29, .inl (k 0, 5, .inl (fun _ => 0))), (v 30, .inl (k 0, 9, .inl (fun _ => 0)))]
set_option maxRecDepth 100000 in
theorem sub_2 (k : Nat → ClassId) (x : Nat) (u : Nat → Nat → Nat) (y : Nat) (v : Nat → Nat) : List.Sublist (SW2 k x u y v) (G9n k x u ++ G10 k y v) := by
  have h : List.Sublist ((([(x, .inr (9, [.ref (u 0 0), .ref (u 0 1), .ref (u 0 2), .ref (u 0 3), .int 0, .ref (u 0 4), .ref (u 0 17), .ref (u 0 6), .ref (u 0 18), .ref (u 0 19), .ref (u 0 20), .ref (u 0 21)]))] ++ (((((((((((((((((((([] : va_W) ++ [(u 0 0, .inr (7, [.ref (u 1 0), .int 0, .int 0, .int 0, .int 0, .int 0]))]) ++ [(u 0 1, .inr (3, [.ref (u 2 0), .ref (u 0 0), .int 0])), (u 2 0, .inr (2, [.int 0, .int 0, .int 0, .int 0, .int 0, .ref (u 2 1), .ref (u 2 2), .ref (u 2 3), .ref (u 2 4), .ref (u 2 5), .ref (u 2 6), .ref (u 2 7)])), (u 2 2, .inl (k 0, 9, .inl (fun _ => 0)))]) ++ ([] : va_W)) ++ ([] : va_W)) ++ ([] : va_W)) ++ ([] : va_W)) ++ ([] : va_W)) ++ ([] : va_W)) ++ ([] : va_W)) ++ ([] : va_W)) ++ ([] : va_W)) ++ ([] : va_W)) ++ ([] : va_W)) ++ ([] : va_W)) ++ ([] : va_W)) ++ ([] : va_W)) ++ ([] : va_W)) ++ ([] : va_W)) ++ ([] : va_W))) ++ [(y, .inr (10, [.int 0, .ref (v 1), .ref (v 2), .ref (v 3), .ref (v 4), .ref (v 5), .ref (v 6), .ref (v 7), .ref (v 8), .ref (v 9), .ref (v 10), .ref (v 11), .ref (v 12), .ref (v 13), .ref (v 14), .ref (v 15), .ref (v 16), .ref (v 17), .ref (v 18), .ref (v 19), .ref (v 20), .ref (v 21), .ref (v 22), .ref (v 23), .ref (v 24), .ref (v 25), .ref (v 26), .ref (v 27), .ref (v 28), .ref (v 29), .ref (v 30), .ref (v 31), .ref (v 32), .ref (v 33), .ref (v 34), .ref (v 35), .ref (v 36), .int 0, .int 0, .int 0, .int 0, .int 0, .int 0, .int 0, .int 0, .int 0, .int 13, .int 0, .ref (v 48), .ref (v 49), .ref (v 50), .ref (v 51), .ref (v 52), .ref (v 53), .ref (v 54), .ref (v 55), .ref (v 56), .ref (v 57), .ref (v 58), .ref (v 59), .ref (v 60), .int 0, .int 0, .int 0, .int 0, .int 0, .int 0, .int 0, .ref (v 68), .ref (v 69), .ref (v 70), .ref (v 71), .ref (v 72), .int 0, .int 0, .ref (v 75), .ref (v 76), .ref (v 77), .int 0, .int 0])), (v 29, .inl (k 0, 5, .inl (fun _ => 0))), (v 30, .inl (k 0, 9, .inl (fun _ => 0)))]) : va_W) (G9n k x u ++ G10 k y v) := List.Sublist.append (List.Sublist.append (List.Sublist.cons₂ _ (List.nil_sublist _)) (List.Sublist.append (List.Sublist.append (List.Sublist.append (List.Sublist.append (List.Sublist.append (List.Sublist.append (List.Sublist.append (List.Sublist.append (List.Sublist.append (List.Sublist.append (List.Sublist.append (List.Sublist.append (List.Sublist.append (List.Sublist.append (List.Sublist.append (List.Sublist.append (List.Sublist.append (List.Sublist.append (List.Sublist.append (List.Sublist.refl ([] : va_W)) (List.Sublist.cons₂ _ (List.nil_sublist _))) (List.Sublist.cons₂ _ (List.Sublist.cons₂ _ (List.Sublist.cons _ (List.Sublist.cons₂ _ (List.nil_sublist _)))))) (List.nil_sublist _)) (List.nil_sublist _)) (List.nil_sublist _)) (List.nil_sublist _)) (List.nil_sublist _)) (List.nil_sublist _)) (List.nil_sublist _)) (List.nil_sublist _)) (List.nil_sublist _)) (List.nil_sublist _)) (List.nil_sublist _)) (List.nil_sublist _)) (List.nil_sublist _)) (List.nil_sublist _)) (List.nil_sublist _)) (List.nil_sublist _)) (List.nil_sublist _))) (List.Sublist.cons₂ _ (List.Sublist.cons _ (List.Sublist.cons _ (List.Sublist.cons _ (List.Sublist.cons _ (List.Sublist.cons _ (List.Sublist.cons _ (List.Sublist.cons _ (List.Sublist.cons _ (List.Sublist.cons _ (List.Sublist.cons _ (List.Sublist.cons _ (List.Sublist.cons _ (List.Sublist.cons _ (List.Sublist.cons _ (List.Sublist.cons _ (List.Sublist.cons _ (List.Sublist.cons _ (List.Sublist.cons _ (List.Sublist.cons _ (List.Sublist.cons _ (List.Sublist.cons _ (List.Sublist.cons _ (List.Sublist.cons _ (List.Sublist.cons _ (List.Sublist.cons _ (List.Sublist.cons _ (List.Sublist.cons _ (List.Sublist.cons _ (List.Sublist.cons₂ _ (List.Sublist.cons₂ _ (List.nil_sublist _))))))))))))))))))))))))))))))))
  have e : SW2 k x u y v = ((([(x, .inr (9, [.ref (u 0 0), .ref (u 0 1), .ref (u 0 2), .ref (u 0 3), .int 0, .ref (u 0 4), .ref (u 0 17), .ref (u 0 6), .ref (u 0 18), .ref (u 0 19), .ref (u 0 20), .ref (u 0 21)]))] ++ (((((((((((((((((((([] : va_W) ++ [(u 0 0, .inr (7, [.ref (u 1 0), .int 0, .int 0, .int 0, .int 0, .int 0]))]) ++ [(u 0 1, .inr (3, [.ref (u 2 0), .ref (u 0 0), .int 0])), (u 2 0, .inr (2, [.int 0, .int 0, .int 0, .int 0, .int 0, .ref (u 2 1), .ref (u 2 2), .ref (u 2 3), .ref (u 2 4), .ref (u 2 5), .ref (u 2 6), .ref (u 2 7)])), (u 2 2, .inl (k 0, 9, .inl (fun _ => 0)))]) ++ ([] : va_W)) ++ ([] : va_W)) ++ ([] : va_W)) ++ ([] : va_W)) ++ ([] : va_W)) ++ ([] : va_W)) ++ ([] : va_W)) ++ ([] : va_W)) ++ ([] : va_W)) ++ ([] : va_W)) ++ ([] : va_W)) ++ ([] : va_W)) ++ ([] : va_W)) ++ ([] : va_W)) ++ ([] : va_W)) ++ ([] : va_W)) ++ ([] : va_W))) ++ [(y, .inr (10, [.int 0, .ref (v 1), .ref (v 2), .ref (v 3), .ref (v 4), .ref (v 5), .ref (v 6), .ref (v 7), .ref (v 8), .ref (v 9), .ref (v 10), .ref (v 11), .ref (v 12), .ref (v 13), .ref (v 14), .ref (v 15), .ref (v 16), .ref (v 17), .ref (v 18), .ref (v 19), .ref (v 20), .ref (v 21), .ref (v 22), .ref (v 23), .ref (v 24), .ref (v 25), .ref (v 26), .ref (v 27), .ref (v 28), .ref (v 29), .ref (v 30), .ref (v 31), .ref (v 32), .ref (v 33), .ref (v 34), .ref (v 35), .ref (v 36), .int 0, .int 0, .int 0, .int 0, .int 0, .int 0, .int 0, .int 0, .int 0, .int 13, .int 0, .ref (v 48), .ref (v 49), .ref (v 50), .ref (v 51), .ref (v 52), .ref (v 53), .ref (v 54), .ref (v 55), .ref (v 56), .ref (v 57), .ref (v 58), .ref (v 59), .ref (v 60), .int 0, .int 0, .int 0, .int 0, .int 0, .int 0, .int 0, .ref (v 68), .ref (v 69), .ref (v 70), .ref (v 71), .ref (v 72), .int 0, .int 0, .ref (v 75), .ref (v 76), .ref (v 77), .int 0, .int 0])), (v 29, .inl (k 0, 5, .inl (fun _ => 0))), (v 30, .inl (k 0, 9, .inl (fun _ => 0)))]) : va_W) := by simp only [SW2, List.nil_append, List.append_nil, List.cons_append]
  rw [e]
  exact h
set_option maxHeartbeats 4000000 in
set_option maxRecDepth 100000 in
/-- river -/
theorem lawm_river {p : Program} {l : Launch} {e : Env} {s : State} {m : MethodId} {below : List Frame} {meth : Method} {c : Code} {D : va_G} {k : Nat → ClassId} {sd : Nat → Nat} {A : Nat → Prop} {b : Nat} {xs : Nat → Int32} {x y : Nat} {u : Nat → Nat → Nat} {v : Nat → Nat} {H : Heap} {locs : List Loc} {ls : Array Slot} (C : LC p s m meth c D k sd A b xs) (hP : va_P D vwCl (SW2 k x u y v) H) (hD : va_D A (SW2 k x u y v)) (hS : va_S A s.heap H locs) (hl : lv_has ls 4 [(0, .ref b), (1, .ref x), (2, .ref y), (3, .int 0)]) : W p l e room_1 s m #[Value.ref b] below meth c H locs 287 18933 (lw_Z below #[Value.ref b] s) (F0 m 310 ls []) := by
  obtain ⟨hx, hb, hr, hml, hown, hw, hXs, hbl, hlocks, hK, hE, hX, hA, hAr, hbA⟩ := id C
  refine lv_aload_n hx hb dL_law_310 rfl (lv_at hl 1 rfl) ?_
  refine x_i (wr := [(y, .inr (10, [.int 0, .ref (v 1), .ref (v 2), .ref (v 3), .ref (v 4), .ref (v 5), .ref (v 6), .ref (v 7), .ref (v 8), .ref (v 9), .ref (v 10), .ref (v 11), .ref (v 12), .ref (v 13), .ref (v 14), .ref (v 15), .ref (v 16), .ref (v 17), .ref (v 18), .ref (v 19), .ref (v 20), .ref (v 21), .ref (v 22), .ref (v 23), .ref (v 24), .ref (v 25), .ref (v 26), .ref (v 27), .ref (v 28), .ref (v 29), .ref (v 30), .ref (v 31), .ref (v 32), .ref (v 33), .ref (v 34), .ref (v 35), .ref (v 36), .int 0, .int 0, .int 0, .int 0, .int 0, .int 0, .int 0, .int 0, .int 0, .int 13, .int 0, .ref (v 48), .ref (v 49), .ref (v 50), .ref (v 51), .ref (v 52), .ref (v 53), .ref (v 54), .ref (v 55), .ref (v 56), .ref (v 57), .ref (v 58), .ref (v 59), .ref (v 60), .int 0, .int 0, .int 0, .int 0, .int 0, .int 0, .int 0, .ref (v 68), .ref (v 69), .ref (v 70), .ref (v 71), .ref (v 72), .int 0, .int 0, .ref (v 75), .ref (v 76), .ref (v 77), .int 0, .int 0])), (v 29, .inl (k 0, 5, .inl (fun _ => 0))), (v 30, .inl (k 0, 9, .inl (fun _ => 0)))]) (va_runV (As := []) (rest := []) ⟨hx, hb, hml, hown, hw⟩ (kX9_river l D k sd x (u 0 0) (u 0 1) (u 0 2) (u 0 3) (u 0 4) (u 0 17) (u 0 6) (u 0 18) (u 0 19) (u 0 20) (u 0 21) (u 2 0) (u 2 1) (u 2 2) (u 2 3) (u 2 4) (u 2 5) (u 2 6) (u 2 7) (u 1 0) (fun _ => 0) H.size) (cwV 0 hw (gV wd_468 wd_469 wd_470 wd_1 wd_471) rfl rfl rfl (by decide +kernel) ⟨Nat.le_of_ble_eq_true rfl, Nat.le_of_ble_eq_true rfl⟩) (pre_V (ci := 9) (r := (RX9, TX9, 12)) hK hE hX hP hD hS hA [0, 2, 3, 4, 1] (by decide) rfl rfl (q0 := 0) rfl) rfl rfl hl.1 rfl (lv_room (Nat.le_of_ble_eq_true rfl)) dL_law_311 ⟨Nat.le_of_ble_eq_true rfl, Nat.le_of_ble_eq_true rfl⟩) hP hD hS hA [0, 2, 3, 4, 1] [5, 6, 7] rfl rfl (by decide) (by decide) (fun r_3 u_1 H locs hp_2 hP hD hS => ?_)
  subst hp_2
  have hP : va_P D vwCl ([(y, .inr (10, [.int 0, .ref (v 1), .ref (v 2), .ref (v 3), .ref (v 4), .ref (v 5), .ref (v 6), .ref (v 7), .ref (v 8), .ref (v 9), .ref (v 10), .ref (v 11), .ref (v 12), .ref (v 13), .ref (v 14), .ref (v 15), .ref (v 16), .ref (v 17), .ref (v 18), .ref (v 19), .ref (v 20), .ref (v 21), .ref (v 22), .ref (v 23), .ref (v 24), .ref (v 25), .ref (v 26), .ref (v 27), .ref (v 28), .ref (v 29), .ref (v 30), .ref (v 31), .ref (v 32), .ref (v 33), .ref (v 34), .ref (v 35), .ref (v 36), .int 0, .int 0, .int 0, .int 0, .int 0, .int 0, .int 0, .int 0, .int 0, .int 13, .int 0, .ref (v 48), .ref (v 49), .ref (v 50), .ref (v 51), .ref (v 52), .ref (v 53), .ref (v 54), .ref (v 55), .ref (v 56), .ref (v 57), .ref (v 58), .ref (v 59), .ref (v 60), .int 0, .int 0, .int 0, .int 0, .int 0, .int 0, .int 0, .ref (v 68), .ref (v 69), .ref (v 70), .ref (v 71), .ref (v 72), .int 0, .int 0, .ref (v 75), .ref (v 76), .ref (v 77), .int 0, .int 0])), (v 29, .inl (k 0, 5, .inl (fun _ => 0))), (v 30, .inl (k 0, 9, .inl (fun _ => 0)))]) H := hP
  have hD : va_D A ([(y, .inr (10, [.int 0, .ref (v 1), .ref (v 2), .ref (v 3), .ref (v 4), .ref (v 5), .ref (v 6), .ref (v 7), .ref (v 8), .ref (v 9), .ref (v 10), .ref (v 11), .ref (v 12), .ref (v 13), .ref (v 14), .ref (v 15), .ref (v 16), .ref (v 17), .ref (v 18), .ref (v 19), .ref (v 20), .ref (v 21), .ref (v 22), .ref (v 23), .ref (v 24), .ref (v 25), .ref (v 26), .ref (v 27), .ref (v 28), .ref (v 29), .ref (v 30), .ref (v 31), .ref (v 32), .ref (v 33), .ref (v 34), .ref (v 35), .ref (v 36), .int 0, .int 0, .int 0, .int 0, .int 0, .int 0, .int 0, .int 0, .int 0, .int 13, .int 0, .ref (v 48), .ref (v 49), .ref (v 50), .ref (v 51), .ref (v 52), .ref (v 53), .ref (v 54), .ref (v 55), .ref (v 56), .ref (v 57), .ref (v 58), .ref (v 59), .ref (v 60), .int 0, .int 0, .int 0, .int 0, .int 0, .int 0, .int 0, .ref (v 68), .ref (v 69), .ref (v 70), .ref (v 71), .ref (v 72), .int 0, .int 0, .ref (v 75), .ref (v 76), .ref (v 77), .int 0, .int 0])), (v 29, .inl (k 0, 5, .inl (fun _ => 0))), (v 30, .inl (k 0, 9, .inl (fun _ => 0)))]) := hD
  refine lv_aload_n hx hb dL_law_314 rfl (lv_at hl 2 rfl) ?_
  refine x_i (wr := ([] : va_W)) (va_runV (As := []) (rest := [.int (-3)]) ⟨hx, hb, hml, hown, hw⟩ (kX10_river l D k sd y v  H.size) (cwV 0 hw (gV wd_1389 wd_1390 wd_1391 wd_11 wd_1392) rfl rfl rfl (by decide +kernel) ⟨Nat.le_of_ble_eq_true rfl, Nat.le_of_ble_eq_true rfl⟩) (pre_V (ci := 10) (r := (RX10, TX10, 80)) hK hE hX hP hD hS hA [0, 1, 2] (by decide) rfl rfl (q0 := 0) rfl) rfl rfl hl.1 rfl (lv_room (Nat.le_of_ble_eq_true rfl)) dL_law_315 ⟨Nat.le_of_ble_eq_true rfl, Nat.le_of_ble_eq_true rfl⟩) hP hD hS hA [0, 1, 2] [] rfl rfl (by decide) (by decide) (fun r_6 u_4 H locs hp_5 hP hD hS => ?_)
  subst hp_5
  have hP : va_P D vwCl (([] : va_W)) H := hP
  have hD : va_D A (([] : va_W)) := hD
  refine lv_icmp_eq (tgt := 1566) hx hb dL_law_318 (by decide) (fun _ => ?_) (fun h => absurd (by decide) h)
  exact law_end C hS (lv_sub hl [0, 1, 2, 3] rfl)
def SW3 (k : Nat → ClassId) (x : Nat) (u : Nat → Nat → Nat) (y : Nat) (v : Nat → Nat) : va_W := [(x, .inr (9, [.ref (u 0 0), .ref (u 0 1), .ref (u 0 2), .ref (u 0 3), .int 0, .ref (u 0 4), .ref (u 0 17), .ref (u 0 6), .ref (u 0 18), .ref (u 0 19), .ref (u 0 20), .ref (u 0 21)])), (u 0 3, .inl (k 3, 6, .inr (.inr (.inr (.inr (va_up (va_up (va_up (va_up (va_up (va_up (fun _ => none) 0 (some (u 0 7))) 1 (some (u 0 8))) 2 (some (u 0 9))) 3 (some (u 0 10))) 4 (some (u 0 11))) 5 (some (u 0 12)))))))), (u 0 0, .inr (7, [.ref (u 1 0), .int 0, .int 0, .int 0, .int 0, .int 0])), (u 0 2, .inr (5, [.ref (u 0 0), .int 0])), (u 0 7, .inr (4, [.ref (u 4 0), .int 0, .int 0, .int 0, .ref (u 4 1), .long 0])), (y, .inr (10, [.int 0, .ref (v 1), .ref (v 2), .ref (v 3), .ref (v 4), .ref (v 5), .ref (v 6), .ref (v 7), .ref (v 8), .ref (v 9), .ref (v 10), .ref (v 11), .ref (v 12), .ref (v 13), .ref (v 14), .ref (v 15), .ref (v 16), .ref (v 17), .ref (v 18), .ref (v 19), .ref (v 20), .ref (v 21), .ref (v 22), .ref (v 23), .ref (v 24), .ref (v 25), .ref (v 26), .ref (v 27), .ref (v 28), .ref (v 29), .ref (v 30), .ref (v 31), .ref (v 32), .ref (v 33), .ref (v 34), .ref (v 35), .ref (v 36), .int 0, .int 0, .int 0, .int 0, .int 0, .int 0, .int 0, .int 0, .int 0, .int 13, .int 0, .ref (v 48), .ref (v 49), .ref (v 50), .ref (v 51), .ref (v 52), .ref (v 53), .ref (v 54), .ref (v 55), .ref (v 56), .ref (v 57), .ref (v 58), .ref (v 59), .ref (v 60), .int 0, .int 0, .int 0, .int 0, .int 0, .int 0, .int 0, .ref (v 68), .ref (v 69), .ref (v 70), .ref (v 71), .ref (v 72), .int 0, .int 0, .ref (v 75), .ref (v 76), .ref (v 77), .int 0, .int 0])), (v 51, .inl (k 0, 6, .inl (fun _ => 0)))]
set_option maxRecDepth 100000 in
theorem sub_3 (k : Nat → ClassId) (x : Nat) (u : Nat → Nat → Nat) (y : Nat) (v : Nat → Nat) : List.Sublist (SW3 k x u y v) (G9n k x u ++ G10 k y v) := by
  have h : List.Sublist ((([(x, .inr (9, [.ref (u 0 0), .ref (u 0 1), .ref (u 0 2), .ref (u 0 3), .int 0, .ref (u 0 4), .ref (u 0 17), .ref (u 0 6), .ref (u 0 18), .ref (u 0 19), .ref (u 0 20), .ref (u 0 21)])), (u 0 3, .inl (k 3, 6, .inr (.inr (.inr (.inr (va_up (va_up (va_up (va_up (va_up (va_up (fun _ => none) 0 (some (u 0 7))) 1 (some (u 0 8))) 2 (some (u 0 9))) 3 (some (u 0 10))) 4 (some (u 0 11))) 5 (some (u 0 12))))))))] ++ (((((((((((((((((((([] : va_W) ++ [(u 0 0, .inr (7, [.ref (u 1 0), .int 0, .int 0, .int 0, .int 0, .int 0]))]) ++ ([] : va_W)) ++ [(u 0 2, .inr (5, [.ref (u 0 0), .int 0]))]) ++ [(u 0 7, .inr (4, [.ref (u 4 0), .int 0, .int 0, .int 0, .ref (u 4 1), .long 0]))]) ++ ([] : va_W)) ++ ([] : va_W)) ++ ([] : va_W)) ++ ([] : va_W)) ++ ([] : va_W)) ++ ([] : va_W)) ++ ([] : va_W)) ++ ([] : va_W)) ++ ([] : va_W)) ++ ([] : va_W)) ++ ([] : va_W)) ++ ([] : va_W)) ++ ([] : va_W)) ++ ([] : va_W)) ++ ([] : va_W))) ++ [(y, .inr (10, [.int 0, .ref (v 1), .ref (v 2), .ref (v 3), .ref (v 4), .ref (v 5), .ref (v 6), .ref (v 7), .ref (v 8), .ref (v 9), .ref (v 10), .ref (v 11), .ref (v 12), .ref (v 13), .ref (v 14), .ref (v 15), .ref (v 16), .ref (v 17), .ref (v 18), .ref (v 19), .ref (v 20), .ref (v 21), .ref (v 22), .ref (v 23), .ref (v 24), .ref (v 25), .ref (v 26), .ref (v 27), .ref (v 28), .ref (v 29), .ref (v 30), .ref (v 31), .ref (v 32), .ref (v 33), .ref (v 34), .ref (v 35), .ref (v 36), .int 0, .int 0, .int 0, .int 0, .int 0, .int 0, .int 0, .int 0, .int 0, .int 13, .int 0, .ref (v 48), .ref (v 49), .ref (v 50), .ref (v 51), .ref (v 52), .ref (v 53), .ref (v 54), .ref (v 55), .ref (v 56), .ref (v 57), .ref (v 58), .ref (v 59), .ref (v 60), .int 0, .int 0, .int 0, .int 0, .int 0, .int 0, .int 0, .ref (v 68), .ref (v 69), .ref (v 70), .ref (v 71), .ref (v 72), .int 0, .int 0, .ref (v 75), .ref (v 76), .ref (v 77), .int 0, .int 0])), (v 51, .inl (k 0, 6, .inl (fun _ => 0)))]) : va_W) (G9n k x u ++ G10 k y v) := List.Sublist.append (List.Sublist.append (List.Sublist.cons₂ _ (List.Sublist.cons₂ _ (List.nil_sublist _))) (List.Sublist.append (List.Sublist.append (List.Sublist.append (List.Sublist.append (List.Sublist.append (List.Sublist.append (List.Sublist.append (List.Sublist.append (List.Sublist.append (List.Sublist.append (List.Sublist.append (List.Sublist.append (List.Sublist.append (List.Sublist.append (List.Sublist.append (List.Sublist.append (List.Sublist.append (List.Sublist.append (List.Sublist.append (List.Sublist.refl ([] : va_W)) (List.Sublist.cons₂ _ (List.nil_sublist _))) (List.nil_sublist _)) (List.Sublist.refl _)) (List.Sublist.cons₂ _ (List.nil_sublist _))) (List.nil_sublist _)) (List.nil_sublist _)) (List.nil_sublist _)) (List.nil_sublist _)) (List.nil_sublist _)) (List.nil_sublist _)) (List.nil_sublist _)) (List.nil_sublist _)) (List.nil_sublist _)) (List.nil_sublist _)) (List.nil_sublist _)) (List.nil_sublist _)) (List.nil_sublist _)) (List.nil_sublist _)) (List.nil_sublist _))) (List.Sublist.cons₂ _ (List.Sublist.cons _ (List.Sublist.cons _ (List.Sublist.cons _ (List.Sublist.cons _ (List.Sublist.cons _ (List.Sublist.cons _ (List.Sublist.cons _ (List.Sublist.cons _ (List.Sublist.cons _ (List.Sublist.cons _ (List.Sublist.cons _ (List.Sublist.cons _ (List.Sublist.cons _ (List.Sublist.cons _ (List.Sublist.cons _ (List.Sublist.cons _ (List.Sublist.cons _ (List.Sublist.cons _ (List.Sublist.cons _ (List.Sublist.cons _ (List.Sublist.cons _ (List.Sublist.cons _ (List.Sublist.cons _ (List.Sublist.cons _ (List.Sublist.cons _ (List.Sublist.cons _ (List.Sublist.cons _ (List.Sublist.cons _ (List.Sublist.cons _ (List.Sublist.cons _ (List.Sublist.cons _ (List.Sublist.cons _ (List.Sublist.cons _ (List.Sublist.cons _ (List.Sublist.cons _ (List.Sublist.cons _ (List.Sublist.cons _ (List.Sublist.cons _ (List.Sublist.cons _ (List.Sublist.cons₂ _ (List.nil_sublist _))))))))))))))))))))))))))))))))))))))))))
  have e : SW3 k x u y v = ((([(x, .inr (9, [.ref (u 0 0), .ref (u 0 1), .ref (u 0 2), .ref (u 0 3), .int 0, .ref (u 0 4), .ref (u 0 17), .ref (u 0 6), .ref (u 0 18), .ref (u 0 19), .ref (u 0 20), .ref (u 0 21)])), (u 0 3, .inl (k 3, 6, .inr (.inr (.inr (.inr (va_up (va_up (va_up (va_up (va_up (va_up (fun _ => none) 0 (some (u 0 7))) 1 (some (u 0 8))) 2 (some (u 0 9))) 3 (some (u 0 10))) 4 (some (u 0 11))) 5 (some (u 0 12))))))))] ++ (((((((((((((((((((([] : va_W) ++ [(u 0 0, .inr (7, [.ref (u 1 0), .int 0, .int 0, .int 0, .int 0, .int 0]))]) ++ ([] : va_W)) ++ [(u 0 2, .inr (5, [.ref (u 0 0), .int 0]))]) ++ [(u 0 7, .inr (4, [.ref (u 4 0), .int 0, .int 0, .int 0, .ref (u 4 1), .long 0]))]) ++ ([] : va_W)) ++ ([] : va_W)) ++ ([] : va_W)) ++ ([] : va_W)) ++ ([] : va_W)) ++ ([] : va_W)) ++ ([] : va_W)) ++ ([] : va_W)) ++ ([] : va_W)) ++ ([] : va_W)) ++ ([] : va_W)) ++ ([] : va_W)) ++ ([] : va_W)) ++ ([] : va_W)) ++ ([] : va_W))) ++ [(y, .inr (10, [.int 0, .ref (v 1), .ref (v 2), .ref (v 3), .ref (v 4), .ref (v 5), .ref (v 6), .ref (v 7), .ref (v 8), .ref (v 9), .ref (v 10), .ref (v 11), .ref (v 12), .ref (v 13), .ref (v 14), .ref (v 15), .ref (v 16), .ref (v 17), .ref (v 18), .ref (v 19), .ref (v 20), .ref (v 21), .ref (v 22), .ref (v 23), .ref (v 24), .ref (v 25), .ref (v 26), .ref (v 27), .ref (v 28), .ref (v 29), .ref (v 30), .ref (v 31), .ref (v 32), .ref (v 33), .ref (v 34), .ref (v 35), .ref (v 36), .int 0, .int 0, .int 0, .int 0, .int 0, .int 0, .int 0, .int 0, .int 0, .int 13, .int 0, .ref (v 48), .ref (v 49), .ref (v 50), .ref (v 51), .ref (v 52), .ref (v 53), .ref (v 54), .ref (v 55), .ref (v 56), .ref (v 57), .ref (v 58), .ref (v 59), .ref (v 60), .int 0, .int 0, .int 0, .int 0, .int 0, .int 0, .int 0, .ref (v 68), .ref (v 69), .ref (v 70), .ref (v 71), .ref (v 72), .int 0, .int 0, .ref (v 75), .ref (v 76), .ref (v 77), .int 0, .int 0])), (v 51, .inl (k 0, 6, .inl (fun _ => 0)))]) : va_W) := by simp only [SW3, List.nil_append, List.append_nil, List.cons_append]
  rw [e]
  exact h
set_option maxHeartbeats 4000000 in
set_option maxRecDepth 100000 in
/-- rule -/
theorem lawm_rule {p : Program} {l : Launch} {e : Env} {s : State} {m : MethodId} {below : List Frame} {meth : Method} {c : Code} {D : va_G} {k : Nat → ClassId} {sd : Nat → Nat} {A : Nat → Prop} {b : Nat} {xs : Nat → Int32} {x y : Nat} {u : Nat → Nat → Nat} {v : Nat → Nat} {H : Heap} {locs : List Loc} {ls : Array Slot} (C : LC p s m meth c D k sd A b xs) (hP : va_P D vwCl (SW3 k x u y v) H) (hD : va_D A (SW3 k x u y v)) (hS : va_S A s.heap H locs) (hl : lv_has ls 4 [(0, .ref b), (1, .ref x), (2, .ref y), (3, .int 0)]) : W p l e room_1 s m #[Value.ref b] below meth c H locs 287 18933 (lw_Z below #[Value.ref b] s) (F0 m 323 ls []) := by
  obtain ⟨hx, hb, hr, hml, hown, hw, hXs, hbl, hlocks, hK, hE, hX, hA, hAr, hbA⟩ := id C
  refine lv_aload_n hx hb dL_law_323 rfl (lv_at hl 1 rfl) ?_
  refine x_i (wr := [(y, .inr (10, [.int 0, .ref (v 1), .ref (v 2), .ref (v 3), .ref (v 4), .ref (v 5), .ref (v 6), .ref (v 7), .ref (v 8), .ref (v 9), .ref (v 10), .ref (v 11), .ref (v 12), .ref (v 13), .ref (v 14), .ref (v 15), .ref (v 16), .ref (v 17), .ref (v 18), .ref (v 19), .ref (v 20), .ref (v 21), .ref (v 22), .ref (v 23), .ref (v 24), .ref (v 25), .ref (v 26), .ref (v 27), .ref (v 28), .ref (v 29), .ref (v 30), .ref (v 31), .ref (v 32), .ref (v 33), .ref (v 34), .ref (v 35), .ref (v 36), .int 0, .int 0, .int 0, .int 0, .int 0, .int 0, .int 0, .int 0, .int 0, .int 13, .int 0, .ref (v 48), .ref (v 49), .ref (v 50), .ref (v 51), .ref (v 52), .ref (v 53), .ref (v 54), .ref (v 55), .ref (v 56), .ref (v 57), .ref (v 58), .ref (v 59), .ref (v 60), .int 0, .int 0, .int 0, .int 0, .int 0, .int 0, .int 0, .ref (v 68), .ref (v 69), .ref (v 70), .ref (v 71), .ref (v 72), .int 0, .int 0, .ref (v 75), .ref (v 76), .ref (v 77), .int 0, .int 0])), (v 51, .inl (k 0, 6, .inl (fun _ => 0)))]) (va_runV (As := []) (rest := []) ⟨hx, hb, hml, hown, hw⟩ (kX9_rule l D k sd x (u 0 0) (u 0 1) (u 0 2) (u 0 3) (u 0 4) (u 0 17) (u 0 6) (u 0 18) (u 0 19) (u 0 20) (u 0 21) (u 0 7) (u 0 8) (u 0 9) (u 0 10) (u 0 11) (u 0 12) (u 4 0) (u 4 1) (u 1 0) H.size) (cwV 0 hw (gV wd_599 wd_600 wd_601 wd_1 wd_602) rfl rfl rfl (by decide +kernel) ⟨Nat.le_of_ble_eq_true rfl, Nat.le_of_ble_eq_true rfl⟩) (pre_V (ci := 9) (r := (RX9, TX9, 12)) hK hE hX hP hD hS hA [0, 3, 1, 4, 2] (by decide) rfl rfl (q0 := 0) rfl) rfl rfl hl.1 rfl (lv_room (Nat.le_of_ble_eq_true rfl)) dL_law_324 ⟨Nat.le_of_ble_eq_true rfl, Nat.le_of_ble_eq_true rfl⟩) hP hD hS hA [0, 3, 1, 4, 2] [5, 6] rfl rfl (by decide) (by decide) (fun r_3 u_1 H locs hp_2 hP hD hS => ?_)
  subst hp_2
  have hP : va_P D vwCl ([(y, .inr (10, [.int 0, .ref (v 1), .ref (v 2), .ref (v 3), .ref (v 4), .ref (v 5), .ref (v 6), .ref (v 7), .ref (v 8), .ref (v 9), .ref (v 10), .ref (v 11), .ref (v 12), .ref (v 13), .ref (v 14), .ref (v 15), .ref (v 16), .ref (v 17), .ref (v 18), .ref (v 19), .ref (v 20), .ref (v 21), .ref (v 22), .ref (v 23), .ref (v 24), .ref (v 25), .ref (v 26), .ref (v 27), .ref (v 28), .ref (v 29), .ref (v 30), .ref (v 31), .ref (v 32), .ref (v 33), .ref (v 34), .ref (v 35), .ref (v 36), .int 0, .int 0, .int 0, .int 0, .int 0, .int 0, .int 0, .int 0, .int 0, .int 13, .int 0, .ref (v 48), .ref (v 49), .ref (v 50), .ref (v 51), .ref (v 52), .ref (v 53), .ref (v 54), .ref (v 55), .ref (v 56), .ref (v 57), .ref (v 58), .ref (v 59), .ref (v 60), .int 0, .int 0, .int 0, .int 0, .int 0, .int 0, .int 0, .ref (v 68), .ref (v 69), .ref (v 70), .ref (v 71), .ref (v 72), .int 0, .int 0, .ref (v 75), .ref (v 76), .ref (v 77), .int 0, .int 0])), (v 51, .inl (k 0, 6, .inl (fun _ => 0)))]) H := hP
  have hD : va_D A ([(y, .inr (10, [.int 0, .ref (v 1), .ref (v 2), .ref (v 3), .ref (v 4), .ref (v 5), .ref (v 6), .ref (v 7), .ref (v 8), .ref (v 9), .ref (v 10), .ref (v 11), .ref (v 12), .ref (v 13), .ref (v 14), .ref (v 15), .ref (v 16), .ref (v 17), .ref (v 18), .ref (v 19), .ref (v 20), .ref (v 21), .ref (v 22), .ref (v 23), .ref (v 24), .ref (v 25), .ref (v 26), .ref (v 27), .ref (v 28), .ref (v 29), .ref (v 30), .ref (v 31), .ref (v 32), .ref (v 33), .ref (v 34), .ref (v 35), .ref (v 36), .int 0, .int 0, .int 0, .int 0, .int 0, .int 0, .int 0, .int 0, .int 0, .int 13, .int 0, .ref (v 48), .ref (v 49), .ref (v 50), .ref (v 51), .ref (v 52), .ref (v 53), .ref (v 54), .ref (v 55), .ref (v 56), .ref (v 57), .ref (v 58), .ref (v 59), .ref (v 60), .int 0, .int 0, .int 0, .int 0, .int 0, .int 0, .int 0, .ref (v 68), .ref (v 69), .ref (v 70), .ref (v 71), .ref (v 72), .int 0, .int 0, .ref (v 75), .ref (v 76), .ref (v 77), .int 0, .int 0])), (v 51, .inl (k 0, 6, .inl (fun _ => 0)))]) := hD
  refine lv_aload_n hx hb dL_law_327 rfl (lv_at hl 2 rfl) ?_
  refine x_i (wr := ([] : va_W)) (va_runV (As := []) (rest := [.int (-3)]) ⟨hx, hb, hml, hown, hw⟩ (kX10_rule l D k sd y v  H.size) (cwV 0 hw (gV wd_1469 wd_1470 wd_1471 wd_11 wd_1472) rfl rfl rfl (by decide +kernel) ⟨Nat.le_of_ble_eq_true rfl, Nat.le_of_ble_eq_true rfl⟩) (pre_V (ci := 10) (r := (RX10, TX10, 80)) hK hE hX hP hD hS hA [0, 1] (by decide) rfl rfl (q0 := 0) rfl) rfl rfl hl.1 rfl (lv_room (Nat.le_of_ble_eq_true rfl)) dL_law_328 ⟨Nat.le_of_ble_eq_true rfl, Nat.le_of_ble_eq_true rfl⟩) hP hD hS hA [0, 1] [] rfl rfl (by decide) (by decide) (fun r_6 u_4 H locs hp_5 hP hD hS => ?_)
  subst hp_5
  have hP : va_P D vwCl (([] : va_W)) H := hP
  have hD : va_D A (([] : va_W)) := hD
  refine lv_icmp_eq (tgt := 1566) hx hb dL_law_331 (by decide) (fun _ => ?_) (fun h => absurd (by decide) h)
  exact law_end C hS (lv_sub hl [0, 1, 2, 3] rfl)
set_option maxHeartbeats 4000000 in
set_option maxRecDepth 100000 in
/-- force -/
theorem lawm_force {p : Program} {l : Launch} {e : Env} {s : State} {m : MethodId} {below : List Frame} {meth : Method} {c : Code} {D : va_G} {k : Nat → ClassId} {sd : Nat → Nat} {A : Nat → Prop} {b : Nat} {xs : Nat → Int32} {x y : Nat} {u : Nat → Nat → Nat} {v : Nat → Nat} {H : Heap} {locs : List Loc} {ls : Array Slot} (C : LC p s m meth c D k sd A b xs) (hP : va_P D vwCl (SW1 k x u y v) H) (hD : va_D A (SW1 k x u y v)) (hS : va_S A s.heap H locs) (hl : lv_has ls 4 [(0, .ref b), (1, .ref x), (2, .ref y), (3, .int 0)]) : W p l e room_1 s m #[Value.ref b] below meth c H locs 287 18933 (lw_Z below #[Value.ref b] s) (F0 m 336 ls []) := by
  obtain ⟨hx, hb, hr, hml, hown, hw, hXs, hbl, hlocks, hK, hE, hX, hA, hAr, hbA⟩ := id C
  refine lv_aload_n hx hb dL_law_336 rfl (lv_at hl 1 rfl) ?_
  refine lv_aload_n hx hb dL_law_337 rfl (lv_at hl 0 rfl) ?_
  refine lv_iload_n hx hb dL_law_338 rfl (lv_at hl 3 rfl) ?_
  refine lv_iconst (v := 1) hx hb dL_law_339 (by decide) ?_
  refine lv_iadd hx hb dL_law_340 ?_
  refine x_top (v := 1) (by decide) ?_
  refine va_sld hx hb hXs hbl hbA hS (i := 1) (by unfold vp_in; decide) dL_law_341 ?_
  refine x_top (v := xs 1) rfl ?_
  refine x_i (wr := C10 k y v) (va_runV (As := [.int (xs 1)]) (rest := []) ⟨hx, hb, hml, hown, hw⟩ (kX9_force l D k sd x u (xs 1) H.size) (cwV 1 hw (gV wd_665 wd_666 wd_667 wd_1 wd_668) rfl rfl rfl (by decide +kernel) ⟨Nat.le_of_ble_eq_true rfl, Nat.le_of_ble_eq_true rfl⟩) (pre_V (ci := 9) (r := (RX9, TX9, 12)) hK hE hX hP hD hS hA [0, 3, 2, 4, 5, 1] (by decide) rfl rfl (q0 := 0) rfl) rfl rfl hl.1 rfl (lv_room (Nat.le_of_ble_eq_true rfl)) dL_law_342 ⟨Nat.le_of_ble_eq_true rfl, Nat.le_of_ble_eq_true rfl⟩) hP hD hS hA [0, 3, 2, 4, 5, 1] [6, 7] rfl rfl (by decide) (by decide) (fun r_3 u_1 H locs hp_2 hP hD hS => ?_)
  subst hp_2
  have hP : va_P D vwCl (C10 k y v) H := hP
  have hD : va_D A (C10 k y v) := hD
  refine lv_aload_n hx hb dL_law_345 rfl (lv_at hl 2 rfl) ?_
  refine lv_aload_n hx hb dL_law_346 rfl (lv_at hl 0 rfl) ?_
  refine lv_iload_n hx hb dL_law_347 rfl (lv_at hl 3 rfl) ?_
  refine lv_iconst (v := 1) hx hb dL_law_348 (by decide) ?_
  refine lv_iadd hx hb dL_law_349 ?_
  refine x_top (v := 1) (by decide) ?_
  refine va_sld hx hb hXs hbl hbA hS (i := 1) (by unfold vp_in; decide) dL_law_350 ?_
  refine x_top (v := xs 1) rfl ?_
  refine x_i (wr := ([] : va_W)) (va_runV (As := [.int (xs 1)]) (rest := [.int (-2)]) ⟨hx, hb, hml, hown, hw⟩ (kX10_force l D k sd y v (xs 1) H.size) (cwV 1 hw (gV wd_1550 wd_1551 wd_1552 wd_11 wd_1553) rfl rfl rfl (by decide +kernel) ⟨Nat.le_of_ble_eq_true rfl, Nat.le_of_ble_eq_true rfl⟩) (pre_V (ci := 10) (r := (RX10, TX10, 80)) hK hE hX hP hD hS hA [0, 1] (by decide) rfl rfl (q0 := 0) rfl) rfl rfl hl.1 rfl (lv_room (Nat.le_of_ble_eq_true rfl)) dL_law_351 ⟨Nat.le_of_ble_eq_true rfl, Nat.le_of_ble_eq_true rfl⟩) hP hD hS hA [0, 1] [] rfl rfl (by decide) (by decide) (fun r_6 u_4 H locs hp_5 hP hD hS => ?_)
  subst hp_5
  have hP : va_P D vwCl (([] : va_W)) H := hP
  have hD : va_D A (([] : va_W)) := hD
  refine lv_icmp_eq (tgt := 1566) hx hb dL_law_354 (by decide) (fun _ => ?_) (fun h => absurd (by decide) h)
  exact law_end C hS (lv_sub hl [0, 1, 2, 3] rfl)
set_option maxHeartbeats 4000000 in
set_option maxRecDepth 100000 in
/-- bind -/
theorem lawm_bind {p : Program} {l : Launch} {e : Env} {s : State} {m : MethodId} {below : List Frame} {meth : Method} {c : Code} {D : va_G} {k : Nat → ClassId} {sd : Nat → Nat} {A : Nat → Prop} {b : Nat} {xs : Nat → Int32} {x y : Nat} {u : Nat → Nat → Nat} {v : Nat → Nat} {H : Heap} {locs : List Loc} {ls : Array Slot} (C : LC p s m meth c D k sd A b xs) (hP : va_P D vwCl (SW1 k x u y v) H) (hD : va_D A (SW1 k x u y v)) (hS : va_S A s.heap H locs) (hl : lv_has ls 4 [(0, .ref b), (1, .ref x), (2, .ref y), (3, .int 0)]) : W p l e room_1 s m #[Value.ref b] below meth c H locs 287 18933 (lw_Z below #[Value.ref b] s) (F0 m 359 ls []) := by
  obtain ⟨hx, hb, hr, hml, hown, hw, hXs, hbl, hlocks, hK, hE, hX, hA, hAr, hbA⟩ := id C
  refine lv_aload_n hx hb dL_law_359 rfl (lv_at hl 1 rfl) ?_
  refine lv_aload_n hx hb dL_law_360 rfl (lv_at hl 0 rfl) ?_
  refine lv_iload_n hx hb dL_law_361 rfl (lv_at hl 3 rfl) ?_
  refine lv_iconst (v := 1) hx hb dL_law_362 (by decide) ?_
  refine lv_iadd hx hb dL_law_363 ?_
  refine x_top (v := 1) (by decide) ?_
  refine va_sld hx hb hXs hbl hbA hS (i := 1) (by unfold vp_in; decide) dL_law_364 ?_
  refine x_top (v := xs 1) rfl ?_
  refine lv_aload_n hx hb dL_law_365 rfl (lv_at hl 0 rfl) ?_
  refine lv_iload_n hx hb dL_law_366 rfl (lv_at hl 3 rfl) ?_
  refine lv_iconst (v := 2) hx hb dL_law_367 (by decide) ?_
  refine lv_iadd hx hb dL_law_368 ?_
  refine x_top (v := 2) (by decide) ?_
  refine va_sld hx hb hXs hbl hbA hS (i := 2) (by unfold vp_in; decide) dL_law_369 ?_
  refine x_top (v := xs 2) rfl ?_
  refine x_i (wr := C10 k y v) (va_runV (As := [.int (xs 1), .int (xs 2)]) (rest := []) ⟨hx, hb, hml, hown, hw⟩ (kX9_bind l D k sd x u (xs 1) (xs 2) H.size) (cwV 2 hw (gV wd_681 wd_682 wd_683 wd_1 wd_684) rfl rfl rfl (by decide +kernel) ⟨Nat.le_of_ble_eq_true rfl, Nat.le_of_ble_eq_true rfl⟩) (pre_V (ci := 9) (r := (RX9, TX9, 12)) hK hE hX hP hD hS hA [0, 3, 2, 4, 5, 1] (by decide) rfl rfl (q0 := 0) rfl) rfl rfl hl.1 rfl (lv_room (Nat.le_of_ble_eq_true rfl)) dL_law_370 ⟨Nat.le_of_ble_eq_true rfl, Nat.le_of_ble_eq_true rfl⟩) hP hD hS hA [0, 3, 2, 4, 5, 1] [6, 7] rfl rfl (by decide) (by decide) (fun r_3 u_1 H locs hp_2 hP hD hS => ?_)
  subst hp_2
  have hP : va_P D vwCl (C10 k y v) H := hP
  have hD : va_D A (C10 k y v) := hD
  refine lv_aload_n hx hb dL_law_373 rfl (lv_at hl 2 rfl) ?_
  refine lv_aload_n hx hb dL_law_374 rfl (lv_at hl 0 rfl) ?_
  refine lv_iload_n hx hb dL_law_375 rfl (lv_at hl 3 rfl) ?_
  refine lv_iconst (v := 1) hx hb dL_law_376 (by decide) ?_
  refine lv_iadd hx hb dL_law_377 ?_
  refine x_top (v := 1) (by decide) ?_
  refine va_sld hx hb hXs hbl hbA hS (i := 1) (by unfold vp_in; decide) dL_law_378 ?_
  refine x_top (v := xs 1) rfl ?_
  refine lv_aload_n hx hb dL_law_379 rfl (lv_at hl 0 rfl) ?_
  refine lv_iload_n hx hb dL_law_380 rfl (lv_at hl 3 rfl) ?_
  refine lv_iconst (v := 2) hx hb dL_law_381 (by decide) ?_
  refine lv_iadd hx hb dL_law_382 ?_
  refine x_top (v := 2) (by decide) ?_
  refine va_sld hx hb hXs hbl hbA hS (i := 2) (by unfold vp_in; decide) dL_law_383 ?_
  refine x_top (v := xs 2) rfl ?_
  refine x_i (wr := ([] : va_W)) (va_runV (As := [.int (xs 1), .int (xs 2)]) (rest := [.int (-2)]) ⟨hx, hb, hml, hown, hw⟩ (kX10_bind l D k sd y v (xs 1) (xs 2) H.size) (cwV 2 hw (gV wd_1563 wd_1564 wd_1565 wd_11 wd_1566) rfl rfl rfl (by decide +kernel) ⟨Nat.le_of_ble_eq_true rfl, Nat.le_of_ble_eq_true rfl⟩) (pre_V (ci := 10) (r := (RX10, TX10, 80)) hK hE hX hP hD hS hA [0, 1] (by decide) rfl rfl (q0 := 0) rfl) rfl rfl hl.1 rfl (lv_room (Nat.le_of_ble_eq_true rfl)) dL_law_384 ⟨Nat.le_of_ble_eq_true rfl, Nat.le_of_ble_eq_true rfl⟩) hP hD hS hA [0, 1] [] rfl rfl (by decide) (by decide) (fun r_6 u_4 H locs hp_5 hP hD hS => ?_)
  subst hp_5
  have hP : va_P D vwCl (([] : va_W)) H := hP
  have hD : va_D A (([] : va_W)) := hD
  refine lv_icmp_eq (tgt := 1566) hx hb dL_law_387 (by decide) (fun _ => ?_) (fun h => absurd (by decide) h)
  exact law_end C hS (lv_sub hl [0, 1, 2, 3] rfl)
set_option maxHeartbeats 4000000 in
set_option maxRecDepth 100000 in
/-- law -/
theorem lawm_law {p : Program} {l : Launch} {e : Env} {s : State} {m : MethodId} {below : List Frame} {meth : Method} {c : Code} {D : va_G} {k : Nat → ClassId} {sd : Nat → Nat} {A : Nat → Prop} {b : Nat} {xs : Nat → Int32} {x y : Nat} {u : Nat → Nat → Nat} {v : Nat → Nat} {H : Heap} {locs : List Loc} {ls : Array Slot} (C : LC p s m meth c D k sd A b xs) (hP : va_P D vwCl (SW1 k x u y v) H) (hD : va_D A (SW1 k x u y v)) (hS : va_S A s.heap H locs) (hl : lv_has ls 4 [(0, .ref b), (1, .ref x), (2, .ref y), (3, .int 0)]) : W p l e room_1 s m #[Value.ref b] below meth c H locs 287 18933 (lw_Z below #[Value.ref b] s) (F0 m 392 ls []) := by
  obtain ⟨hx, hb, hr, hml, hown, hw, hXs, hbl, hlocks, hK, hE, hX, hA, hAr, hbA⟩ := id C
  refine lv_aload_n hx hb dL_law_392 rfl (lv_at hl 1 rfl) ?_
  refine lv_aload_n hx hb dL_law_393 rfl (lv_at hl 0 rfl) ?_
  refine lv_iload_n hx hb dL_law_394 rfl (lv_at hl 3 rfl) ?_
  refine lv_iconst (v := 1) hx hb dL_law_395 (by decide) ?_
  refine lv_iadd hx hb dL_law_396 ?_
  refine x_top (v := 1) (by decide) ?_
  refine va_sld hx hb hXs hbl hbA hS (i := 1) (by unfold vp_in; decide) dL_law_397 ?_
  refine x_top (v := xs 1) rfl ?_
  refine lv_aload_n hx hb dL_law_398 rfl (lv_at hl 0 rfl) ?_
  refine lv_iload_n hx hb dL_law_399 rfl (lv_at hl 3 rfl) ?_
  refine lv_iconst (v := 2) hx hb dL_law_400 (by decide) ?_
  refine lv_iadd hx hb dL_law_401 ?_
  refine x_top (v := 2) (by decide) ?_
  refine va_sld hx hb hXs hbl hbA hS (i := 2) (by unfold vp_in; decide) dL_law_402 ?_
  refine x_top (v := xs 2) rfl ?_
  refine x_i (wr := C10 k y v) (va_runV (As := [.int (xs 1), .int (xs 2)]) (rest := []) ⟨hx, hb, hml, hown, hw⟩ (kX9_law l D k sd x u (xs 1) (xs 2) H.size) (cwV 2 hw (gV wd_689 wd_690 wd_691 wd_1 wd_692) rfl rfl rfl (by decide +kernel) ⟨Nat.le_of_ble_eq_true rfl, Nat.le_of_ble_eq_true rfl⟩) (pre_V (ci := 9) (r := (RX9, TX9, 12)) hK hE hX hP hD hS hA [0, 3, 2, 4, 5, 1] (by decide) rfl rfl (q0 := 0) rfl) rfl rfl hl.1 rfl (lv_room (Nat.le_of_ble_eq_true rfl)) dL_law_403 ⟨Nat.le_of_ble_eq_true rfl, Nat.le_of_ble_eq_true rfl⟩) hP hD hS hA [0, 3, 2, 4, 5, 1] [6, 7] rfl rfl (by decide) (by decide) (fun r_3 u_1 H locs hp_2 hP hD hS => ?_)
  subst hp_2
  have hP : va_P D vwCl (C10 k y v) H := hP
  have hD : va_D A (C10 k y v) := hD
  refine lv_aload_n hx hb dL_law_406 rfl (lv_at hl 2 rfl) ?_
  refine lv_aload_n hx hb dL_law_407 rfl (lv_at hl 0 rfl) ?_
  refine lv_iload_n hx hb dL_law_408 rfl (lv_at hl 3 rfl) ?_
  refine lv_iconst (v := 1) hx hb dL_law_409 (by decide) ?_
  refine lv_iadd hx hb dL_law_410 ?_
  refine x_top (v := 1) (by decide) ?_
  refine va_sld hx hb hXs hbl hbA hS (i := 1) (by unfold vp_in; decide) dL_law_411 ?_
  refine x_top (v := xs 1) rfl ?_
  refine lv_aload_n hx hb dL_law_412 rfl (lv_at hl 0 rfl) ?_
  refine lv_iload_n hx hb dL_law_413 rfl (lv_at hl 3 rfl) ?_
  refine lv_iconst (v := 2) hx hb dL_law_414 (by decide) ?_
  refine lv_iadd hx hb dL_law_415 ?_
  refine x_top (v := 2) (by decide) ?_
  refine va_sld hx hb hXs hbl hbA hS (i := 2) (by unfold vp_in; decide) dL_law_416 ?_
  refine x_top (v := xs 2) rfl ?_
  refine x_i (wr := ([] : va_W)) (va_runV (As := [.int (xs 1), .int (xs 2)]) (rest := [.int (-2)]) ⟨hx, hb, hml, hown, hw⟩ (kX10_law l D k sd y v (xs 1) (xs 2) H.size) (cwV 2 hw (gV wd_1571 wd_1572 wd_1573 wd_11 wd_1574) rfl rfl rfl (by decide +kernel) ⟨Nat.le_of_ble_eq_true rfl, Nat.le_of_ble_eq_true rfl⟩) (pre_V (ci := 10) (r := (RX10, TX10, 80)) hK hE hX hP hD hS hA [0, 1] (by decide) rfl rfl (q0 := 0) rfl) rfl rfl hl.1 rfl (lv_room (Nat.le_of_ble_eq_true rfl)) dL_law_417 ⟨Nat.le_of_ble_eq_true rfl, Nat.le_of_ble_eq_true rfl⟩) hP hD hS hA [0, 1] [] rfl rfl (by decide) (by decide) (fun r_6 u_4 H locs hp_5 hP hD hS => ?_)
  subst hp_5
  have hP : va_P D vwCl (([] : va_W)) H := hP
  have hD : va_D A (([] : va_W)) := hD
  refine lv_icmp_eq (tgt := 1566) hx hb dL_law_420 (by decide) (fun _ => ?_) (fun h => absurd (by decide) h)
  exact law_end C hS (lv_sub hl [0, 1, 2, 3] rfl)
set_option maxHeartbeats 4000000 in
set_option maxRecDepth 100000 in
/-- bend -/
theorem lawm_bend {p : Program} {l : Launch} {e : Env} {s : State} {m : MethodId} {below : List Frame} {meth : Method} {c : Code} {D : va_G} {k : Nat → ClassId} {sd : Nat → Nat} {A : Nat → Prop} {b : Nat} {xs : Nat → Int32} {x y : Nat} {u : Nat → Nat → Nat} {v : Nat → Nat} {H : Heap} {locs : List Loc} {ls : Array Slot} (C : LC p s m meth c D k sd A b xs) (hP : va_P D vwCl (SW1 k x u y v) H) (hD : va_D A (SW1 k x u y v)) (hS : va_S A s.heap H locs) (hl : lv_has ls 4 [(0, .ref b), (1, .ref x), (2, .ref y), (3, .int 0)]) : W p l e room_1 s m #[Value.ref b] below meth c H locs 287 18933 (lw_Z below #[Value.ref b] s) (F0 m 425 ls []) := by
  obtain ⟨hx, hb, hr, hml, hown, hw, hXs, hbl, hlocks, hK, hE, hX, hA, hAr, hbA⟩ := id C
  refine lv_aload_n hx hb dL_law_425 rfl (lv_at hl 1 rfl) ?_
  refine lv_aload_n hx hb dL_law_426 rfl (lv_at hl 0 rfl) ?_
  refine lv_iload_n hx hb dL_law_427 rfl (lv_at hl 3 rfl) ?_
  refine lv_iconst (v := 1) hx hb dL_law_428 (by decide) ?_
  refine lv_iadd hx hb dL_law_429 ?_
  refine x_top (v := 1) (by decide) ?_
  refine va_sld hx hb hXs hbl hbA hS (i := 1) (by unfold vp_in; decide) dL_law_430 ?_
  refine x_top (v := xs 1) rfl ?_
  refine lv_aload_n hx hb dL_law_431 rfl (lv_at hl 0 rfl) ?_
  refine lv_iload_n hx hb dL_law_432 rfl (lv_at hl 3 rfl) ?_
  refine lv_iconst (v := 2) hx hb dL_law_433 (by decide) ?_
  refine lv_iadd hx hb dL_law_434 ?_
  refine x_top (v := 2) (by decide) ?_
  refine va_sld hx hb hXs hbl hbA hS (i := 2) (by unfold vp_in; decide) dL_law_435 ?_
  refine x_top (v := xs 2) rfl ?_
  refine x_i (wr := C10 k y v) (va_runV (As := [.int (xs 1), .int (xs 2)]) (rest := []) ⟨hx, hb, hml, hown, hw⟩ (kX9_bend l D k sd x u (xs 1) (xs 2) H.size) (cwV 2 hw (gV wd_693 wd_694 wd_695 wd_1 wd_696) rfl rfl rfl (by decide +kernel) ⟨Nat.le_of_ble_eq_true rfl, Nat.le_of_ble_eq_true rfl⟩) (pre_V (ci := 9) (r := (RX9, TX9, 12)) hK hE hX hP hD hS hA [0, 3, 2, 4, 5, 1] (by decide) rfl rfl (q0 := 0) rfl) rfl rfl hl.1 rfl (lv_room (Nat.le_of_ble_eq_true rfl)) dL_law_436 ⟨Nat.le_of_ble_eq_true rfl, Nat.le_of_ble_eq_true rfl⟩) hP hD hS hA [0, 3, 2, 4, 5, 1] [6, 7] rfl rfl (by decide) (by decide) (fun r_3 u_1 H locs hp_2 hP hD hS => ?_)
  subst hp_2
  have hP : va_P D vwCl (C10 k y v) H := hP
  have hD : va_D A (C10 k y v) := hD
  refine lv_aload_n hx hb dL_law_439 rfl (lv_at hl 2 rfl) ?_
  refine lv_aload_n hx hb dL_law_440 rfl (lv_at hl 0 rfl) ?_
  refine lv_iload_n hx hb dL_law_441 rfl (lv_at hl 3 rfl) ?_
  refine lv_iconst (v := 1) hx hb dL_law_442 (by decide) ?_
  refine lv_iadd hx hb dL_law_443 ?_
  refine x_top (v := 1) (by decide) ?_
  refine va_sld hx hb hXs hbl hbA hS (i := 1) (by unfold vp_in; decide) dL_law_444 ?_
  refine x_top (v := xs 1) rfl ?_
  refine lv_aload_n hx hb dL_law_445 rfl (lv_at hl 0 rfl) ?_
  refine lv_iload_n hx hb dL_law_446 rfl (lv_at hl 3 rfl) ?_
  refine lv_iconst (v := 2) hx hb dL_law_447 (by decide) ?_
  refine lv_iadd hx hb dL_law_448 ?_
  refine x_top (v := 2) (by decide) ?_
  refine va_sld hx hb hXs hbl hbA hS (i := 2) (by unfold vp_in; decide) dL_law_449 ?_
  refine x_top (v := xs 2) rfl ?_
  refine x_i (wr := ([] : va_W)) (va_runV (As := [.int (xs 1), .int (xs 2)]) (rest := [.int (-1)]) ⟨hx, hb, hml, hown, hw⟩ (kX10_bend l D k sd y v (xs 1) (xs 2) H.size) (cwV 2 hw (gV wd_1576 wd_1577 wd_1578 wd_11 wd_1579) rfl rfl rfl (by decide +kernel) ⟨Nat.le_of_ble_eq_true rfl, Nat.le_of_ble_eq_true rfl⟩) (pre_V (ci := 10) (r := (RX10, TX10, 80)) hK hE hX hP hD hS hA [0, 1] (by decide) rfl rfl (q0 := 0) rfl) rfl rfl hl.1 rfl (lv_room (Nat.le_of_ble_eq_true rfl)) dL_law_450 ⟨Nat.le_of_ble_eq_true rfl, Nat.le_of_ble_eq_true rfl⟩) hP hD hS hA [0, 1] [] rfl rfl (by decide) (by decide) (fun r_6 u_4 H locs hp_5 hP hD hS => ?_)
  subst hp_5
  have hP : va_P D vwCl (([] : va_W)) H := hP
  have hD : va_D A (([] : va_W)) := hD
  refine lv_icmp_eq (tgt := 1566) hx hb dL_law_453 (by decide) (fun _ => ?_) (fun h => absurd (by decide) h)
  exact law_end C hS (lv_sub hl [0, 1, 2, 3] rfl)
set_option maxHeartbeats 4000000 in
set_option maxRecDepth 100000 in
/-- village -/
theorem lawm_village {p : Program} {l : Launch} {e : Env} {s : State} {m : MethodId} {below : List Frame} {meth : Method} {c : Code} {D : va_G} {k : Nat → ClassId} {sd : Nat → Nat} {A : Nat → Prop} {b : Nat} {xs : Nat → Int32} {x y : Nat} {u : Nat → Nat → Nat} {v : Nat → Nat} {H : Heap} {locs : List Loc} {ls : Array Slot} (C : LC p s m meth c D k sd A b xs) (hP : va_P D vwCl (SW1 k x u y v) H) (hD : va_D A (SW1 k x u y v)) (hS : va_S A s.heap H locs) (hl : lv_has ls 4 [(0, .ref b), (1, .ref x), (2, .ref y), (3, .int 0)]) : W p l e room_1 s m #[Value.ref b] below meth c H locs 287 18933 (lw_Z below #[Value.ref b] s) (F0 m 458 ls []) := by
  obtain ⟨hx, hb, hr, hml, hown, hw, hXs, hbl, hlocks, hK, hE, hX, hA, hAr, hbA⟩ := id C
  refine lv_aload_n hx hb dL_law_458 rfl (lv_at hl 1 rfl) ?_
  refine lv_aload_n hx hb dL_law_459 rfl (lv_at hl 0 rfl) ?_
  refine lv_iload_n hx hb dL_law_460 rfl (lv_at hl 3 rfl) ?_
  refine lv_iconst (v := 1) hx hb dL_law_461 (by decide) ?_
  refine lv_iadd hx hb dL_law_462 ?_
  refine x_top (v := 1) (by decide) ?_
  refine va_sld hx hb hXs hbl hbA hS (i := 1) (by unfold vp_in; decide) dL_law_463 ?_
  refine x_top (v := xs 1) rfl ?_
  refine lv_aload_n hx hb dL_law_464 rfl (lv_at hl 0 rfl) ?_
  refine lv_iload_n hx hb dL_law_465 rfl (lv_at hl 3 rfl) ?_
  refine lv_iconst (v := 2) hx hb dL_law_466 (by decide) ?_
  refine lv_iadd hx hb dL_law_467 ?_
  refine x_top (v := 2) (by decide) ?_
  refine va_sld hx hb hXs hbl hbA hS (i := 2) (by unfold vp_in; decide) dL_law_468 ?_
  refine x_top (v := xs 2) rfl ?_
  refine x_i (wr := C10 k y v) (va_runV (As := [.int (xs 1), .int (xs 2)]) (rest := []) ⟨hx, hb, hml, hown, hw⟩ (kX9_village l D k sd x u (xs 1) (xs 2) H.size) (cwV 2 hw (gV wd_719 wd_720 wd_721 wd_1 wd_722) rfl rfl rfl (by decide +kernel) ⟨Nat.le_of_ble_eq_true rfl, Nat.le_of_ble_eq_true rfl⟩) (pre_V (ci := 9) (r := (RX9, TX9, 12)) hK hE hX hP hD hS hA [0, 3, 2, 4, 5, 1] (by decide) rfl rfl (q0 := 0) rfl) rfl rfl hl.1 rfl (lv_room (Nat.le_of_ble_eq_true rfl)) dL_law_469 ⟨Nat.le_of_ble_eq_true rfl, Nat.le_of_ble_eq_true rfl⟩) hP hD hS hA [0, 3, 2, 4, 5, 1] [6, 7] rfl rfl (by decide) (by decide) (fun r_3 u_1 H locs hp_2 hP hD hS => ?_)
  subst hp_2
  have hP : va_P D vwCl (C10 k y v) H := hP
  have hD : va_D A (C10 k y v) := hD
  refine lv_aload_n hx hb dL_law_472 rfl (lv_at hl 2 rfl) ?_
  refine lv_aload_n hx hb dL_law_473 rfl (lv_at hl 0 rfl) ?_
  refine lv_iload_n hx hb dL_law_474 rfl (lv_at hl 3 rfl) ?_
  refine lv_iconst (v := 1) hx hb dL_law_475 (by decide) ?_
  refine lv_iadd hx hb dL_law_476 ?_
  refine x_top (v := 1) (by decide) ?_
  refine va_sld hx hb hXs hbl hbA hS (i := 1) (by unfold vp_in; decide) dL_law_477 ?_
  refine x_top (v := xs 1) rfl ?_
  refine lv_aload_n hx hb dL_law_478 rfl (lv_at hl 0 rfl) ?_
  refine lv_iload_n hx hb dL_law_479 rfl (lv_at hl 3 rfl) ?_
  refine lv_iconst (v := 2) hx hb dL_law_480 (by decide) ?_
  refine lv_iadd hx hb dL_law_481 ?_
  refine x_top (v := 2) (by decide) ?_
  refine va_sld hx hb hXs hbl hbA hS (i := 2) (by unfold vp_in; decide) dL_law_482 ?_
  refine x_top (v := xs 2) rfl ?_
  refine x_i (wr := ([] : va_W)) (va_runV (As := [.int (xs 1), .int (xs 2)]) (rest := [.int (-1000000)]) ⟨hx, hb, hml, hown, hw⟩ (kX10_village l D k sd y v (xs 1) (xs 2) H.size) (cwV 2 hw (gV wd_1595 wd_1596 wd_1597 wd_11 wd_1598) rfl rfl rfl (by decide +kernel) ⟨Nat.le_of_ble_eq_true rfl, Nat.le_of_ble_eq_true rfl⟩) (pre_V (ci := 10) (r := (RX10, TX10, 80)) hK hE hX hP hD hS hA [0, 1] (by decide) rfl rfl (q0 := 0) rfl) rfl rfl hl.1 rfl (lv_room (Nat.le_of_ble_eq_true rfl)) dL_law_483 ⟨Nat.le_of_ble_eq_true rfl, Nat.le_of_ble_eq_true rfl⟩) hP hD hS hA [0, 1] [] rfl rfl (by decide) (by decide) (fun r_6 u_4 H locs hp_5 hP hD hS => ?_)
  subst hp_5
  have hP : va_P D vwCl (([] : va_W)) H := hP
  have hD : va_D A (([] : va_W)) := hD
  refine lv_icmp_eq (tgt := 1566) hx hb dL_law_486 (by decide) (fun _ => ?_) (fun h => absurd (by decide) h)
  exact law_end C hS (lv_sub hl [0, 1, 2, 3] rfl)
set_option maxHeartbeats 4000000 in
set_option maxRecDepth 100000 in
/-- log -/
theorem lawm_log {p : Program} {l : Launch} {e : Env} {s : State} {m : MethodId} {below : List Frame} {meth : Method} {c : Code} {D : va_G} {k : Nat → ClassId} {sd : Nat → Nat} {A : Nat → Prop} {b : Nat} {xs : Nat → Int32} {x y : Nat} {u : Nat → Nat → Nat} {v : Nat → Nat} {H : Heap} {locs : List Loc} {ls : Array Slot} (C : LC p s m meth c D k sd A b xs) (hP : va_P D vwCl (SW1 k x u y v) H) (hD : va_D A (SW1 k x u y v)) (hS : va_S A s.heap H locs) (hl : lv_has ls 4 [(0, .ref b), (1, .ref x), (2, .ref y), (3, .int 0)]) : W p l e room_1 s m #[Value.ref b] below meth c H locs 287 18933 (lw_Z below #[Value.ref b] s) (F0 m 491 ls []) := by
  obtain ⟨hx, hb, hr, hml, hown, hw, hXs, hbl, hlocks, hK, hE, hX, hA, hAr, hbA⟩ := id C
  refine lv_aload_n hx hb dL_law_491 rfl (lv_at hl 1 rfl) ?_
  refine lv_aload_n hx hb dL_law_492 rfl (lv_at hl 0 rfl) ?_
  refine lv_iload_n hx hb dL_law_493 rfl (lv_at hl 3 rfl) ?_
  refine lv_iconst (v := 1) hx hb dL_law_494 (by decide) ?_
  refine lv_iadd hx hb dL_law_495 ?_
  refine x_top (v := 1) (by decide) ?_
  refine va_sld hx hb hXs hbl hbA hS (i := 1) (by unfold vp_in; decide) dL_law_496 ?_
  refine x_top (v := xs 1) rfl ?_
  refine lv_aload_n hx hb dL_law_497 rfl (lv_at hl 0 rfl) ?_
  refine lv_iload_n hx hb dL_law_498 rfl (lv_at hl 3 rfl) ?_
  refine lv_iconst (v := 2) hx hb dL_law_499 (by decide) ?_
  refine lv_iadd hx hb dL_law_500 ?_
  refine x_top (v := 2) (by decide) ?_
  refine va_sld hx hb hXs hbl hbA hS (i := 2) (by unfold vp_in; decide) dL_law_501 ?_
  refine x_top (v := xs 2) rfl ?_
  refine x_i (wr := C10 k y v) (va_runV (As := [.int (xs 1), .int (xs 2)]) (rest := []) ⟨hx, hb, hml, hown, hw⟩ (kX9_log l D k sd x u (xs 1) (xs 2) H.size) (cwV 2 hw (gV wd_765 wd_766 wd_767 wd_1 wd_768) rfl rfl rfl (by decide +kernel) ⟨Nat.le_of_ble_eq_true rfl, Nat.le_of_ble_eq_true rfl⟩) (pre_V (ci := 9) (r := (RX9, TX9, 12)) hK hE hX hP hD hS hA [0, 3, 2, 4, 5, 1] (by decide) rfl rfl (q0 := 0) rfl) rfl rfl hl.1 rfl (lv_room (Nat.le_of_ble_eq_true rfl)) dL_law_502 ⟨Nat.le_of_ble_eq_true rfl, Nat.le_of_ble_eq_true rfl⟩) hP hD hS hA [0, 3, 2, 4, 5, 1] [6, 7] rfl rfl (by decide) (by decide) (fun r_3 u_1 H locs hp_2 hP hD hS => ?_)
  subst hp_2
  have hP : va_P D vwCl (C10 k y v) H := hP
  have hD : va_D A (C10 k y v) := hD
  refine lv_aload_n hx hb dL_law_505 rfl (lv_at hl 2 rfl) ?_
  refine lv_aload_n hx hb dL_law_506 rfl (lv_at hl 0 rfl) ?_
  refine lv_iload_n hx hb dL_law_507 rfl (lv_at hl 3 rfl) ?_
  refine lv_iconst (v := 1) hx hb dL_law_508 (by decide) ?_
  refine lv_iadd hx hb dL_law_509 ?_
  refine x_top (v := 1) (by decide) ?_
  refine va_sld hx hb hXs hbl hbA hS (i := 1) (by unfold vp_in; decide) dL_law_510 ?_
  refine x_top (v := xs 1) rfl ?_
  refine lv_aload_n hx hb dL_law_511 rfl (lv_at hl 0 rfl) ?_
  refine lv_iload_n hx hb dL_law_512 rfl (lv_at hl 3 rfl) ?_
  refine lv_iconst (v := 2) hx hb dL_law_513 (by decide) ?_
  refine lv_iadd hx hb dL_law_514 ?_
  refine x_top (v := 2) (by decide) ?_
  refine va_sld hx hb hXs hbl hbA hS (i := 2) (by unfold vp_in; decide) dL_law_515 ?_
  refine x_top (v := xs 2) rfl ?_
  refine x_i (wr := ([] : va_W)) (va_runV (As := [.int (xs 1), .int (xs 2)]) (rest := [.int (-2)]) ⟨hx, hb, hml, hown, hw⟩ (kX10_log l D k sd y v (xs 1) (xs 2) H.size) (cwV 2 hw (gV wd_1675 wd_1676 wd_1677 wd_11 wd_1678) rfl rfl rfl (by decide +kernel) ⟨Nat.le_of_ble_eq_true rfl, Nat.le_of_ble_eq_true rfl⟩) (pre_V (ci := 10) (r := (RX10, TX10, 80)) hK hE hX hP hD hS hA [0, 1] (by decide) rfl rfl (q0 := 0) rfl) rfl rfl hl.1 rfl (lv_room (Nat.le_of_ble_eq_true rfl)) dL_law_516 ⟨Nat.le_of_ble_eq_true rfl, Nat.le_of_ble_eq_true rfl⟩) hP hD hS hA [0, 1] [] rfl rfl (by decide) (by decide) (fun r_6 u_4 H locs hp_5 hP hD hS => ?_)
  subst hp_5
  have hP : va_P D vwCl (([] : va_W)) H := hP
  have hD : va_D A (([] : va_W)) := hD
  refine lv_icmp_eq (tgt := 1566) hx hb dL_law_519 (by decide) (fun _ => ?_) (fun h => absurd (by decide) h)
  exact law_end C hS (lv_sub hl [0, 1, 2, 3] rfl)
set_option maxHeartbeats 4000000 in
set_option maxRecDepth 100000 in
/-- notch -/
theorem lawm_notch {p : Program} {l : Launch} {e : Env} {s : State} {m : MethodId} {below : List Frame} {meth : Method} {c : Code} {D : va_G} {k : Nat → ClassId} {sd : Nat → Nat} {A : Nat → Prop} {b : Nat} {xs : Nat → Int32} {x y : Nat} {u : Nat → Nat → Nat} {v : Nat → Nat} {H : Heap} {locs : List Loc} {ls : Array Slot} (C : LC p s m meth c D k sd A b xs) (hP : va_P D vwCl (SW1 k x u y v) H) (hD : va_D A (SW1 k x u y v)) (hS : va_S A s.heap H locs) (hl : lv_has ls 4 [(0, .ref b), (1, .ref x), (2, .ref y), (3, .int 0)]) : W p l e room_1 s m #[Value.ref b] below meth c H locs 287 18933 (lw_Z below #[Value.ref b] s) (F0 m 524 ls []) := by
  obtain ⟨hx, hb, hr, hml, hown, hw, hXs, hbl, hlocks, hK, hE, hX, hA, hAr, hbA⟩ := id C
  refine lv_aload_n hx hb dL_law_524 rfl (lv_at hl 1 rfl) ?_
  refine lv_aload_n hx hb dL_law_525 rfl (lv_at hl 0 rfl) ?_
  refine lv_iload_n hx hb dL_law_526 rfl (lv_at hl 3 rfl) ?_
  refine lv_iconst (v := 1) hx hb dL_law_527 (by decide) ?_
  refine lv_iadd hx hb dL_law_528 ?_
  refine x_top (v := 1) (by decide) ?_
  refine va_sld hx hb hXs hbl hbA hS (i := 1) (by unfold vp_in; decide) dL_law_529 ?_
  refine x_top (v := xs 1) rfl ?_
  refine lv_aload_n hx hb dL_law_530 rfl (lv_at hl 0 rfl) ?_
  refine lv_iload_n hx hb dL_law_531 rfl (lv_at hl 3 rfl) ?_
  refine lv_iconst (v := 2) hx hb dL_law_532 (by decide) ?_
  refine lv_iadd hx hb dL_law_533 ?_
  refine x_top (v := 2) (by decide) ?_
  refine va_sld hx hb hXs hbl hbA hS (i := 2) (by unfold vp_in; decide) dL_law_534 ?_
  refine x_top (v := xs 2) rfl ?_
  refine x_i (wr := C10 k y v) (va_runV (As := [.int (xs 1), .int (xs 2)]) (rest := []) ⟨hx, hb, hml, hown, hw⟩ (kX9_notch l D k sd x u (xs 1) (xs 2) H.size) (cwV 2 hw (gV wd_786 wd_787 wd_788 wd_1 wd_789) rfl rfl rfl (by decide +kernel) ⟨Nat.le_of_ble_eq_true rfl, Nat.le_of_ble_eq_true rfl⟩) (pre_V (ci := 9) (r := (RX9, TX9, 12)) hK hE hX hP hD hS hA [0, 3, 2, 4, 5, 1] (by decide) rfl rfl (q0 := 0) rfl) rfl rfl hl.1 rfl (lv_room (Nat.le_of_ble_eq_true rfl)) dL_law_535 ⟨Nat.le_of_ble_eq_true rfl, Nat.le_of_ble_eq_true rfl⟩) hP hD hS hA [0, 3, 2, 4, 5, 1] [6, 7] rfl rfl (by decide) (by decide) (fun r_3 u_1 H locs hp_2 hP hD hS => ?_)
  subst hp_2
  have hP : va_P D vwCl (C10 k y v) H := hP
  have hD : va_D A (C10 k y v) := hD
  refine lv_aload_n hx hb dL_law_538 rfl (lv_at hl 2 rfl) ?_
  refine lv_aload_n hx hb dL_law_539 rfl (lv_at hl 0 rfl) ?_
  refine lv_iload_n hx hb dL_law_540 rfl (lv_at hl 3 rfl) ?_
  refine lv_iconst (v := 1) hx hb dL_law_541 (by decide) ?_
  refine lv_iadd hx hb dL_law_542 ?_
  refine x_top (v := 1) (by decide) ?_
  refine va_sld hx hb hXs hbl hbA hS (i := 1) (by unfold vp_in; decide) dL_law_543 ?_
  refine x_top (v := xs 1) rfl ?_
  refine lv_aload_n hx hb dL_law_544 rfl (lv_at hl 0 rfl) ?_
  refine lv_iload_n hx hb dL_law_545 rfl (lv_at hl 3 rfl) ?_
  refine lv_iconst (v := 2) hx hb dL_law_546 (by decide) ?_
  refine lv_iadd hx hb dL_law_547 ?_
  refine x_top (v := 2) (by decide) ?_
  refine va_sld hx hb hXs hbl hbA hS (i := 2) (by unfold vp_in; decide) dL_law_548 ?_
  refine x_top (v := xs 2) rfl ?_
  refine x_i (wr := ([] : va_W)) (va_runV (As := [.int (xs 1), .int (xs 2)]) (rest := [.int (-2)]) ⟨hx, hb, hml, hown, hw⟩ (kX10_notch l D k sd y v (xs 1) (xs 2) H.size) (cwV 2 hw (gV wd_1691 wd_1692 wd_1693 wd_11 wd_1694) rfl rfl rfl (by decide +kernel) ⟨Nat.le_of_ble_eq_true rfl, Nat.le_of_ble_eq_true rfl⟩) (pre_V (ci := 10) (r := (RX10, TX10, 80)) hK hE hX hP hD hS hA [0, 1] (by decide) rfl rfl (q0 := 0) rfl) rfl rfl hl.1 rfl (lv_room (Nat.le_of_ble_eq_true rfl)) dL_law_549 ⟨Nat.le_of_ble_eq_true rfl, Nat.le_of_ble_eq_true rfl⟩) hP hD hS hA [0, 1] [] rfl rfl (by decide) (by decide) (fun r_6 u_4 H locs hp_5 hP hD hS => ?_)
  subst hp_5
  have hP : va_P D vwCl (([] : va_W)) H := hP
  have hD : va_D A (([] : va_W)) := hD
  refine lv_icmp_eq (tgt := 1566) hx hb dL_law_552 (by decide) (fun _ => ?_) (fun h => absurd (by decide) h)
  exact law_end C hS (lv_sub hl [0, 1, 2, 3] rfl)
set_option maxHeartbeats 4000000 in
set_option maxRecDepth 100000 in
/-- cut -/
theorem lawm_cut {p : Program} {l : Launch} {e : Env} {s : State} {m : MethodId} {below : List Frame} {meth : Method} {c : Code} {D : va_G} {k : Nat → ClassId} {sd : Nat → Nat} {A : Nat → Prop} {b : Nat} {xs : Nat → Int32} {x y : Nat} {u : Nat → Nat → Nat} {v : Nat → Nat} {H : Heap} {locs : List Loc} {ls : Array Slot} (C : LC p s m meth c D k sd A b xs) (hP : va_P D vwCl (SW1 k x u y v) H) (hD : va_D A (SW1 k x u y v)) (hS : va_S A s.heap H locs) (hl : lv_has ls 4 [(0, .ref b), (1, .ref x), (2, .ref y), (3, .int 0)]) : W p l e room_1 s m #[Value.ref b] below meth c H locs 287 18933 (lw_Z below #[Value.ref b] s) (F0 m 557 ls []) := by
  obtain ⟨hx, hb, hr, hml, hown, hw, hXs, hbl, hlocks, hK, hE, hX, hA, hAr, hbA⟩ := id C
  refine lv_aload_n hx hb dL_law_557 rfl (lv_at hl 1 rfl) ?_
  refine lv_aload_n hx hb dL_law_558 rfl (lv_at hl 0 rfl) ?_
  refine lv_iload_n hx hb dL_law_559 rfl (lv_at hl 3 rfl) ?_
  refine lv_iconst (v := 1) hx hb dL_law_560 (by decide) ?_
  refine lv_iadd hx hb dL_law_561 ?_
  refine x_top (v := 1) (by decide) ?_
  refine va_sld hx hb hXs hbl hbA hS (i := 1) (by unfold vp_in; decide) dL_law_562 ?_
  refine x_top (v := xs 1) rfl ?_
  refine lv_aload_n hx hb dL_law_563 rfl (lv_at hl 0 rfl) ?_
  refine lv_iload_n hx hb dL_law_564 rfl (lv_at hl 3 rfl) ?_
  refine lv_iconst (v := 2) hx hb dL_law_565 (by decide) ?_
  refine lv_iadd hx hb dL_law_566 ?_
  refine x_top (v := 2) (by decide) ?_
  refine va_sld hx hb hXs hbl hbA hS (i := 2) (by unfold vp_in; decide) dL_law_567 ?_
  refine x_top (v := xs 2) rfl ?_
  refine x_i (wr := C10 k y v) (va_runV (As := [.int (xs 1), .int (xs 2)]) (rest := []) ⟨hx, hb, hml, hown, hw⟩ (kX9_cut l D k sd x u (xs 1) (xs 2) H.size) (cwV 2 hw (gV wd_791 wd_792 wd_793 wd_1 wd_794) rfl rfl rfl (by decide +kernel) ⟨Nat.le_of_ble_eq_true rfl, Nat.le_of_ble_eq_true rfl⟩) (pre_V (ci := 9) (r := (RX9, TX9, 12)) hK hE hX hP hD hS hA [0, 3, 2, 4, 5, 1] (by decide) rfl rfl (q0 := 0) rfl) rfl rfl hl.1 rfl (lv_room (Nat.le_of_ble_eq_true rfl)) dL_law_568 ⟨Nat.le_of_ble_eq_true rfl, Nat.le_of_ble_eq_true rfl⟩) hP hD hS hA [0, 3, 2, 4, 5, 1] [6, 7] rfl rfl (by decide) (by decide) (fun r_3 u_1 H locs hp_2 hP hD hS => ?_)
  subst hp_2
  have hP : va_P D vwCl (C10 k y v) H := hP
  have hD : va_D A (C10 k y v) := hD
  refine lv_aload_n hx hb dL_law_571 rfl (lv_at hl 2 rfl) ?_
  refine lv_aload_n hx hb dL_law_572 rfl (lv_at hl 0 rfl) ?_
  refine lv_iload_n hx hb dL_law_573 rfl (lv_at hl 3 rfl) ?_
  refine lv_iconst (v := 1) hx hb dL_law_574 (by decide) ?_
  refine lv_iadd hx hb dL_law_575 ?_
  refine x_top (v := 1) (by decide) ?_
  refine va_sld hx hb hXs hbl hbA hS (i := 1) (by unfold vp_in; decide) dL_law_576 ?_
  refine x_top (v := xs 1) rfl ?_
  refine lv_aload_n hx hb dL_law_577 rfl (lv_at hl 0 rfl) ?_
  refine lv_iload_n hx hb dL_law_578 rfl (lv_at hl 3 rfl) ?_
  refine lv_iconst (v := 2) hx hb dL_law_579 (by decide) ?_
  refine lv_iadd hx hb dL_law_580 ?_
  refine x_top (v := 2) (by decide) ?_
  refine va_sld hx hb hXs hbl hbA hS (i := 2) (by unfold vp_in; decide) dL_law_581 ?_
  refine x_top (v := xs 2) rfl ?_
  refine x_i (wr := ([] : va_W)) (va_runV (As := [.int (xs 1), .int (xs 2)]) (rest := [.int (-2)]) ⟨hx, hb, hml, hown, hw⟩ (kX10_cut l D k sd y v (xs 1) (xs 2) H.size) (cwV 2 hw (gV wd_1695 wd_1696 wd_1697 wd_11 wd_1698) rfl rfl rfl (by decide +kernel) ⟨Nat.le_of_ble_eq_true rfl, Nat.le_of_ble_eq_true rfl⟩) (pre_V (ci := 10) (r := (RX10, TX10, 80)) hK hE hX hP hD hS hA [0, 1] (by decide) rfl rfl (q0 := 0) rfl) rfl rfl hl.1 rfl (lv_room (Nat.le_of_ble_eq_true rfl)) dL_law_582 ⟨Nat.le_of_ble_eq_true rfl, Nat.le_of_ble_eq_true rfl⟩) hP hD hS hA [0, 1] [] rfl rfl (by decide) (by decide) (fun r_6 u_4 H locs hp_5 hP hD hS => ?_)
  subst hp_5
  have hP : va_P D vwCl (([] : va_W)) H := hP
  have hD : va_D A (([] : va_W)) := hD
  refine lv_icmp_eq (tgt := 1566) hx hb dL_law_585 (by decide) (fun _ => ?_) (fun h => absurd (by decide) h)
  exact law_end C hS (lv_sub hl [0, 1, 2, 3] rfl)
set_option maxHeartbeats 4000000 in
set_option maxRecDepth 100000 in
/-- cutOver -/
theorem lawm_cutOver {p : Program} {l : Launch} {e : Env} {s : State} {m : MethodId} {below : List Frame} {meth : Method} {c : Code} {D : va_G} {k : Nat → ClassId} {sd : Nat → Nat} {A : Nat → Prop} {b : Nat} {xs : Nat → Int32} {x y : Nat} {u : Nat → Nat → Nat} {v : Nat → Nat} {H : Heap} {locs : List Loc} {ls : Array Slot} (C : LC p s m meth c D k sd A b xs) (hP : va_P D vwCl (SW1 k x u y v) H) (hD : va_D A (SW1 k x u y v)) (hS : va_S A s.heap H locs) (hl : lv_has ls 4 [(0, .ref b), (1, .ref x), (2, .ref y), (3, .int 0)]) : W p l e room_1 s m #[Value.ref b] below meth c H locs 287 18933 (lw_Z below #[Value.ref b] s) (F0 m 590 ls []) := by
  obtain ⟨hx, hb, hr, hml, hown, hw, hXs, hbl, hlocks, hK, hE, hX, hA, hAr, hbA⟩ := id C
  refine lv_aload_n hx hb dL_law_590 rfl (lv_at hl 1 rfl) ?_
  refine lv_aload_n hx hb dL_law_591 rfl (lv_at hl 0 rfl) ?_
  refine lv_iload_n hx hb dL_law_592 rfl (lv_at hl 3 rfl) ?_
  refine lv_iconst (v := 1) hx hb dL_law_593 (by decide) ?_
  refine lv_iadd hx hb dL_law_594 ?_
  refine x_top (v := 1) (by decide) ?_
  refine va_sld hx hb hXs hbl hbA hS (i := 1) (by unfold vp_in; decide) dL_law_595 ?_
  refine x_top (v := xs 1) rfl ?_
  refine lv_aload_n hx hb dL_law_596 rfl (lv_at hl 0 rfl) ?_
  refine lv_iload_n hx hb dL_law_597 rfl (lv_at hl 3 rfl) ?_
  refine lv_iconst (v := 2) hx hb dL_law_598 (by decide) ?_
  refine lv_iadd hx hb dL_law_599 ?_
  refine x_top (v := 2) (by decide) ?_
  refine va_sld hx hb hXs hbl hbA hS (i := 2) (by unfold vp_in; decide) dL_law_600 ?_
  refine x_top (v := xs 2) rfl ?_
  refine lv_aload_n hx hb dL_law_601 rfl (lv_at hl 0 rfl) ?_
  refine lv_iload_n hx hb dL_law_602 rfl (lv_at hl 3 rfl) ?_
  refine lv_iconst (v := 3) hx hb dL_law_603 (by decide) ?_
  refine lv_iadd hx hb dL_law_604 ?_
  refine x_top (v := 3) (by decide) ?_
  refine va_sld hx hb hXs hbl hbA hS (i := 3) (by unfold vp_in; decide) dL_law_605 ?_
  refine x_top (v := xs 3) rfl ?_
  refine x_i (wr := C10 k y v) (va_runV (As := [.int (xs 1), .int (xs 2), .int (xs 3)]) (rest := []) ⟨hx, hb, hml, hown, hw⟩ (kX9_cutOver l D k sd x u (xs 1) (xs 2) (xs 3) H.size) (cwV 3 hw (gV wd_808 wd_809 wd_810 wd_1 wd_811) rfl rfl rfl (by decide +kernel) ⟨Nat.le_of_ble_eq_true rfl, Nat.le_of_ble_eq_true rfl⟩) (pre_V (ci := 9) (r := (RX9, TX9, 12)) hK hE hX hP hD hS hA [0, 3, 2, 4, 5, 1] (by decide) rfl rfl (q0 := 0) rfl) rfl rfl hl.1 rfl (lv_room (Nat.le_of_ble_eq_true rfl)) dL_law_606 ⟨Nat.le_of_ble_eq_true rfl, Nat.le_of_ble_eq_true rfl⟩) hP hD hS hA [0, 3, 2, 4, 5, 1] [6, 7] rfl rfl (by decide) (by decide) (fun r_3 u_1 H locs hp_2 hP hD hS => ?_)
  subst hp_2
  have hP : va_P D vwCl (C10 k y v) H := hP
  have hD : va_D A (C10 k y v) := hD
  refine lv_aload_n hx hb dL_law_609 rfl (lv_at hl 2 rfl) ?_
  refine lv_aload_n hx hb dL_law_610 rfl (lv_at hl 0 rfl) ?_
  refine lv_iload_n hx hb dL_law_611 rfl (lv_at hl 3 rfl) ?_
  refine lv_iconst (v := 1) hx hb dL_law_612 (by decide) ?_
  refine lv_iadd hx hb dL_law_613 ?_
  refine x_top (v := 1) (by decide) ?_
  refine va_sld hx hb hXs hbl hbA hS (i := 1) (by unfold vp_in; decide) dL_law_614 ?_
  refine x_top (v := xs 1) rfl ?_
  refine lv_aload_n hx hb dL_law_615 rfl (lv_at hl 0 rfl) ?_
  refine lv_iload_n hx hb dL_law_616 rfl (lv_at hl 3 rfl) ?_
  refine lv_iconst (v := 2) hx hb dL_law_617 (by decide) ?_
  refine lv_iadd hx hb dL_law_618 ?_
  refine x_top (v := 2) (by decide) ?_
  refine va_sld hx hb hXs hbl hbA hS (i := 2) (by unfold vp_in; decide) dL_law_619 ?_
  refine x_top (v := xs 2) rfl ?_
  refine lv_aload_n hx hb dL_law_620 rfl (lv_at hl 0 rfl) ?_
  refine lv_iload_n hx hb dL_law_621 rfl (lv_at hl 3 rfl) ?_
  refine lv_iconst (v := 3) hx hb dL_law_622 (by decide) ?_
  refine lv_iadd hx hb dL_law_623 ?_
  refine x_top (v := 3) (by decide) ?_
  refine va_sld hx hb hXs hbl hbA hS (i := 3) (by unfold vp_in; decide) dL_law_624 ?_
  refine x_top (v := xs 3) rfl ?_
  refine x_i (wr := ([] : va_W)) (va_runV (As := [.int (xs 1), .int (xs 2), .int (xs 3)]) (rest := [.int (-2)]) ⟨hx, hb, hml, hown, hw⟩ (kX10_cutOver l D k sd y v (xs 1) (xs 2) (xs 3) H.size) (cwV 3 hw (gV wd_1707 wd_1708 wd_1709 wd_11 wd_1710) rfl rfl rfl (by decide +kernel) ⟨Nat.le_of_ble_eq_true rfl, Nat.le_of_ble_eq_true rfl⟩) (pre_V (ci := 10) (r := (RX10, TX10, 80)) hK hE hX hP hD hS hA [0, 1] (by decide) rfl rfl (q0 := 0) rfl) rfl rfl hl.1 rfl (lv_room (Nat.le_of_ble_eq_true rfl)) dL_law_625 ⟨Nat.le_of_ble_eq_true rfl, Nat.le_of_ble_eq_true rfl⟩) hP hD hS hA [0, 1] [] rfl rfl (by decide) (by decide) (fun r_6 u_4 H locs hp_5 hP hD hS => ?_)
  subst hp_5
  have hP : va_P D vwCl (([] : va_W)) H := hP
  have hD : va_D A (([] : va_W)) := hD
  refine lv_icmp_eq (tgt := 1566) hx hb dL_law_628 (by decide) (fun _ => ?_) (fun h => absurd (by decide) h)
  exact law_end C hS (lv_sub hl [0, 1, 2, 3] rfl)
set_option maxHeartbeats 4000000 in
set_option maxRecDepth 100000 in
/-- undo -/
theorem lawm_undo {p : Program} {l : Launch} {e : Env} {s : State} {m : MethodId} {below : List Frame} {meth : Method} {c : Code} {D : va_G} {k : Nat → ClassId} {sd : Nat → Nat} {A : Nat → Prop} {b : Nat} {xs : Nat → Int32} {x y : Nat} {u : Nat → Nat → Nat} {v : Nat → Nat} {H : Heap} {locs : List Loc} {ls : Array Slot} (C : LC p s m meth c D k sd A b xs) (hP : va_P D vwCl (SW1 k x u y v) H) (hD : va_D A (SW1 k x u y v)) (hS : va_S A s.heap H locs) (hl : lv_has ls 4 [(0, .ref b), (1, .ref x), (2, .ref y), (3, .int 0)]) : W p l e room_1 s m #[Value.ref b] below meth c H locs 287 18933 (lw_Z below #[Value.ref b] s) (F0 m 633 ls []) := by
  obtain ⟨hx, hb, hr, hml, hown, hw, hXs, hbl, hlocks, hK, hE, hX, hA, hAr, hbA⟩ := id C
  refine lv_aload_n hx hb dL_law_633 rfl (lv_at hl 1 rfl) ?_
  refine x_i (wr := C10 k y v) (va_runV (As := []) (rest := []) ⟨hx, hb, hml, hown, hw⟩ (kX9_undo l D k sd x u  H.size) (cwV 0 hw (gV wd_812 wd_813 wd_814 wd_1 wd_815) rfl rfl rfl (by decide +kernel) ⟨Nat.le_of_ble_eq_true rfl, Nat.le_of_ble_eq_true rfl⟩) (pre_V (ci := 9) (r := (RX9, TX9, 12)) hK hE hX hP hD hS hA [0, 3, 2, 4, 5, 1] (by decide) rfl rfl (q0 := 0) rfl) rfl rfl hl.1 rfl (lv_room (Nat.le_of_ble_eq_true rfl)) dL_law_634 ⟨Nat.le_of_ble_eq_true rfl, Nat.le_of_ble_eq_true rfl⟩) hP hD hS hA [0, 3, 2, 4, 5, 1] [6, 7] rfl rfl (by decide) (by decide) (fun r_3 u_1 H locs hp_2 hP hD hS => ?_)
  subst hp_2
  have hP : va_P D vwCl (C10 k y v) H := hP
  have hD : va_D A (C10 k y v) := hD
  refine lv_aload_n hx hb dL_law_637 rfl (lv_at hl 2 rfl) ?_
  refine x_i (wr := ([] : va_W)) (va_runV (As := []) (rest := [.int (-2)]) ⟨hx, hb, hml, hown, hw⟩ (kX10_undo l D k sd y v  H.size) (cwV 0 hw (gV wd_1711 wd_1712 wd_1713 wd_11 wd_1714) rfl rfl rfl (by decide +kernel) ⟨Nat.le_of_ble_eq_true rfl, Nat.le_of_ble_eq_true rfl⟩) (pre_V (ci := 10) (r := (RX10, TX10, 80)) hK hE hX hP hD hS hA [0, 1] (by decide) rfl rfl (q0 := 0) rfl) rfl rfl hl.1 rfl (lv_room (Nat.le_of_ble_eq_true rfl)) dL_law_638 ⟨Nat.le_of_ble_eq_true rfl, Nat.le_of_ble_eq_true rfl⟩) hP hD hS hA [0, 1] [] rfl rfl (by decide) (by decide) (fun r_6 u_4 H locs hp_5 hP hD hS => ?_)
  subst hp_5
  have hP : va_P D vwCl (([] : va_W)) H := hP
  have hD : va_D A (([] : va_W)) := hD
  refine lv_icmp_eq (tgt := 1566) hx hb dL_law_641 (by decide) (fun _ => ?_) (fun h => absurd (by decide) h)
  exact law_end C hS (lv_sub hl [0, 1, 2, 3] rfl)
set_option maxHeartbeats 4000000 in
set_option maxRecDepth 100000 in
/-- launch -/
theorem lawm_launch {p : Program} {l : Launch} {e : Env} {s : State} {m : MethodId} {below : List Frame} {meth : Method} {c : Code} {D : va_G} {k : Nat → ClassId} {sd : Nat → Nat} {A : Nat → Prop} {b : Nat} {xs : Nat → Int32} {x y : Nat} {u : Nat → Nat → Nat} {v : Nat → Nat} {H : Heap} {locs : List Loc} {ls : Array Slot} (C : LC p s m meth c D k sd A b xs) (hP : va_P D vwCl (SW1 k x u y v) H) (hD : va_D A (SW1 k x u y v)) (hS : va_S A s.heap H locs) (hl : lv_has ls 4 [(0, .ref b), (1, .ref x), (2, .ref y), (3, .int 0)]) : W p l e room_1 s m #[Value.ref b] below meth c H locs 287 18933 (lw_Z below #[Value.ref b] s) (F0 m 646 ls []) := by
  obtain ⟨hx, hb, hr, hml, hown, hw, hXs, hbl, hlocks, hK, hE, hX, hA, hAr, hbA⟩ := id C
  refine lv_aload_n hx hb dL_law_646 rfl (lv_at hl 1 rfl) ?_
  refine lv_aload_n hx hb dL_law_647 rfl (lv_at hl 0 rfl) ?_
  refine lv_iload_n hx hb dL_law_648 rfl (lv_at hl 3 rfl) ?_
  refine lv_iconst (v := 1) hx hb dL_law_649 (by decide) ?_
  refine lv_iadd hx hb dL_law_650 ?_
  refine x_top (v := 1) (by decide) ?_
  refine va_sld hx hb hXs hbl hbA hS (i := 1) (by unfold vp_in; decide) dL_law_651 ?_
  refine x_top (v := xs 1) rfl ?_
  refine x_i (wr := C10 k y v) (va_runV (As := [.int (xs 1)]) (rest := []) ⟨hx, hb, hml, hown, hw⟩ (kX9_launch l D k sd x u (xs 1) H.size) (cwV 1 hw (gV wd_816 wd_817 wd_818 wd_1 wd_819) rfl rfl rfl (by decide +kernel) ⟨Nat.le_of_ble_eq_true rfl, Nat.le_of_ble_eq_true rfl⟩) (pre_V (ci := 9) (r := (RX9, TX9, 12)) hK hE hX hP hD hS hA [0, 3, 2, 4, 5, 1] (by decide) rfl rfl (q0 := 0) rfl) rfl rfl hl.1 rfl (lv_room (Nat.le_of_ble_eq_true rfl)) dL_law_652 ⟨Nat.le_of_ble_eq_true rfl, Nat.le_of_ble_eq_true rfl⟩) hP hD hS hA [0, 3, 2, 4, 5, 1] [6, 7] rfl rfl (by decide) (by decide) (fun r_3 u_1 H locs hp_2 hP hD hS => ?_)
  subst hp_2
  have hP : va_P D vwCl (C10 k y v) H := hP
  have hD : va_D A (C10 k y v) := hD
  refine lv_aload_n hx hb dL_law_655 rfl (lv_at hl 2 rfl) ?_
  refine lv_aload_n hx hb dL_law_656 rfl (lv_at hl 0 rfl) ?_
  refine lv_iload_n hx hb dL_law_657 rfl (lv_at hl 3 rfl) ?_
  refine lv_iconst (v := 1) hx hb dL_law_658 (by decide) ?_
  refine lv_iadd hx hb dL_law_659 ?_
  refine x_top (v := 1) (by decide) ?_
  refine va_sld hx hb hXs hbl hbA hS (i := 1) (by unfold vp_in; decide) dL_law_660 ?_
  refine x_top (v := xs 1) rfl ?_
  refine x_i (wr := ([] : va_W)) (va_runV (As := [.int (xs 1)]) (rest := [.int (-2)]) ⟨hx, hb, hml, hown, hw⟩ (kX10_launch l D k sd y v (xs 1) H.size) (cwV 1 hw (gV wd_1715 wd_1716 wd_1717 wd_11 wd_1718) rfl rfl rfl (by decide +kernel) ⟨Nat.le_of_ble_eq_true rfl, Nat.le_of_ble_eq_true rfl⟩) (pre_V (ci := 10) (r := (RX10, TX10, 80)) hK hE hX hP hD hS hA [0, 1] (by decide) rfl rfl (q0 := 0) rfl) rfl rfl hl.1 rfl (lv_room (Nat.le_of_ble_eq_true rfl)) dL_law_661 ⟨Nat.le_of_ble_eq_true rfl, Nat.le_of_ble_eq_true rfl⟩) hP hD hS hA [0, 1] [] rfl rfl (by decide) (by decide) (fun r_6 u_4 H locs hp_5 hP hD hS => ?_)
  subst hp_5
  have hP : va_P D vwCl (([] : va_W)) H := hP
  have hD : va_D A (([] : va_W)) := hD
  refine lv_icmp_eq (tgt := 1566) hx hb dL_law_664 (by decide) (fun _ => ?_) (fun h => absurd (by decide) h)
  exact law_end C hS (lv_sub hl [0, 1, 2, 3] rfl)
set_option maxHeartbeats 4000000 in
set_option maxRecDepth 100000 in
/-- land -/
theorem lawm_land {p : Program} {l : Launch} {e : Env} {s : State} {m : MethodId} {below : List Frame} {meth : Method} {c : Code} {D : va_G} {k : Nat → ClassId} {sd : Nat → Nat} {A : Nat → Prop} {b : Nat} {xs : Nat → Int32} {x y : Nat} {u : Nat → Nat → Nat} {v : Nat → Nat} {H : Heap} {locs : List Loc} {ls : Array Slot} (C : LC p s m meth c D k sd A b xs) (hP : va_P D vwCl (SW1 k x u y v) H) (hD : va_D A (SW1 k x u y v)) (hS : va_S A s.heap H locs) (hl : lv_has ls 4 [(0, .ref b), (1, .ref x), (2, .ref y), (3, .int 0)]) : W p l e room_1 s m #[Value.ref b] below meth c H locs 287 18933 (lw_Z below #[Value.ref b] s) (F0 m 669 ls []) := by
  obtain ⟨hx, hb, hr, hml, hown, hw, hXs, hbl, hlocks, hK, hE, hX, hA, hAr, hbA⟩ := id C
  refine lv_aload_n hx hb dL_law_669 rfl (lv_at hl 1 rfl) ?_
  refine lv_aload_n hx hb dL_law_670 rfl (lv_at hl 0 rfl) ?_
  refine lv_iload_n hx hb dL_law_671 rfl (lv_at hl 3 rfl) ?_
  refine lv_iconst (v := 1) hx hb dL_law_672 (by decide) ?_
  refine lv_iadd hx hb dL_law_673 ?_
  refine x_top (v := 1) (by decide) ?_
  refine va_sld hx hb hXs hbl hbA hS (i := 1) (by unfold vp_in; decide) dL_law_674 ?_
  refine x_top (v := xs 1) rfl ?_
  refine lv_aload_n hx hb dL_law_675 rfl (lv_at hl 0 rfl) ?_
  refine lv_iload_n hx hb dL_law_676 rfl (lv_at hl 3 rfl) ?_
  refine lv_iconst (v := 2) hx hb dL_law_677 (by decide) ?_
  refine lv_iadd hx hb dL_law_678 ?_
  refine x_top (v := 2) (by decide) ?_
  refine va_sld hx hb hXs hbl hbA hS (i := 2) (by unfold vp_in; decide) dL_law_679 ?_
  refine x_top (v := xs 2) rfl ?_
  refine x_i (wr := C10 k y v) (va_runV (As := [.int (xs 1), .int (xs 2)]) (rest := []) ⟨hx, hb, hml, hown, hw⟩ (kX9_land l D k sd x u (xs 1) (xs 2) H.size) (cwV 2 hw (gV wd_825 wd_826 wd_827 wd_1 wd_828) rfl rfl rfl (by decide +kernel) ⟨Nat.le_of_ble_eq_true rfl, Nat.le_of_ble_eq_true rfl⟩) (pre_V (ci := 9) (r := (RX9, TX9, 12)) hK hE hX hP hD hS hA [0, 3, 2, 4, 5, 1] (by decide) rfl rfl (q0 := 0) rfl) rfl rfl hl.1 rfl (lv_room (Nat.le_of_ble_eq_true rfl)) dL_law_680 ⟨Nat.le_of_ble_eq_true rfl, Nat.le_of_ble_eq_true rfl⟩) hP hD hS hA [0, 3, 2, 4, 5, 1] [6, 7] rfl rfl (by decide) (by decide) (fun r_3 u_1 H locs hp_2 hP hD hS => ?_)
  subst hp_2
  have hP : va_P D vwCl (C10 k y v) H := hP
  have hD : va_D A (C10 k y v) := hD
  refine lv_aload_n hx hb dL_law_683 rfl (lv_at hl 2 rfl) ?_
  refine lv_aload_n hx hb dL_law_684 rfl (lv_at hl 0 rfl) ?_
  refine lv_iload_n hx hb dL_law_685 rfl (lv_at hl 3 rfl) ?_
  refine lv_iconst (v := 1) hx hb dL_law_686 (by decide) ?_
  refine lv_iadd hx hb dL_law_687 ?_
  refine x_top (v := 1) (by decide) ?_
  refine va_sld hx hb hXs hbl hbA hS (i := 1) (by unfold vp_in; decide) dL_law_688 ?_
  refine x_top (v := xs 1) rfl ?_
  refine lv_aload_n hx hb dL_law_689 rfl (lv_at hl 0 rfl) ?_
  refine lv_iload_n hx hb dL_law_690 rfl (lv_at hl 3 rfl) ?_
  refine lv_iconst (v := 2) hx hb dL_law_691 (by decide) ?_
  refine lv_iadd hx hb dL_law_692 ?_
  refine x_top (v := 2) (by decide) ?_
  refine va_sld hx hb hXs hbl hbA hS (i := 2) (by unfold vp_in; decide) dL_law_693 ?_
  refine x_top (v := xs 2) rfl ?_
  refine x_i (wr := ([] : va_W)) (va_runV (As := [.int (xs 1), .int (xs 2)]) (rest := [.int 0]) ⟨hx, hb, hml, hown, hw⟩ (kX10_land l D k sd y v (xs 1) (xs 2) H.size) (cwV 2 hw (gV wd_1719 wd_1720 wd_1721 wd_11 wd_1722) rfl rfl rfl (by decide +kernel) ⟨Nat.le_of_ble_eq_true rfl, Nat.le_of_ble_eq_true rfl⟩) (pre_V (ci := 10) (r := (RX10, TX10, 80)) hK hE hX hP hD hS hA [0, 1] (by decide) rfl rfl (q0 := 0) rfl) rfl rfl hl.1 rfl (lv_room (Nat.le_of_ble_eq_true rfl)) dL_law_694 ⟨Nat.le_of_ble_eq_true rfl, Nat.le_of_ble_eq_true rfl⟩) hP hD hS hA [0, 1] [] rfl rfl (by decide) (by decide) (fun r_6 u_4 H locs hp_5 hP hD hS => ?_)
  subst hp_5
  have hP : va_P D vwCl (([] : va_W)) H := hP
  have hD : va_D A (([] : va_W)) := hD
  refine lv_icmp_eq (tgt := 1566) hx hb dL_law_697 (by decide) (fun _ => ?_) (fun h => absurd (by decide) h)
  exact law_end C hS (lv_sub hl [0, 1, 2, 3] rfl)
set_option maxHeartbeats 4000000 in
set_option maxRecDepth 100000 in
/-- burn -/
theorem lawm_burn {p : Program} {l : Launch} {e : Env} {s : State} {m : MethodId} {below : List Frame} {meth : Method} {c : Code} {D : va_G} {k : Nat → ClassId} {sd : Nat → Nat} {A : Nat → Prop} {b : Nat} {xs : Nat → Int32} {x y : Nat} {u : Nat → Nat → Nat} {v : Nat → Nat} {H : Heap} {locs : List Loc} {ls : Array Slot} (C : LC p s m meth c D k sd A b xs) (hP : va_P D vwCl (SW1 k x u y v) H) (hD : va_D A (SW1 k x u y v)) (hS : va_S A s.heap H locs) (hl : lv_has ls 4 [(0, .ref b), (1, .ref x), (2, .ref y), (3, .int 0)]) : W p l e room_1 s m #[Value.ref b] below meth c H locs 287 18933 (lw_Z below #[Value.ref b] s) (F0 m 702 ls []) := by
  obtain ⟨hx, hb, hr, hml, hown, hw, hXs, hbl, hlocks, hK, hE, hX, hA, hAr, hbA⟩ := id C
  refine lv_aload_n hx hb dL_law_702 rfl (lv_at hl 1 rfl) ?_
  refine lv_aload_n hx hb dL_law_703 rfl (lv_at hl 0 rfl) ?_
  refine lv_iload_n hx hb dL_law_704 rfl (lv_at hl 3 rfl) ?_
  refine lv_iconst (v := 1) hx hb dL_law_705 (by decide) ?_
  refine lv_iadd hx hb dL_law_706 ?_
  refine x_top (v := 1) (by decide) ?_
  refine va_sld hx hb hXs hbl hbA hS (i := 1) (by unfold vp_in; decide) dL_law_707 ?_
  refine x_top (v := xs 1) rfl ?_
  refine x_i (wr := C10 k y v) (va_runV (As := [.int (xs 1)]) (rest := []) ⟨hx, hb, hml, hown, hw⟩ (kX9_burn l D k sd x u (xs 1) H.size) (cwV 1 hw (gV wd_829 wd_830 wd_831 wd_1 wd_832) rfl rfl rfl (by decide +kernel) ⟨Nat.le_of_ble_eq_true rfl, Nat.le_of_ble_eq_true rfl⟩) (pre_V (ci := 9) (r := (RX9, TX9, 12)) hK hE hX hP hD hS hA [0, 3, 2, 4, 5, 1] (by decide) rfl rfl (q0 := 0) rfl) rfl rfl hl.1 rfl (lv_room (Nat.le_of_ble_eq_true rfl)) dL_law_708 ⟨Nat.le_of_ble_eq_true rfl, Nat.le_of_ble_eq_true rfl⟩) hP hD hS hA [0, 3, 2, 4, 5, 1] [6, 7] rfl rfl (by decide) (by decide) (fun r_3 u_1 H locs hp_2 hP hD hS => ?_)
  subst hp_2
  have hP : va_P D vwCl (C10 k y v) H := hP
  have hD : va_D A (C10 k y v) := hD
  refine lv_aload_n hx hb dL_law_711 rfl (lv_at hl 2 rfl) ?_
  refine lv_aload_n hx hb dL_law_712 rfl (lv_at hl 0 rfl) ?_
  refine lv_iload_n hx hb dL_law_713 rfl (lv_at hl 3 rfl) ?_
  refine lv_iconst (v := 1) hx hb dL_law_714 (by decide) ?_
  refine lv_iadd hx hb dL_law_715 ?_
  refine x_top (v := 1) (by decide) ?_
  refine va_sld hx hb hXs hbl hbA hS (i := 1) (by unfold vp_in; decide) dL_law_716 ?_
  refine x_top (v := xs 1) rfl ?_
  refine x_i (wr := ([] : va_W)) (va_runV (As := [.int (xs 1)]) (rest := [.int (-2)]) ⟨hx, hb, hml, hown, hw⟩ (kX10_burn l D k sd y v (xs 1) H.size) (cwV 1 hw (gV wd_1723 wd_1724 wd_1725 wd_11 wd_1726) rfl rfl rfl (by decide +kernel) ⟨Nat.le_of_ble_eq_true rfl, Nat.le_of_ble_eq_true rfl⟩) (pre_V (ci := 10) (r := (RX10, TX10, 80)) hK hE hX hP hD hS hA [0, 1] (by decide) rfl rfl (q0 := 0) rfl) rfl rfl hl.1 rfl (lv_room (Nat.le_of_ble_eq_true rfl)) dL_law_717 ⟨Nat.le_of_ble_eq_true rfl, Nat.le_of_ble_eq_true rfl⟩) hP hD hS hA [0, 1] [] rfl rfl (by decide) (by decide) (fun r_6 u_4 H locs hp_5 hP hD hS => ?_)
  subst hp_5
  have hP : va_P D vwCl (([] : va_W)) H := hP
  have hD : va_D A (([] : va_W)) := hD
  refine lv_icmp_eq (tgt := 1566) hx hb dL_law_720 (by decide) (fun _ => ?_) (fun h => absurd (by decide) h)
  exact law_end C hS (lv_sub hl [0, 1, 2, 3] rfl)
set_option maxHeartbeats 4000000 in
set_option maxRecDepth 100000 in
/-- saw -/
theorem lawm_saw {p : Program} {l : Launch} {e : Env} {s : State} {m : MethodId} {below : List Frame} {meth : Method} {c : Code} {D : va_G} {k : Nat → ClassId} {sd : Nat → Nat} {A : Nat → Prop} {b : Nat} {xs : Nat → Int32} {x y : Nat} {u : Nat → Nat → Nat} {v : Nat → Nat} {H : Heap} {locs : List Loc} {ls : Array Slot} (C : LC p s m meth c D k sd A b xs) (hP : va_P D vwCl (SW1 k x u y v) H) (hD : va_D A (SW1 k x u y v)) (hS : va_S A s.heap H locs) (hl : lv_has ls 4 [(0, .ref b), (1, .ref x), (2, .ref y), (3, .int 0)]) : W p l e room_1 s m #[Value.ref b] below meth c H locs 287 18933 (lw_Z below #[Value.ref b] s) (F0 m 725 ls []) := by
  obtain ⟨hx, hb, hr, hml, hown, hw, hXs, hbl, hlocks, hK, hE, hX, hA, hAr, hbA⟩ := id C
  refine lv_aload_n hx hb dL_law_725 rfl (lv_at hl 1 rfl) ?_
  refine lv_aload_n hx hb dL_law_726 rfl (lv_at hl 0 rfl) ?_
  refine lv_iload_n hx hb dL_law_727 rfl (lv_at hl 3 rfl) ?_
  refine lv_iconst (v := 1) hx hb dL_law_728 (by decide) ?_
  refine lv_iadd hx hb dL_law_729 ?_
  refine x_top (v := 1) (by decide) ?_
  refine va_sld hx hb hXs hbl hbA hS (i := 1) (by unfold vp_in; decide) dL_law_730 ?_
  refine x_top (v := xs 1) rfl ?_
  refine lv_aload_n hx hb dL_law_731 rfl (lv_at hl 0 rfl) ?_
  refine lv_iload_n hx hb dL_law_732 rfl (lv_at hl 3 rfl) ?_
  refine lv_iconst (v := 2) hx hb dL_law_733 (by decide) ?_
  refine lv_iadd hx hb dL_law_734 ?_
  refine x_top (v := 2) (by decide) ?_
  refine va_sld hx hb hXs hbl hbA hS (i := 2) (by unfold vp_in; decide) dL_law_735 ?_
  refine x_top (v := xs 2) rfl ?_
  refine x_i (wr := C10 k y v) (va_runV (As := [.int (xs 1), .int (xs 2)]) (rest := []) ⟨hx, hb, hml, hown, hw⟩ (kX9_saw l D k sd x u (xs 1) (xs 2) H.size) (cwV 2 hw (gV wd_837 wd_838 wd_839 wd_1 wd_840) rfl rfl rfl (by decide +kernel) ⟨Nat.le_of_ble_eq_true rfl, Nat.le_of_ble_eq_true rfl⟩) (pre_V (ci := 9) (r := (RX9, TX9, 12)) hK hE hX hP hD hS hA [0, 3, 2, 4, 5, 1] (by decide) rfl rfl (q0 := 0) rfl) rfl rfl hl.1 rfl (lv_room (Nat.le_of_ble_eq_true rfl)) dL_law_736 ⟨Nat.le_of_ble_eq_true rfl, Nat.le_of_ble_eq_true rfl⟩) hP hD hS hA [0, 3, 2, 4, 5, 1] [6, 7] rfl rfl (by decide) (by decide) (fun r_3 u_1 H locs hp_2 hP hD hS => ?_)
  subst hp_2
  have hP : va_P D vwCl (C10 k y v) H := hP
  have hD : va_D A (C10 k y v) := hD
  refine lv_aload_n hx hb dL_law_739 rfl (lv_at hl 2 rfl) ?_
  refine lv_aload_n hx hb dL_law_740 rfl (lv_at hl 0 rfl) ?_
  refine lv_iload_n hx hb dL_law_741 rfl (lv_at hl 3 rfl) ?_
  refine lv_iconst (v := 1) hx hb dL_law_742 (by decide) ?_
  refine lv_iadd hx hb dL_law_743 ?_
  refine x_top (v := 1) (by decide) ?_
  refine va_sld hx hb hXs hbl hbA hS (i := 1) (by unfold vp_in; decide) dL_law_744 ?_
  refine x_top (v := xs 1) rfl ?_
  refine lv_aload_n hx hb dL_law_745 rfl (lv_at hl 0 rfl) ?_
  refine lv_iload_n hx hb dL_law_746 rfl (lv_at hl 3 rfl) ?_
  refine lv_iconst (v := 2) hx hb dL_law_747 (by decide) ?_
  refine lv_iadd hx hb dL_law_748 ?_
  refine x_top (v := 2) (by decide) ?_
  refine va_sld hx hb hXs hbl hbA hS (i := 2) (by unfold vp_in; decide) dL_law_749 ?_
  refine x_top (v := xs 2) rfl ?_
  refine x_i (wr := ([] : va_W)) (va_runV (As := [.int (xs 1), .int (xs 2)]) (rest := [.int (-2)]) ⟨hx, hb, hml, hown, hw⟩ (kX10_saw l D k sd y v (xs 1) (xs 2) H.size) (cwV 2 hw (gV wd_1731 wd_1732 wd_1733 wd_11 wd_1734) rfl rfl rfl (by decide +kernel) ⟨Nat.le_of_ble_eq_true rfl, Nat.le_of_ble_eq_true rfl⟩) (pre_V (ci := 10) (r := (RX10, TX10, 80)) hK hE hX hP hD hS hA [0, 1] (by decide) rfl rfl (q0 := 0) rfl) rfl rfl hl.1 rfl (lv_room (Nat.le_of_ble_eq_true rfl)) dL_law_750 ⟨Nat.le_of_ble_eq_true rfl, Nat.le_of_ble_eq_true rfl⟩) hP hD hS hA [0, 1] [] rfl rfl (by decide) (by decide) (fun r_6 u_4 H locs hp_5 hP hD hS => ?_)
  subst hp_5
  have hP : va_P D vwCl (([] : va_W)) H := hP
  have hD : va_D A (([] : va_W)) := hD
  refine lv_icmp_eq (tgt := 1566) hx hb dL_law_753 (by decide) (fun _ => ?_) (fun h => absurd (by decide) h)
  exact law_end C hS (lv_sub hl [0, 1, 2, 3] rfl)
set_option maxHeartbeats 4000000 in
set_option maxRecDepth 100000 in
/-- ahead -/
theorem lawm_ahead {p : Program} {l : Launch} {e : Env} {s : State} {m : MethodId} {below : List Frame} {meth : Method} {c : Code} {D : va_G} {k : Nat → ClassId} {sd : Nat → Nat} {A : Nat → Prop} {b : Nat} {xs : Nat → Int32} {x y : Nat} {u : Nat → Nat → Nat} {v : Nat → Nat} {H : Heap} {locs : List Loc} {ls : Array Slot} (C : LC p s m meth c D k sd A b xs) (hP : va_P D vwCl (SW1 k x u y v) H) (hD : va_D A (SW1 k x u y v)) (hS : va_S A s.heap H locs) (hl : lv_has ls 4 [(0, .ref b), (1, .ref x), (2, .ref y), (3, .int 0)]) : W p l e room_1 s m #[Value.ref b] below meth c H locs 287 18933 (lw_Z below #[Value.ref b] s) (F0 m 758 ls []) := by
  obtain ⟨hx, hb, hr, hml, hown, hw, hXs, hbl, hlocks, hK, hE, hX, hA, hAr, hbA⟩ := id C
  refine lv_aload_n hx hb dL_law_758 rfl (lv_at hl 1 rfl) ?_
  refine lv_aload_n hx hb dL_law_759 rfl (lv_at hl 0 rfl) ?_
  refine lv_iload_n hx hb dL_law_760 rfl (lv_at hl 3 rfl) ?_
  refine lv_iconst (v := 1) hx hb dL_law_761 (by decide) ?_
  refine lv_iadd hx hb dL_law_762 ?_
  refine x_top (v := 1) (by decide) ?_
  refine va_sld hx hb hXs hbl hbA hS (i := 1) (by unfold vp_in; decide) dL_law_763 ?_
  refine x_top (v := xs 1) rfl ?_
  refine lv_aload_n hx hb dL_law_764 rfl (lv_at hl 0 rfl) ?_
  refine lv_iload_n hx hb dL_law_765 rfl (lv_at hl 3 rfl) ?_
  refine lv_iconst (v := 2) hx hb dL_law_766 (by decide) ?_
  refine lv_iadd hx hb dL_law_767 ?_
  refine x_top (v := 2) (by decide) ?_
  refine va_sld hx hb hXs hbl hbA hS (i := 2) (by unfold vp_in; decide) dL_law_768 ?_
  refine x_top (v := xs 2) rfl ?_
  refine x_i (wr := C10 k y v) (va_runV (As := [.int (xs 1), .int (xs 2)]) (rest := []) ⟨hx, hb, hml, hown, hw⟩ (kX9_ahead l D k sd x u (xs 1) (xs 2) H.size) (cwV 2 hw (gV wd_842 wd_843 wd_844 wd_1 wd_845) rfl rfl rfl (by decide +kernel) ⟨Nat.le_of_ble_eq_true rfl, Nat.le_of_ble_eq_true rfl⟩) (pre_V (ci := 9) (r := (RX9, TX9, 12)) hK hE hX hP hD hS hA [0, 3, 2, 4, 5, 1] (by decide) rfl rfl (q0 := 0) rfl) rfl rfl hl.1 rfl (lv_room (Nat.le_of_ble_eq_true rfl)) dL_law_769 ⟨Nat.le_of_ble_eq_true rfl, Nat.le_of_ble_eq_true rfl⟩) hP hD hS hA [0, 3, 2, 4, 5, 1] [6, 7] rfl rfl (by decide) (by decide) (fun r_3 u_1 H locs hp_2 hP hD hS => ?_)
  subst hp_2
  have hP : va_P D vwCl (C10 k y v) H := hP
  have hD : va_D A (C10 k y v) := hD
  refine lv_aload_n hx hb dL_law_772 rfl (lv_at hl 2 rfl) ?_
  refine lv_aload_n hx hb dL_law_773 rfl (lv_at hl 0 rfl) ?_
  refine lv_iload_n hx hb dL_law_774 rfl (lv_at hl 3 rfl) ?_
  refine lv_iconst (v := 1) hx hb dL_law_775 (by decide) ?_
  refine lv_iadd hx hb dL_law_776 ?_
  refine x_top (v := 1) (by decide) ?_
  refine va_sld hx hb hXs hbl hbA hS (i := 1) (by unfold vp_in; decide) dL_law_777 ?_
  refine x_top (v := xs 1) rfl ?_
  refine lv_aload_n hx hb dL_law_778 rfl (lv_at hl 0 rfl) ?_
  refine lv_iload_n hx hb dL_law_779 rfl (lv_at hl 3 rfl) ?_
  refine lv_iconst (v := 2) hx hb dL_law_780 (by decide) ?_
  refine lv_iadd hx hb dL_law_781 ?_
  refine x_top (v := 2) (by decide) ?_
  refine va_sld hx hb hXs hbl hbA hS (i := 2) (by unfold vp_in; decide) dL_law_782 ?_
  refine x_top (v := xs 2) rfl ?_
  refine x_i (wr := ([] : va_W)) (va_runV (As := [.int (xs 1), .int (xs 2)]) (rest := [.int (-2)]) ⟨hx, hb, hml, hown, hw⟩ (kX10_ahead l D k sd y v (xs 1) (xs 2) H.size) (cwV 2 hw (gV wd_1735 wd_1736 wd_1737 wd_11 wd_1738) rfl rfl rfl (by decide +kernel) ⟨Nat.le_of_ble_eq_true rfl, Nat.le_of_ble_eq_true rfl⟩) (pre_V (ci := 10) (r := (RX10, TX10, 80)) hK hE hX hP hD hS hA [0, 1] (by decide) rfl rfl (q0 := 0) rfl) rfl rfl hl.1 rfl (lv_room (Nat.le_of_ble_eq_true rfl)) dL_law_783 ⟨Nat.le_of_ble_eq_true rfl, Nat.le_of_ble_eq_true rfl⟩) hP hD hS hA [0, 1] [] rfl rfl (by decide) (by decide) (fun r_6 u_4 H locs hp_5 hP hD hS => ?_)
  subst hp_5
  have hP : va_P D vwCl (([] : va_W)) H := hP
  have hD : va_D A (([] : va_W)) := hD
  refine lv_icmp_eq (tgt := 1566) hx hb dL_law_786 (by decide) (fun _ => ?_) (fun h => absurd (by decide) h)
  exact law_end C hS (lv_sub hl [0, 1, 2, 3] rfl)
set_option maxHeartbeats 4000000 in
set_option maxRecDepth 100000 in
/-- dam -/
theorem lawm_dam {p : Program} {l : Launch} {e : Env} {s : State} {m : MethodId} {below : List Frame} {meth : Method} {c : Code} {D : va_G} {k : Nat → ClassId} {sd : Nat → Nat} {A : Nat → Prop} {b : Nat} {xs : Nat → Int32} {x y : Nat} {u : Nat → Nat → Nat} {v : Nat → Nat} {H : Heap} {locs : List Loc} {ls : Array Slot} (C : LC p s m meth c D k sd A b xs) (hP : va_P D vwCl (SW1 k x u y v) H) (hD : va_D A (SW1 k x u y v)) (hS : va_S A s.heap H locs) (hl : lv_has ls 4 [(0, .ref b), (1, .ref x), (2, .ref y), (3, .int 0)]) : W p l e room_1 s m #[Value.ref b] below meth c H locs 287 18933 (lw_Z below #[Value.ref b] s) (F0 m 791 ls []) := by
  obtain ⟨hx, hb, hr, hml, hown, hw, hXs, hbl, hlocks, hK, hE, hX, hA, hAr, hbA⟩ := id C
  refine lv_aload_n hx hb dL_law_791 rfl (lv_at hl 1 rfl) ?_
  refine lv_aload_n hx hb dL_law_792 rfl (lv_at hl 0 rfl) ?_
  refine lv_iload_n hx hb dL_law_793 rfl (lv_at hl 3 rfl) ?_
  refine lv_iconst (v := 1) hx hb dL_law_794 (by decide) ?_
  refine lv_iadd hx hb dL_law_795 ?_
  refine x_top (v := 1) (by decide) ?_
  refine va_sld hx hb hXs hbl hbA hS (i := 1) (by unfold vp_in; decide) dL_law_796 ?_
  refine x_top (v := xs 1) rfl ?_
  refine x_i (wr := C10 k y v) (va_runV (As := [.int (xs 1)]) (rest := []) ⟨hx, hb, hml, hown, hw⟩ (kX9_dam l D k sd x u (xs 1) H.size) (cwV 1 hw (gV wd_846 wd_847 wd_848 wd_1 wd_849) rfl rfl rfl (by decide +kernel) ⟨Nat.le_of_ble_eq_true rfl, Nat.le_of_ble_eq_true rfl⟩) (pre_V (ci := 9) (r := (RX9, TX9, 12)) hK hE hX hP hD hS hA [0, 3, 2, 4, 5, 1] (by decide) rfl rfl (q0 := 0) rfl) rfl rfl hl.1 rfl (lv_room (Nat.le_of_ble_eq_true rfl)) dL_law_797 ⟨Nat.le_of_ble_eq_true rfl, Nat.le_of_ble_eq_true rfl⟩) hP hD hS hA [0, 3, 2, 4, 5, 1] [6, 7] rfl rfl (by decide) (by decide) (fun r_3 u_1 H locs hp_2 hP hD hS => ?_)
  subst hp_2
  have hP : va_P D vwCl (C10 k y v) H := hP
  have hD : va_D A (C10 k y v) := hD
  refine lv_aload_n hx hb dL_law_800 rfl (lv_at hl 2 rfl) ?_
  refine lv_aload_n hx hb dL_law_801 rfl (lv_at hl 0 rfl) ?_
  refine lv_iload_n hx hb dL_law_802 rfl (lv_at hl 3 rfl) ?_
  refine lv_iconst (v := 1) hx hb dL_law_803 (by decide) ?_
  refine lv_iadd hx hb dL_law_804 ?_
  refine x_top (v := 1) (by decide) ?_
  refine va_sld hx hb hXs hbl hbA hS (i := 1) (by unfold vp_in; decide) dL_law_805 ?_
  refine x_top (v := xs 1) rfl ?_
  refine x_i (wr := ([] : va_W)) (va_runV (As := [.int (xs 1)]) (rest := [.int (-2)]) ⟨hx, hb, hml, hown, hw⟩ (kX10_dam l D k sd y v (xs 1) H.size) (cwV 1 hw (gV wd_1739 wd_1740 wd_1741 wd_11 wd_1742) rfl rfl rfl (by decide +kernel) ⟨Nat.le_of_ble_eq_true rfl, Nat.le_of_ble_eq_true rfl⟩) (pre_V (ci := 10) (r := (RX10, TX10, 80)) hK hE hX hP hD hS hA [0, 1] (by decide) rfl rfl (q0 := 0) rfl) rfl rfl hl.1 rfl (lv_room (Nat.le_of_ble_eq_true rfl)) dL_law_806 ⟨Nat.le_of_ble_eq_true rfl, Nat.le_of_ble_eq_true rfl⟩) hP hD hS hA [0, 1] [] rfl rfl (by decide) (by decide) (fun r_6 u_4 H locs hp_5 hP hD hS => ?_)
  subst hp_5
  have hP : va_P D vwCl (([] : va_W)) H := hP
  have hD : va_D A (([] : va_W)) := hD
  refine lv_icmp_eq (tgt := 1566) hx hb dL_law_809 (by decide) (fun _ => ?_) (fun h => absurd (by decide) h)
  exact law_end C hS (lv_sub hl [0, 1, 2, 3] rfl)
set_option maxHeartbeats 4000000 in
set_option maxRecDepth 100000 in
/-- appeal -/
theorem lawm_appeal {p : Program} {l : Launch} {e : Env} {s : State} {m : MethodId} {below : List Frame} {meth : Method} {c : Code} {D : va_G} {k : Nat → ClassId} {sd : Nat → Nat} {A : Nat → Prop} {b : Nat} {xs : Nat → Int32} {x y : Nat} {u : Nat → Nat → Nat} {v : Nat → Nat} {H : Heap} {locs : List Loc} {ls : Array Slot} (C : LC p s m meth c D k sd A b xs) (hP : va_P D vwCl (SW1 k x u y v) H) (hD : va_D A (SW1 k x u y v)) (hS : va_S A s.heap H locs) (hl : lv_has ls 4 [(0, .ref b), (1, .ref x), (2, .ref y), (3, .int 0)]) : W p l e room_1 s m #[Value.ref b] below meth c H locs 287 18933 (lw_Z below #[Value.ref b] s) (F0 m 814 ls []) := by
  obtain ⟨hx, hb, hr, hml, hown, hw, hXs, hbl, hlocks, hK, hE, hX, hA, hAr, hbA⟩ := id C
  refine lv_aload_n hx hb dL_law_814 rfl (lv_at hl 1 rfl) ?_
  refine lv_aload_n hx hb dL_law_815 rfl (lv_at hl 0 rfl) ?_
  refine lv_iload_n hx hb dL_law_816 rfl (lv_at hl 3 rfl) ?_
  refine lv_iconst (v := 1) hx hb dL_law_817 (by decide) ?_
  refine lv_iadd hx hb dL_law_818 ?_
  refine x_top (v := 1) (by decide) ?_
  refine va_sld hx hb hXs hbl hbA hS (i := 1) (by unfold vp_in; decide) dL_law_819 ?_
  refine x_top (v := xs 1) rfl ?_
  refine x_i (wr := C10 k y v) (va_runV (As := [.int (xs 1)]) (rest := []) ⟨hx, hb, hml, hown, hw⟩ (kX9_appeal l D k sd x u (xs 1) H.size) (cwV 1 hw (gV wd_850 wd_851 wd_852 wd_1 wd_853) rfl rfl rfl (by decide +kernel) ⟨Nat.le_of_ble_eq_true rfl, Nat.le_of_ble_eq_true rfl⟩) (pre_V (ci := 9) (r := (RX9, TX9, 12)) hK hE hX hP hD hS hA [0, 3, 2, 4, 5, 1] (by decide) rfl rfl (q0 := 0) rfl) rfl rfl hl.1 rfl (lv_room (Nat.le_of_ble_eq_true rfl)) dL_law_820 ⟨Nat.le_of_ble_eq_true rfl, Nat.le_of_ble_eq_true rfl⟩) hP hD hS hA [0, 3, 2, 4, 5, 1] [6, 7] rfl rfl (by decide) (by decide) (fun r_3 u_1 H locs hp_2 hP hD hS => ?_)
  subst hp_2
  have hP : va_P D vwCl (C10 k y v) H := hP
  have hD : va_D A (C10 k y v) := hD
  refine lv_aload_n hx hb dL_law_823 rfl (lv_at hl 2 rfl) ?_
  refine lv_aload_n hx hb dL_law_824 rfl (lv_at hl 0 rfl) ?_
  refine lv_iload_n hx hb dL_law_825 rfl (lv_at hl 3 rfl) ?_
  refine lv_iconst (v := 1) hx hb dL_law_826 (by decide) ?_
  refine lv_iadd hx hb dL_law_827 ?_
  refine x_top (v := 1) (by decide) ?_
  refine va_sld hx hb hXs hbl hbA hS (i := 1) (by unfold vp_in; decide) dL_law_828 ?_
  refine x_top (v := xs 1) rfl ?_
  refine x_i (wr := ([] : va_W)) (va_runV (As := [.int (xs 1)]) (rest := [.int (-2)]) ⟨hx, hb, hml, hown, hw⟩ (kX10_appeal l D k sd y v (xs 1) H.size) (cwV 1 hw (gV wd_1751 wd_1752 wd_1753 wd_11 wd_1754) rfl rfl rfl (by decide +kernel) ⟨Nat.le_of_ble_eq_true rfl, Nat.le_of_ble_eq_true rfl⟩) (pre_V (ci := 10) (r := (RX10, TX10, 80)) hK hE hX hP hD hS hA [0, 1] (by decide) rfl rfl (q0 := 0) rfl) rfl rfl hl.1 rfl (lv_room (Nat.le_of_ble_eq_true rfl)) dL_law_829 ⟨Nat.le_of_ble_eq_true rfl, Nat.le_of_ble_eq_true rfl⟩) hP hD hS hA [0, 1] [] rfl rfl (by decide) (by decide) (fun r_6 u_4 H locs hp_5 hP hD hS => ?_)
  subst hp_5
  have hP : va_P D vwCl (([] : va_W)) H := hP
  have hD : va_D A (([] : va_W)) := hD
  refine lv_icmp_eq (tgt := 1566) hx hb dL_law_832 (by decide) (fun _ => ?_) (fun h => absurd (by decide) h)
  exact law_end C hS (lv_sub hl [0, 1, 2, 3] rfl)
set_option maxHeartbeats 4000000 in
set_option maxRecDepth 100000 in
/-- votes -/
theorem lawm_votes {p : Program} {l : Launch} {e : Env} {s : State} {m : MethodId} {below : List Frame} {meth : Method} {c : Code} {D : va_G} {k : Nat → ClassId} {sd : Nat → Nat} {A : Nat → Prop} {b : Nat} {xs : Nat → Int32} {x y : Nat} {u : Nat → Nat → Nat} {v : Nat → Nat} {H : Heap} {locs : List Loc} {ls : Array Slot} (C : LC p s m meth c D k sd A b xs) (hP : va_P D vwCl (SW1 k x u y v) H) (hD : va_D A (SW1 k x u y v)) (hS : va_S A s.heap H locs) (hl : lv_has ls 4 [(0, .ref b), (1, .ref x), (2, .ref y), (3, .int 0)]) : W p l e room_1 s m #[Value.ref b] below meth c H locs 287 18933 (lw_Z below #[Value.ref b] s) (F0 m 837 ls []) := by
  obtain ⟨hx, hb, hr, hml, hown, hw, hXs, hbl, hlocks, hK, hE, hX, hA, hAr, hbA⟩ := id C
  refine lv_aload_n hx hb dL_law_837 rfl (lv_at hl 1 rfl) ?_
  refine lv_aload_n hx hb dL_law_838 rfl (lv_at hl 0 rfl) ?_
  refine lv_iload_n hx hb dL_law_839 rfl (lv_at hl 3 rfl) ?_
  refine lv_iconst (v := 1) hx hb dL_law_840 (by decide) ?_
  refine lv_iadd hx hb dL_law_841 ?_
  refine x_top (v := 1) (by decide) ?_
  refine va_sld hx hb hXs hbl hbA hS (i := 1) (by unfold vp_in; decide) dL_law_842 ?_
  refine x_top (v := xs 1) rfl ?_
  refine lv_aload_n hx hb dL_law_843 rfl (lv_at hl 0 rfl) ?_
  refine lv_iload_n hx hb dL_law_844 rfl (lv_at hl 3 rfl) ?_
  refine lv_iconst (v := 2) hx hb dL_law_845 (by decide) ?_
  refine lv_iadd hx hb dL_law_846 ?_
  refine x_top (v := 2) (by decide) ?_
  refine va_sld hx hb hXs hbl hbA hS (i := 2) (by unfold vp_in; decide) dL_law_847 ?_
  refine x_top (v := xs 2) rfl ?_
  refine x_i (wr := C10 k y v) (va_runV (As := [.int (xs 1), .int (xs 2)]) (rest := []) ⟨hx, hb, hml, hown, hw⟩ (kX9_votes l D k sd x u (xs 1) (xs 2) H.size) (cwV 2 hw (gV wd_867 wd_868 wd_869 wd_1 wd_870) rfl rfl rfl (by decide +kernel) ⟨Nat.le_of_ble_eq_true rfl, Nat.le_of_ble_eq_true rfl⟩) (pre_V (ci := 9) (r := (RX9, TX9, 12)) hK hE hX hP hD hS hA [0, 3, 2, 4, 5, 1] (by decide) rfl rfl (q0 := 0) rfl) rfl rfl hl.1 rfl (lv_room (Nat.le_of_ble_eq_true rfl)) dL_law_848 ⟨Nat.le_of_ble_eq_true rfl, Nat.le_of_ble_eq_true rfl⟩) hP hD hS hA [0, 3, 2, 4, 5, 1] [6, 7] rfl rfl (by decide) (by decide) (fun r_3 u_1 H locs hp_2 hP hD hS => ?_)
  subst hp_2
  have hP : va_P D vwCl (C10 k y v) H := hP
  have hD : va_D A (C10 k y v) := hD
  refine lv_aload_n hx hb dL_law_851 rfl (lv_at hl 2 rfl) ?_
  refine lv_aload_n hx hb dL_law_852 rfl (lv_at hl 0 rfl) ?_
  refine lv_iload_n hx hb dL_law_853 rfl (lv_at hl 3 rfl) ?_
  refine lv_iconst (v := 1) hx hb dL_law_854 (by decide) ?_
  refine lv_iadd hx hb dL_law_855 ?_
  refine x_top (v := 1) (by decide) ?_
  refine va_sld hx hb hXs hbl hbA hS (i := 1) (by unfold vp_in; decide) dL_law_856 ?_
  refine x_top (v := xs 1) rfl ?_
  refine lv_aload_n hx hb dL_law_857 rfl (lv_at hl 0 rfl) ?_
  refine lv_iload_n hx hb dL_law_858 rfl (lv_at hl 3 rfl) ?_
  refine lv_iconst (v := 2) hx hb dL_law_859 (by decide) ?_
  refine lv_iadd hx hb dL_law_860 ?_
  refine x_top (v := 2) (by decide) ?_
  refine va_sld hx hb hXs hbl hbA hS (i := 2) (by unfold vp_in; decide) dL_law_861 ?_
  refine x_top (v := xs 2) rfl ?_
  refine x_i (wr := ([] : va_W)) (va_runV (As := [.int (xs 1), .int (xs 2)]) (rest := [.int (-1)]) ⟨hx, hb, hml, hown, hw⟩ (kX10_votes l D k sd y v (xs 1) (xs 2) H.size) (cwV 2 hw (gV wd_1743 wd_1744 wd_1745 wd_11 wd_1746) rfl rfl rfl (by decide +kernel) ⟨Nat.le_of_ble_eq_true rfl, Nat.le_of_ble_eq_true rfl⟩) (pre_V (ci := 10) (r := (RX10, TX10, 80)) hK hE hX hP hD hS hA [0, 1] (by decide) rfl rfl (q0 := 0) rfl) rfl rfl hl.1 rfl (lv_room (Nat.le_of_ble_eq_true rfl)) dL_law_862 ⟨Nat.le_of_ble_eq_true rfl, Nat.le_of_ble_eq_true rfl⟩) hP hD hS hA [0, 1] [] rfl rfl (by decide) (by decide) (fun r_6 u_4 H locs hp_5 hP hD hS => ?_)
  subst hp_5
  have hP : va_P D vwCl (([] : va_W)) H := hP
  have hD : va_D A (([] : va_W)) := hD
  refine lv_icmp_eq (tgt := 1566) hx hb dL_law_865 (by decide) (fun _ => ?_) (fun h => absurd (by decide) h)
  exact law_end C hS (lv_sub hl [0, 1, 2, 3] rfl)
set_option maxHeartbeats 4000000 in
set_option maxRecDepth 100000 in
/-- flood -/
theorem lawm_flood {p : Program} {l : Launch} {e : Env} {s : State} {m : MethodId} {below : List Frame} {meth : Method} {c : Code} {D : va_G} {k : Nat → ClassId} {sd : Nat → Nat} {A : Nat → Prop} {b : Nat} {xs : Nat → Int32} {x y : Nat} {u : Nat → Nat → Nat} {v : Nat → Nat} {H : Heap} {locs : List Loc} {ls : Array Slot} (C : LC p s m meth c D k sd A b xs) (hP : va_P D vwCl (SW1 k x u y v) H) (hD : va_D A (SW1 k x u y v)) (hS : va_S A s.heap H locs) (hl : lv_has ls 4 [(0, .ref b), (1, .ref x), (2, .ref y), (3, .int 0)]) : W p l e room_1 s m #[Value.ref b] below meth c H locs 287 18933 (lw_Z below #[Value.ref b] s) (F0 m 870 ls []) := by
  obtain ⟨hx, hb, hr, hml, hown, hw, hXs, hbl, hlocks, hK, hE, hX, hA, hAr, hbA⟩ := id C
  refine lv_aload_n hx hb dL_law_870 rfl (lv_at hl 1 rfl) ?_
  refine lv_aload_n hx hb dL_law_871 rfl (lv_at hl 0 rfl) ?_
  refine lv_iload_n hx hb dL_law_872 rfl (lv_at hl 3 rfl) ?_
  refine lv_iconst (v := 1) hx hb dL_law_873 (by decide) ?_
  refine lv_iadd hx hb dL_law_874 ?_
  refine x_top (v := 1) (by decide) ?_
  refine va_sld hx hb hXs hbl hbA hS (i := 1) (by unfold vp_in; decide) dL_law_875 ?_
  refine x_top (v := xs 1) rfl ?_
  refine x_i (wr := C10 k y v) (va_runV (As := [.int (xs 1)]) (rest := []) ⟨hx, hb, hml, hown, hw⟩ (kX9_flood l D k sd x u (xs 1) H.size) (cwV 1 hw (gV wd_871 wd_872 wd_873 wd_1 wd_874) rfl rfl rfl (by decide +kernel) ⟨Nat.le_of_ble_eq_true rfl, Nat.le_of_ble_eq_true rfl⟩) (pre_V (ci := 9) (r := (RX9, TX9, 12)) hK hE hX hP hD hS hA [0, 3, 2, 4, 5, 1] (by decide) rfl rfl (q0 := 0) rfl) rfl rfl hl.1 rfl (lv_room (Nat.le_of_ble_eq_true rfl)) dL_law_876 ⟨Nat.le_of_ble_eq_true rfl, Nat.le_of_ble_eq_true rfl⟩) hP hD hS hA [0, 3, 2, 4, 5, 1] [6, 7] rfl rfl (by decide) (by decide) (fun r_3 u_1 H locs hp_2 hP hD hS => ?_)
  subst hp_2
  have hP : va_P D vwCl (C10 k y v) H := hP
  have hD : va_D A (C10 k y v) := hD
  refine lv_aload_n hx hb dL_law_879 rfl (lv_at hl 2 rfl) ?_
  refine lv_aload_n hx hb dL_law_880 rfl (lv_at hl 0 rfl) ?_
  refine lv_iload_n hx hb dL_law_881 rfl (lv_at hl 3 rfl) ?_
  refine lv_iconst (v := 1) hx hb dL_law_882 (by decide) ?_
  refine lv_iadd hx hb dL_law_883 ?_
  refine x_top (v := 1) (by decide) ?_
  refine va_sld hx hb hXs hbl hbA hS (i := 1) (by unfold vp_in; decide) dL_law_884 ?_
  refine x_top (v := xs 1) rfl ?_
  refine x_i (wr := ([] : va_W)) (va_runV (As := [.int (xs 1)]) (rest := [.int (-2)]) ⟨hx, hb, hml, hown, hw⟩ (kX10_flood l D k sd y v (xs 1) H.size) (cwV 1 hw (gV wd_1755 wd_1756 wd_1757 wd_11 wd_1758) rfl rfl rfl (by decide +kernel) ⟨Nat.le_of_ble_eq_true rfl, Nat.le_of_ble_eq_true rfl⟩) (pre_V (ci := 10) (r := (RX10, TX10, 80)) hK hE hX hP hD hS hA [0, 1] (by decide) rfl rfl (q0 := 0) rfl) rfl rfl hl.1 rfl (lv_room (Nat.le_of_ble_eq_true rfl)) dL_law_885 ⟨Nat.le_of_ble_eq_true rfl, Nat.le_of_ble_eq_true rfl⟩) hP hD hS hA [0, 1] [] rfl rfl (by decide) (by decide) (fun r_6 u_4 H locs hp_5 hP hD hS => ?_)
  subst hp_5
  have hP : va_P D vwCl (([] : va_W)) H := hP
  have hD : va_D A (([] : va_W)) := hD
  refine lv_icmp_eq (tgt := 1566) hx hb dL_law_888 (by decide) (fun _ => ?_) (fun h => absurd (by decide) h)
  exact law_end C hS (lv_sub hl [0, 1, 2, 3] rfl)
set_option maxHeartbeats 4000000 in
set_option maxRecDepth 100000 in
/-- elected -/
theorem lawm_elected {p : Program} {l : Launch} {e : Env} {s : State} {m : MethodId} {below : List Frame} {meth : Method} {c : Code} {D : va_G} {k : Nat → ClassId} {sd : Nat → Nat} {A : Nat → Prop} {b : Nat} {xs : Nat → Int32} {x y : Nat} {u : Nat → Nat → Nat} {v : Nat → Nat} {H : Heap} {locs : List Loc} {ls : Array Slot} (C : LC p s m meth c D k sd A b xs) (hP : va_P D vwCl (SW1 k x u y v) H) (hD : va_D A (SW1 k x u y v)) (hS : va_S A s.heap H locs) (hl : lv_has ls 4 [(0, .ref b), (1, .ref x), (2, .ref y), (3, .int 0)]) : W p l e room_1 s m #[Value.ref b] below meth c H locs 287 18933 (lw_Z below #[Value.ref b] s) (F0 m 893 ls []) := by
  obtain ⟨hx, hb, hr, hml, hown, hw, hXs, hbl, hlocks, hK, hE, hX, hA, hAr, hbA⟩ := id C
  refine lv_aload_n hx hb dL_law_893 rfl (lv_at hl 1 rfl) ?_
  refine lv_aload_n hx hb dL_law_894 rfl (lv_at hl 0 rfl) ?_
  refine lv_iload_n hx hb dL_law_895 rfl (lv_at hl 3 rfl) ?_
  refine lv_iconst (v := 1) hx hb dL_law_896 (by decide) ?_
  refine lv_iadd hx hb dL_law_897 ?_
  refine x_top (v := 1) (by decide) ?_
  refine va_sld hx hb hXs hbl hbA hS (i := 1) (by unfold vp_in; decide) dL_law_898 ?_
  refine x_top (v := xs 1) rfl ?_
  refine x_i (wr := C10 k y v) (va_runV (As := [.int (xs 1)]) (rest := []) ⟨hx, hb, hml, hown, hw⟩ (kX9_elected l D k sd x u (xs 1) H.size) (cwV 1 hw (gV wd_906 wd_907 wd_908 wd_1 wd_909) rfl rfl rfl (by decide +kernel) ⟨Nat.le_of_ble_eq_true rfl, Nat.le_of_ble_eq_true rfl⟩) (pre_V (ci := 9) (r := (RX9, TX9, 12)) hK hE hX hP hD hS hA [0, 3, 2, 4, 5, 1] (by decide) rfl rfl (q0 := 0) rfl) rfl rfl hl.1 rfl (lv_room (Nat.le_of_ble_eq_true rfl)) dL_law_899 ⟨Nat.le_of_ble_eq_true rfl, Nat.le_of_ble_eq_true rfl⟩) hP hD hS hA [0, 3, 2, 4, 5, 1] [6, 7] rfl rfl (by decide) (by decide) (fun r_3 u_1 H locs hp_2 hP hD hS => ?_)
  subst hp_2
  have hP : va_P D vwCl (C10 k y v) H := hP
  have hD : va_D A (C10 k y v) := hD
  refine lv_aload_n hx hb dL_law_902 rfl (lv_at hl 2 rfl) ?_
  refine lv_aload_n hx hb dL_law_903 rfl (lv_at hl 0 rfl) ?_
  refine lv_iload_n hx hb dL_law_904 rfl (lv_at hl 3 rfl) ?_
  refine lv_iconst (v := 1) hx hb dL_law_905 (by decide) ?_
  refine lv_iadd hx hb dL_law_906 ?_
  refine x_top (v := 1) (by decide) ?_
  refine va_sld hx hb hXs hbl hbA hS (i := 1) (by unfold vp_in; decide) dL_law_907 ?_
  refine x_top (v := xs 1) rfl ?_
  refine x_i (wr := ([] : va_W)) (va_runV (As := [.int (xs 1)]) (rest := [.int (-1)]) ⟨hx, hb, hml, hown, hw⟩ (kX10_elected l D k sd y v (xs 1) H.size) (cwV 1 hw (gV wd_1772 wd_1773 wd_1774 wd_11 wd_1775) rfl rfl rfl (by decide +kernel) ⟨Nat.le_of_ble_eq_true rfl, Nat.le_of_ble_eq_true rfl⟩) (pre_V (ci := 10) (r := (RX10, TX10, 80)) hK hE hX hP hD hS hA [0, 1] (by decide) rfl rfl (q0 := 0) rfl) rfl rfl hl.1 rfl (lv_room (Nat.le_of_ble_eq_true rfl)) dL_law_908 ⟨Nat.le_of_ble_eq_true rfl, Nat.le_of_ble_eq_true rfl⟩) hP hD hS hA [0, 1] [] rfl rfl (by decide) (by decide) (fun r_6 u_4 H locs hp_5 hP hD hS => ?_)
  subst hp_5
  have hP : va_P D vwCl (([] : va_W)) H := hP
  have hD : va_D A (([] : va_W)) := hD
  refine lv_icmp_eq (tgt := 1566) hx hb dL_law_911 (by decide) (fun _ => ?_) (fun h => absurd (by decide) h)
  exact law_end C hS (lv_sub hl [0, 1, 2, 3] rfl)
set_option maxHeartbeats 4000000 in
set_option maxRecDepth 100000 in
/-- wedding -/
theorem lawm_wedding {p : Program} {l : Launch} {e : Env} {s : State} {m : MethodId} {below : List Frame} {meth : Method} {c : Code} {D : va_G} {k : Nat → ClassId} {sd : Nat → Nat} {A : Nat → Prop} {b : Nat} {xs : Nat → Int32} {x y : Nat} {u : Nat → Nat → Nat} {v : Nat → Nat} {H : Heap} {locs : List Loc} {ls : Array Slot} (C : LC p s m meth c D k sd A b xs) (hP : va_P D vwCl (SW1 k x u y v) H) (hD : va_D A (SW1 k x u y v)) (hS : va_S A s.heap H locs) (hl : lv_has ls 4 [(0, .ref b), (1, .ref x), (2, .ref y), (3, .int 0)]) : W p l e room_1 s m #[Value.ref b] below meth c H locs 287 18933 (lw_Z below #[Value.ref b] s) (F0 m 916 ls []) := by
  obtain ⟨hx, hb, hr, hml, hown, hw, hXs, hbl, hlocks, hK, hE, hX, hA, hAr, hbA⟩ := id C
  refine lv_aload_n hx hb dL_law_916 rfl (lv_at hl 1 rfl) ?_
  refine lv_aload_n hx hb dL_law_917 rfl (lv_at hl 0 rfl) ?_
  refine lv_iload_n hx hb dL_law_918 rfl (lv_at hl 3 rfl) ?_
  refine lv_iconst (v := 1) hx hb dL_law_919 (by decide) ?_
  refine lv_iadd hx hb dL_law_920 ?_
  refine x_top (v := 1) (by decide) ?_
  refine va_sld hx hb hXs hbl hbA hS (i := 1) (by unfold vp_in; decide) dL_law_921 ?_
  refine x_top (v := xs 1) rfl ?_
  refine x_i (wr := C10 k y v) (va_runV (As := [.int (xs 1)]) (rest := []) ⟨hx, hb, hml, hown, hw⟩ (kX9_wedding l D k sd x u (xs 1) H.size) (cwV 1 hw (gV wd_918 wd_919 wd_920 wd_1 wd_921) rfl rfl rfl (by decide +kernel) ⟨Nat.le_of_ble_eq_true rfl, Nat.le_of_ble_eq_true rfl⟩) (pre_V (ci := 9) (r := (RX9, TX9, 12)) hK hE hX hP hD hS hA [0, 3, 2, 4, 5, 1] (by decide) rfl rfl (q0 := 0) rfl) rfl rfl hl.1 rfl (lv_room (Nat.le_of_ble_eq_true rfl)) dL_law_922 ⟨Nat.le_of_ble_eq_true rfl, Nat.le_of_ble_eq_true rfl⟩) hP hD hS hA [0, 3, 2, 4, 5, 1] [6, 7] rfl rfl (by decide) (by decide) (fun r_3 u_1 H locs hp_2 hP hD hS => ?_)
  subst hp_2
  have hP : va_P D vwCl (C10 k y v) H := hP
  have hD : va_D A (C10 k y v) := hD
  refine lv_aload_n hx hb dL_law_925 rfl (lv_at hl 2 rfl) ?_
  refine lv_aload_n hx hb dL_law_926 rfl (lv_at hl 0 rfl) ?_
  refine lv_iload_n hx hb dL_law_927 rfl (lv_at hl 3 rfl) ?_
  refine lv_iconst (v := 1) hx hb dL_law_928 (by decide) ?_
  refine lv_iadd hx hb dL_law_929 ?_
  refine x_top (v := 1) (by decide) ?_
  refine va_sld hx hb hXs hbl hbA hS (i := 1) (by unfold vp_in; decide) dL_law_930 ?_
  refine x_top (v := xs 1) rfl ?_
  refine x_i (wr := ([] : va_W)) (va_runV (As := [.int (xs 1)]) (rest := [.int (-2)]) ⟨hx, hb, hml, hown, hw⟩ (kX10_wedding l D k sd y v (xs 1) H.size) (cwV 1 hw (gV wd_1792 wd_1793 wd_1794 wd_11 wd_1795) rfl rfl rfl (by decide +kernel) ⟨Nat.le_of_ble_eq_true rfl, Nat.le_of_ble_eq_true rfl⟩) (pre_V (ci := 10) (r := (RX10, TX10, 80)) hK hE hX hP hD hS hA [0, 1] (by decide) rfl rfl (q0 := 0) rfl) rfl rfl hl.1 rfl (lv_room (Nat.le_of_ble_eq_true rfl)) dL_law_931 ⟨Nat.le_of_ble_eq_true rfl, Nat.le_of_ble_eq_true rfl⟩) hP hD hS hA [0, 1] [] rfl rfl (by decide) (by decide) (fun r_6 u_4 H locs hp_5 hP hD hS => ?_)
  subst hp_5
  have hP : va_P D vwCl (([] : va_W)) H := hP
  have hD : va_D A (([] : va_W)) := hD
  refine lv_icmp_eq (tgt := 1566) hx hb dL_law_934 (by decide) (fun _ => ?_) (fun h => absurd (by decide) h)
  exact law_end C hS (lv_sub hl [0, 1, 2, 3] rfl)
set_option maxHeartbeats 4000000 in
set_option maxRecDepth 100000 in
/-- winter -/
theorem lawm_winter {p : Program} {l : Launch} {e : Env} {s : State} {m : MethodId} {below : List Frame} {meth : Method} {c : Code} {D : va_G} {k : Nat → ClassId} {sd : Nat → Nat} {A : Nat → Prop} {b : Nat} {xs : Nat → Int32} {x y : Nat} {u : Nat → Nat → Nat} {v : Nat → Nat} {H : Heap} {locs : List Loc} {ls : Array Slot} (C : LC p s m meth c D k sd A b xs) (hP : va_P D vwCl (SW1 k x u y v) H) (hD : va_D A (SW1 k x u y v)) (hS : va_S A s.heap H locs) (hl : lv_has ls 4 [(0, .ref b), (1, .ref x), (2, .ref y), (3, .int 0)]) : W p l e room_1 s m #[Value.ref b] below meth c H locs 287 18933 (lw_Z below #[Value.ref b] s) (F0 m 939 ls []) := by
  obtain ⟨hx, hb, hr, hml, hown, hw, hXs, hbl, hlocks, hK, hE, hX, hA, hAr, hbA⟩ := id C
  refine lv_aload_n hx hb dL_law_939 rfl (lv_at hl 1 rfl) ?_
  refine lv_aload_n hx hb dL_law_940 rfl (lv_at hl 0 rfl) ?_
  refine lv_iload_n hx hb dL_law_941 rfl (lv_at hl 3 rfl) ?_
  refine lv_iconst (v := 1) hx hb dL_law_942 (by decide) ?_
  refine lv_iadd hx hb dL_law_943 ?_
  refine x_top (v := 1) (by decide) ?_
  refine va_sld hx hb hXs hbl hbA hS (i := 1) (by unfold vp_in; decide) dL_law_944 ?_
  refine x_top (v := xs 1) rfl ?_
  refine x_i (wr := C10 k y v) (va_runV (As := [.int (xs 1)]) (rest := []) ⟨hx, hb, hml, hown, hw⟩ (kX9_winter l D k sd x u (xs 1) H.size) (cwV 1 hw (gV wd_922 wd_923 wd_924 wd_1 wd_925) rfl rfl rfl (by decide +kernel) ⟨Nat.le_of_ble_eq_true rfl, Nat.le_of_ble_eq_true rfl⟩) (pre_V (ci := 9) (r := (RX9, TX9, 12)) hK hE hX hP hD hS hA [0, 3, 2, 4, 5, 1] (by decide) rfl rfl (q0 := 0) rfl) rfl rfl hl.1 rfl (lv_room (Nat.le_of_ble_eq_true rfl)) dL_law_945 ⟨Nat.le_of_ble_eq_true rfl, Nat.le_of_ble_eq_true rfl⟩) hP hD hS hA [0, 3, 2, 4, 5, 1] [6, 7] rfl rfl (by decide) (by decide) (fun r_3 u_1 H locs hp_2 hP hD hS => ?_)
  subst hp_2
  have hP : va_P D vwCl (C10 k y v) H := hP
  have hD : va_D A (C10 k y v) := hD
  refine lv_aload_n hx hb dL_law_948 rfl (lv_at hl 2 rfl) ?_
  refine lv_aload_n hx hb dL_law_949 rfl (lv_at hl 0 rfl) ?_
  refine lv_iload_n hx hb dL_law_950 rfl (lv_at hl 3 rfl) ?_
  refine lv_iconst (v := 1) hx hb dL_law_951 (by decide) ?_
  refine lv_iadd hx hb dL_law_952 ?_
  refine x_top (v := 1) (by decide) ?_
  refine va_sld hx hb hXs hbl hbA hS (i := 1) (by unfold vp_in; decide) dL_law_953 ?_
  refine x_top (v := xs 1) rfl ?_
  refine x_i (wr := ([] : va_W)) (va_runV (As := [.int (xs 1)]) (rest := [.int (-2)]) ⟨hx, hb, hml, hown, hw⟩ (kX10_winter l D k sd y v (xs 1) H.size) (cwV 1 hw (gV wd_1796 wd_1797 wd_1798 wd_11 wd_1799) rfl rfl rfl (by decide +kernel) ⟨Nat.le_of_ble_eq_true rfl, Nat.le_of_ble_eq_true rfl⟩) (pre_V (ci := 10) (r := (RX10, TX10, 80)) hK hE hX hP hD hS hA [0, 1] (by decide) rfl rfl (q0 := 0) rfl) rfl rfl hl.1 rfl (lv_room (Nat.le_of_ble_eq_true rfl)) dL_law_954 ⟨Nat.le_of_ble_eq_true rfl, Nat.le_of_ble_eq_true rfl⟩) hP hD hS hA [0, 1] [] rfl rfl (by decide) (by decide) (fun r_6 u_4 H locs hp_5 hP hD hS => ?_)
  subst hp_5
  have hP : va_P D vwCl (([] : va_W)) H := hP
  have hD : va_D A (([] : va_W)) := hD
  refine lv_icmp_eq (tgt := 1566) hx hb dL_law_957 (by decide) (fun _ => ?_) (fun h => absurd (by decide) h)
  exact law_end C hS (lv_sub hl [0, 1, 2, 3] rfl)
set_option maxHeartbeats 4000000 in
set_option maxRecDepth 100000 in
/-- days -/
theorem lawm_days {p : Program} {l : Launch} {e : Env} {s : State} {m : MethodId} {below : List Frame} {meth : Method} {c : Code} {D : va_G} {k : Nat → ClassId} {sd : Nat → Nat} {A : Nat → Prop} {b : Nat} {xs : Nat → Int32} {x y : Nat} {u : Nat → Nat → Nat} {v : Nat → Nat} {H : Heap} {locs : List Loc} {ls : Array Slot} (C : LC p s m meth c D k sd A b xs) (hP : va_P D vwCl (SW1 k x u y v) H) (hD : va_D A (SW1 k x u y v)) (hS : va_S A s.heap H locs) (hl : lv_has ls 4 [(0, .ref b), (1, .ref x), (2, .ref y), (3, .int 0)]) : W p l e room_1 s m #[Value.ref b] below meth c H locs 287 18933 (lw_Z below #[Value.ref b] s) (F0 m 962 ls []) := by
  obtain ⟨hx, hb, hr, hml, hown, hw, hXs, hbl, hlocks, hK, hE, hX, hA, hAr, hbA⟩ := id C
  refine lv_aload_n hx hb dL_law_962 rfl (lv_at hl 1 rfl) ?_
  refine lv_aload_n hx hb dL_law_963 rfl (lv_at hl 0 rfl) ?_
  refine lv_iload_n hx hb dL_law_964 rfl (lv_at hl 3 rfl) ?_
  refine lv_iconst (v := 1) hx hb dL_law_965 (by decide) ?_
  refine lv_iadd hx hb dL_law_966 ?_
  refine x_top (v := 1) (by decide) ?_
  refine va_sld hx hb hXs hbl hbA hS (i := 1) (by unfold vp_in; decide) dL_law_967 ?_
  refine x_top (v := xs 1) rfl ?_
  refine x_i (wr := C10 k y v) (va_runV (As := [.int (xs 1)]) (rest := []) ⟨hx, hb, hml, hown, hw⟩ (kX9_days l D k sd x u (xs 1) H.size) (cwV 1 hw (gV wd_931 wd_932 wd_933 wd_1 wd_934) rfl rfl rfl (by decide +kernel) ⟨Nat.le_of_ble_eq_true rfl, Nat.le_of_ble_eq_true rfl⟩) (pre_V (ci := 9) (r := (RX9, TX9, 12)) hK hE hX hP hD hS hA [0, 3, 2, 4, 5, 1] (by decide) rfl rfl (q0 := 0) rfl) rfl rfl hl.1 rfl (lv_room (Nat.le_of_ble_eq_true rfl)) dL_law_968 ⟨Nat.le_of_ble_eq_true rfl, Nat.le_of_ble_eq_true rfl⟩) hP hD hS hA [0, 3, 2, 4, 5, 1] [6, 7] rfl rfl (by decide) (by decide) (fun r_3 u_1 H locs hp_2 hP hD hS => ?_)
  subst hp_2
  have hP : va_P D vwCl (C10 k y v) H := hP
  have hD : va_D A (C10 k y v) := hD
  refine lv_aload_n hx hb dL_law_971 rfl (lv_at hl 2 rfl) ?_
  refine lv_aload_n hx hb dL_law_972 rfl (lv_at hl 0 rfl) ?_
  refine lv_iload_n hx hb dL_law_973 rfl (lv_at hl 3 rfl) ?_
  refine lv_iconst (v := 1) hx hb dL_law_974 (by decide) ?_
  refine lv_iadd hx hb dL_law_975 ?_
  refine x_top (v := 1) (by decide) ?_
  refine va_sld hx hb hXs hbl hbA hS (i := 1) (by unfold vp_in; decide) dL_law_976 ?_
  refine x_top (v := xs 1) rfl ?_
  refine x_i (wr := ([] : va_W)) (va_runV (As := [.int (xs 1)]) (rest := [.int (-2)]) ⟨hx, hb, hml, hown, hw⟩ (kX10_days l D k sd y v (xs 1) H.size) (cwV 1 hw (gV wd_1801 wd_1802 wd_1803 wd_11 wd_1804) rfl rfl rfl (by decide +kernel) ⟨Nat.le_of_ble_eq_true rfl, Nat.le_of_ble_eq_true rfl⟩) (pre_V (ci := 10) (r := (RX10, TX10, 80)) hK hE hX hP hD hS hA [0, 1] (by decide) rfl rfl (q0 := 0) rfl) rfl rfl hl.1 rfl (lv_room (Nat.le_of_ble_eq_true rfl)) dL_law_977 ⟨Nat.le_of_ble_eq_true rfl, Nat.le_of_ble_eq_true rfl⟩) hP hD hS hA [0, 1] [] rfl rfl (by decide) (by decide) (fun r_6 u_4 H locs hp_5 hP hD hS => ?_)
  subst hp_5
  have hP : va_P D vwCl (([] : va_W)) H := hP
  have hD : va_D A (([] : va_W)) := hD
  refine lv_icmp_eq (tgt := 1566) hx hb dL_law_980 (by decide) (fun _ => ?_) (fun h => absurd (by decide) h)
  exact law_end C hS (lv_sub hl [0, 1, 2, 3] rfl)
set_option maxHeartbeats 4000000 in
set_option maxRecDepth 100000 in
/-- floats -/
theorem lawm_floats {p : Program} {l : Launch} {e : Env} {s : State} {m : MethodId} {below : List Frame} {meth : Method} {c : Code} {D : va_G} {k : Nat → ClassId} {sd : Nat → Nat} {A : Nat → Prop} {b : Nat} {xs : Nat → Int32} {x y : Nat} {u : Nat → Nat → Nat} {v : Nat → Nat} {H : Heap} {locs : List Loc} {ls : Array Slot} (C : LC p s m meth c D k sd A b xs) (hP : va_P D vwCl (SW1 k x u y v) H) (hD : va_D A (SW1 k x u y v)) (hS : va_S A s.heap H locs) (hl : lv_has ls 4 [(0, .ref b), (1, .ref x), (2, .ref y), (3, .int 0)]) : W p l e room_1 s m #[Value.ref b] below meth c H locs 287 18933 (lw_Z below #[Value.ref b] s) (F0 m 985 ls []) := by
  obtain ⟨hx, hb, hr, hml, hown, hw, hXs, hbl, hlocks, hK, hE, hX, hA, hAr, hbA⟩ := id C
  refine lv_aload_n hx hb dL_law_985 rfl (lv_at hl 1 rfl) ?_
  refine lv_aload_n hx hb dL_law_986 rfl (lv_at hl 0 rfl) ?_
  refine lv_iload_n hx hb dL_law_987 rfl (lv_at hl 3 rfl) ?_
  refine lv_iconst (v := 1) hx hb dL_law_988 (by decide) ?_
  refine lv_iadd hx hb dL_law_989 ?_
  refine x_top (v := 1) (by decide) ?_
  refine va_sld hx hb hXs hbl hbA hS (i := 1) (by unfold vp_in; decide) dL_law_990 ?_
  refine x_top (v := xs 1) rfl ?_
  refine lv_aload_n hx hb dL_law_991 rfl (lv_at hl 0 rfl) ?_
  refine lv_iload_n hx hb dL_law_992 rfl (lv_at hl 3 rfl) ?_
  refine lv_iconst (v := 2) hx hb dL_law_993 (by decide) ?_
  refine lv_iadd hx hb dL_law_994 ?_
  refine x_top (v := 2) (by decide) ?_
  refine va_sld hx hb hXs hbl hbA hS (i := 2) (by unfold vp_in; decide) dL_law_995 ?_
  refine x_top (v := xs 2) rfl ?_
  refine x_i (wr := C10 k y v) (va_runV (As := [.int (xs 1), .int (xs 2)]) (rest := []) ⟨hx, hb, hml, hown, hw⟩ (kX9_floats l D k sd x u (xs 1) (xs 2) H.size) (cwV 2 hw (gV wd_966 wd_967 wd_968 wd_1 wd_969) rfl rfl rfl (by decide +kernel) ⟨Nat.le_of_ble_eq_true rfl, Nat.le_of_ble_eq_true rfl⟩) (pre_V (ci := 9) (r := (RX9, TX9, 12)) hK hE hX hP hD hS hA [0, 3, 2, 4, 5, 1] (by decide) rfl rfl (q0 := 0) rfl) rfl rfl hl.1 rfl (lv_room (Nat.le_of_ble_eq_true rfl)) dL_law_996 ⟨Nat.le_of_ble_eq_true rfl, Nat.le_of_ble_eq_true rfl⟩) hP hD hS hA [0, 3, 2, 4, 5, 1] [6, 7] rfl rfl (by decide) (by decide) (fun r_3 u_1 H locs hp_2 hP hD hS => ?_)
  subst hp_2
  have hP : va_P D vwCl (C10 k y v) H := hP
  have hD : va_D A (C10 k y v) := hD
  refine lv_aload_n hx hb dL_law_999 rfl (lv_at hl 2 rfl) ?_
  refine lv_aload_n hx hb dL_law_1000 rfl (lv_at hl 0 rfl) ?_
  refine lv_iload_n hx hb dL_law_1001 rfl (lv_at hl 3 rfl) ?_
  refine lv_iconst (v := 1) hx hb dL_law_1002 (by decide) ?_
  refine lv_iadd hx hb dL_law_1003 ?_
  refine x_top (v := 1) (by decide) ?_
  refine va_sld hx hb hXs hbl hbA hS (i := 1) (by unfold vp_in; decide) dL_law_1004 ?_
  refine x_top (v := xs 1) rfl ?_
  refine lv_aload_n hx hb dL_law_1005 rfl (lv_at hl 0 rfl) ?_
  refine lv_iload_n hx hb dL_law_1006 rfl (lv_at hl 3 rfl) ?_
  refine lv_iconst (v := 2) hx hb dL_law_1007 (by decide) ?_
  refine lv_iadd hx hb dL_law_1008 ?_
  refine x_top (v := 2) (by decide) ?_
  refine va_sld hx hb hXs hbl hbA hS (i := 2) (by unfold vp_in; decide) dL_law_1009 ?_
  refine x_top (v := xs 2) rfl ?_
  refine x_i (wr := ([] : va_W)) (va_runV (As := [.int (xs 1), .int (xs 2)]) (rest := [.int (-1)]) ⟨hx, hb, hml, hown, hw⟩ (kX10_floats l D k sd y v (xs 1) (xs 2) H.size) (cwV 2 hw (gV wd_1846 wd_1847 wd_1848 wd_11 wd_1849) rfl rfl rfl (by decide +kernel) ⟨Nat.le_of_ble_eq_true rfl, Nat.le_of_ble_eq_true rfl⟩) (pre_V (ci := 10) (r := (RX10, TX10, 80)) hK hE hX hP hD hS hA [0, 1] (by decide) rfl rfl (q0 := 0) rfl) rfl rfl hl.1 rfl (lv_room (Nat.le_of_ble_eq_true rfl)) dL_law_1010 ⟨Nat.le_of_ble_eq_true rfl, Nat.le_of_ble_eq_true rfl⟩) hP hD hS hA [0, 1] [] rfl rfl (by decide) (by decide) (fun r_6 u_4 H locs hp_5 hP hD hS => ?_)
  subst hp_5
  have hP : va_P D vwCl (([] : va_W)) H := hP
  have hD : va_D A (([] : va_W)) := hD
  refine lv_icmp_eq (tgt := 1566) hx hb dL_law_1013 (by decide) (fun _ => ?_) (fun h => absurd (by decide) h)
  exact law_end C hS (lv_sub hl [0, 1, 2, 3] rfl)
set_option maxHeartbeats 4000000 in
set_option maxRecDepth 100000 in
/-- letAhead -/
theorem lawm_letAhead {p : Program} {l : Launch} {e : Env} {s : State} {m : MethodId} {below : List Frame} {meth : Method} {c : Code} {D : va_G} {k : Nat → ClassId} {sd : Nat → Nat} {A : Nat → Prop} {b : Nat} {xs : Nat → Int32} {x y : Nat} {u : Nat → Nat → Nat} {v : Nat → Nat} {H : Heap} {locs : List Loc} {ls : Array Slot} (C : LC p s m meth c D k sd A b xs) (hP : va_P D vwCl (SW1 k x u y v) H) (hD : va_D A (SW1 k x u y v)) (hS : va_S A s.heap H locs) (hl : lv_has ls 4 [(0, .ref b), (1, .ref x), (2, .ref y), (3, .int 0)]) : W p l e room_1 s m #[Value.ref b] below meth c H locs 287 18933 (lw_Z below #[Value.ref b] s) (F0 m 1018 ls []) := by
  obtain ⟨hx, hb, hr, hml, hown, hw, hXs, hbl, hlocks, hK, hE, hX, hA, hAr, hbA⟩ := id C
  refine lv_aload_n hx hb dL_law_1018 rfl (lv_at hl 1 rfl) ?_
  refine lv_aload_n hx hb dL_law_1019 rfl (lv_at hl 0 rfl) ?_
  refine lv_iload_n hx hb dL_law_1020 rfl (lv_at hl 3 rfl) ?_
  refine lv_iconst (v := 1) hx hb dL_law_1021 (by decide) ?_
  refine lv_iadd hx hb dL_law_1022 ?_
  refine x_top (v := 1) (by decide) ?_
  refine va_sld hx hb hXs hbl hbA hS (i := 1) (by unfold vp_in; decide) dL_law_1023 ?_
  refine x_top (v := xs 1) rfl ?_
  refine lv_aload_n hx hb dL_law_1024 rfl (lv_at hl 0 rfl) ?_
  refine lv_iload_n hx hb dL_law_1025 rfl (lv_at hl 3 rfl) ?_
  refine lv_iconst (v := 2) hx hb dL_law_1026 (by decide) ?_
  refine lv_iadd hx hb dL_law_1027 ?_
  refine x_top (v := 2) (by decide) ?_
  refine va_sld hx hb hXs hbl hbA hS (i := 2) (by unfold vp_in; decide) dL_law_1028 ?_
  refine x_top (v := xs 2) rfl ?_
  refine x_i (wr := C10 k y v) (va_runV (As := [.int (xs 1), .int (xs 2)]) (rest := []) ⟨hx, hb, hml, hown, hw⟩ (kX9_letAhead l D k sd x u (xs 1) (xs 2) H.size) (cwV 2 hw (gV wd_970 wd_971 wd_972 wd_1 wd_973) rfl rfl rfl (by decide +kernel) ⟨Nat.le_of_ble_eq_true rfl, Nat.le_of_ble_eq_true rfl⟩) (pre_V (ci := 9) (r := (RX9, TX9, 12)) hK hE hX hP hD hS hA [0, 3, 2, 4, 5, 1] (by decide) rfl rfl (q0 := 0) rfl) rfl rfl hl.1 rfl (lv_room (Nat.le_of_ble_eq_true rfl)) dL_law_1029 ⟨Nat.le_of_ble_eq_true rfl, Nat.le_of_ble_eq_true rfl⟩) hP hD hS hA [0, 3, 2, 4, 5, 1] [6, 7] rfl rfl (by decide) (by decide) (fun r_3 u_1 H locs hp_2 hP hD hS => ?_)
  subst hp_2
  have hP : va_P D vwCl (C10 k y v) H := hP
  have hD : va_D A (C10 k y v) := hD
  refine lv_aload_n hx hb dL_law_1032 rfl (lv_at hl 2 rfl) ?_
  refine lv_aload_n hx hb dL_law_1033 rfl (lv_at hl 0 rfl) ?_
  refine lv_iload_n hx hb dL_law_1034 rfl (lv_at hl 3 rfl) ?_
  refine lv_iconst (v := 1) hx hb dL_law_1035 (by decide) ?_
  refine lv_iadd hx hb dL_law_1036 ?_
  refine x_top (v := 1) (by decide) ?_
  refine va_sld hx hb hXs hbl hbA hS (i := 1) (by unfold vp_in; decide) dL_law_1037 ?_
  refine x_top (v := xs 1) rfl ?_
  refine lv_aload_n hx hb dL_law_1038 rfl (lv_at hl 0 rfl) ?_
  refine lv_iload_n hx hb dL_law_1039 rfl (lv_at hl 3 rfl) ?_
  refine lv_iconst (v := 2) hx hb dL_law_1040 (by decide) ?_
  refine lv_iadd hx hb dL_law_1041 ?_
  refine x_top (v := 2) (by decide) ?_
  refine va_sld hx hb hXs hbl hbA hS (i := 2) (by unfold vp_in; decide) dL_law_1042 ?_
  refine x_top (v := xs 2) rfl ?_
  refine x_i (wr := ([] : va_W)) (va_runV (As := [.int (xs 1), .int (xs 2)]) (rest := [.int (-1)]) ⟨hx, hb, hml, hown, hw⟩ (kX10_letAhead l D k sd y v (xs 1) (xs 2) H.size) (cwV 2 hw (gV wd_1863 wd_1864 wd_1865 wd_11 wd_1866) rfl rfl rfl (by decide +kernel) ⟨Nat.le_of_ble_eq_true rfl, Nat.le_of_ble_eq_true rfl⟩) (pre_V (ci := 10) (r := (RX10, TX10, 80)) hK hE hX hP hD hS hA [0, 1] (by decide) rfl rfl (q0 := 0) rfl) rfl rfl hl.1 rfl (lv_room (Nat.le_of_ble_eq_true rfl)) dL_law_1043 ⟨Nat.le_of_ble_eq_true rfl, Nat.le_of_ble_eq_true rfl⟩) hP hD hS hA [0, 1] [] rfl rfl (by decide) (by decide) (fun r_6 u_4 H locs hp_5 hP hD hS => ?_)
  subst hp_5
  have hP : va_P D vwCl (([] : va_W)) H := hP
  have hD : va_D A (([] : va_W)) := hD
  refine lv_icmp_eq (tgt := 1566) hx hb dL_law_1046 (by decide) (fun _ => ?_) (fun h => absurd (by decide) h)
  exact law_end C hS (lv_sub hl [0, 1, 2, 3] rfl)
set_option maxHeartbeats 4000000 in
set_option maxRecDepth 100000 in
/-- kin -/
theorem lawm_kin {p : Program} {l : Launch} {e : Env} {s : State} {m : MethodId} {below : List Frame} {meth : Method} {c : Code} {D : va_G} {k : Nat → ClassId} {sd : Nat → Nat} {A : Nat → Prop} {b : Nat} {xs : Nat → Int32} {x y : Nat} {u : Nat → Nat → Nat} {v : Nat → Nat} {H : Heap} {locs : List Loc} {ls : Array Slot} (C : LC p s m meth c D k sd A b xs) (hP : va_P D vwCl (SW1 k x u y v) H) (hD : va_D A (SW1 k x u y v)) (hS : va_S A s.heap H locs) (hl : lv_has ls 4 [(0, .ref b), (1, .ref x), (2, .ref y), (3, .int 0)]) : W p l e room_1 s m #[Value.ref b] below meth c H locs 287 18933 (lw_Z below #[Value.ref b] s) (F0 m 1051 ls []) := by
  obtain ⟨hx, hb, hr, hml, hown, hw, hXs, hbl, hlocks, hK, hE, hX, hA, hAr, hbA⟩ := id C
  refine lv_aload_n hx hb dL_law_1051 rfl (lv_at hl 1 rfl) ?_
  refine lv_aload_n hx hb dL_law_1052 rfl (lv_at hl 0 rfl) ?_
  refine lv_iload_n hx hb dL_law_1053 rfl (lv_at hl 3 rfl) ?_
  refine lv_iconst (v := 1) hx hb dL_law_1054 (by decide) ?_
  refine lv_iadd hx hb dL_law_1055 ?_
  refine x_top (v := 1) (by decide) ?_
  refine va_sld hx hb hXs hbl hbA hS (i := 1) (by unfold vp_in; decide) dL_law_1056 ?_
  refine x_top (v := xs 1) rfl ?_
  refine lv_aload_n hx hb dL_law_1057 rfl (lv_at hl 0 rfl) ?_
  refine lv_iload_n hx hb dL_law_1058 rfl (lv_at hl 3 rfl) ?_
  refine lv_iconst (v := 2) hx hb dL_law_1059 (by decide) ?_
  refine lv_iadd hx hb dL_law_1060 ?_
  refine x_top (v := 2) (by decide) ?_
  refine va_sld hx hb hXs hbl hbA hS (i := 2) (by unfold vp_in; decide) dL_law_1061 ?_
  refine x_top (v := xs 2) rfl ?_
  refine x_i (wr := C10 k y v) (va_runV (As := [.int (xs 1), .int (xs 2)]) (rest := []) ⟨hx, hb, hml, hown, hw⟩ (kX9_kin l D k sd x u (xs 1) (xs 2) H.size) (cwV 2 hw (gV wd_986 wd_987 wd_988 wd_1 wd_989) rfl rfl rfl (by decide +kernel) ⟨Nat.le_of_ble_eq_true rfl, Nat.le_of_ble_eq_true rfl⟩) (pre_V (ci := 9) (r := (RX9, TX9, 12)) hK hE hX hP hD hS hA [0, 3, 2, 4, 5, 1] (by decide) rfl rfl (q0 := 0) rfl) rfl rfl hl.1 rfl (lv_room (Nat.le_of_ble_eq_true rfl)) dL_law_1062 ⟨Nat.le_of_ble_eq_true rfl, Nat.le_of_ble_eq_true rfl⟩) hP hD hS hA [0, 3, 2, 4, 5, 1] [6, 7] rfl rfl (by decide) (by decide) (fun r_3 u_1 H locs hp_2 hP hD hS => ?_)
  subst hp_2
  have hP : va_P D vwCl (C10 k y v) H := hP
  have hD : va_D A (C10 k y v) := hD
  refine lv_aload_n hx hb dL_law_1065 rfl (lv_at hl 2 rfl) ?_
  refine lv_aload_n hx hb dL_law_1066 rfl (lv_at hl 0 rfl) ?_
  refine lv_iload_n hx hb dL_law_1067 rfl (lv_at hl 3 rfl) ?_
  refine lv_iconst (v := 1) hx hb dL_law_1068 (by decide) ?_
  refine lv_iadd hx hb dL_law_1069 ?_
  refine x_top (v := 1) (by decide) ?_
  refine va_sld hx hb hXs hbl hbA hS (i := 1) (by unfold vp_in; decide) dL_law_1070 ?_
  refine x_top (v := xs 1) rfl ?_
  refine lv_aload_n hx hb dL_law_1071 rfl (lv_at hl 0 rfl) ?_
  refine lv_iload_n hx hb dL_law_1072 rfl (lv_at hl 3 rfl) ?_
  refine lv_iconst (v := 2) hx hb dL_law_1073 (by decide) ?_
  refine lv_iadd hx hb dL_law_1074 ?_
  refine x_top (v := 2) (by decide) ?_
  refine va_sld hx hb hXs hbl hbA hS (i := 2) (by unfold vp_in; decide) dL_law_1075 ?_
  refine x_top (v := xs 2) rfl ?_
  refine x_i (wr := ([] : va_W)) (va_runV (As := [.int (xs 1), .int (xs 2)]) (rest := [.int (-1)]) ⟨hx, hb, hml, hown, hw⟩ (kX10_kin l D k sd y v (xs 1) (xs 2) H.size) (cwV 2 hw (gV wd_1880 wd_1881 wd_1882 wd_11 wd_1883) rfl rfl rfl (by decide +kernel) ⟨Nat.le_of_ble_eq_true rfl, Nat.le_of_ble_eq_true rfl⟩) (pre_V (ci := 10) (r := (RX10, TX10, 80)) hK hE hX hP hD hS hA [0, 1] (by decide) rfl rfl (q0 := 0) rfl) rfl rfl hl.1 rfl (lv_room (Nat.le_of_ble_eq_true rfl)) dL_law_1076 ⟨Nat.le_of_ble_eq_true rfl, Nat.le_of_ble_eq_true rfl⟩) hP hD hS hA [0, 1] [] rfl rfl (by decide) (by decide) (fun r_6 u_4 H locs hp_5 hP hD hS => ?_)
  subst hp_5
  have hP : va_P D vwCl (([] : va_W)) H := hP
  have hD : va_D A (([] : va_W)) := hD
  refine lv_icmp_eq (tgt := 1566) hx hb dL_law_1079 (by decide) (fun _ => ?_) (fun h => absurd (by decide) h)
  exact law_end C hS (lv_sub hl [0, 1, 2, 3] rfl)
set_option maxHeartbeats 4000000 in
set_option maxRecDepth 100000 in
/-- kinOf -/
theorem lawm_kinOf {p : Program} {l : Launch} {e : Env} {s : State} {m : MethodId} {below : List Frame} {meth : Method} {c : Code} {D : va_G} {k : Nat → ClassId} {sd : Nat → Nat} {A : Nat → Prop} {b : Nat} {xs : Nat → Int32} {x y : Nat} {u : Nat → Nat → Nat} {v : Nat → Nat} {H : Heap} {locs : List Loc} {ls : Array Slot} (C : LC p s m meth c D k sd A b xs) (hP : va_P D vwCl (SW1 k x u y v) H) (hD : va_D A (SW1 k x u y v)) (hS : va_S A s.heap H locs) (hl : lv_has ls 4 [(0, .ref b), (1, .ref x), (2, .ref y), (3, .int 0)]) : W p l e room_1 s m #[Value.ref b] below meth c H locs 287 18933 (lw_Z below #[Value.ref b] s) (F0 m 1084 ls []) := by
  obtain ⟨hx, hb, hr, hml, hown, hw, hXs, hbl, hlocks, hK, hE, hX, hA, hAr, hbA⟩ := id C
  refine lv_aload_n hx hb dL_law_1084 rfl (lv_at hl 1 rfl) ?_
  refine lv_aload_n hx hb dL_law_1085 rfl (lv_at hl 0 rfl) ?_
  refine lv_iload_n hx hb dL_law_1086 rfl (lv_at hl 3 rfl) ?_
  refine lv_iconst (v := 1) hx hb dL_law_1087 (by decide) ?_
  refine lv_iadd hx hb dL_law_1088 ?_
  refine x_top (v := 1) (by decide) ?_
  refine va_sld hx hb hXs hbl hbA hS (i := 1) (by unfold vp_in; decide) dL_law_1089 ?_
  refine x_top (v := xs 1) rfl ?_
  refine x_i (wr := C10 k y v) (va_runV (As := [.int (xs 1)]) (rest := []) ⟨hx, hb, hml, hown, hw⟩ (kX9_kinOf l D k sd x u (xs 1) H.size) (cwV 1 hw (gV wd_994 wd_995 wd_996 wd_1 wd_997) rfl rfl rfl (by decide +kernel) ⟨Nat.le_of_ble_eq_true rfl, Nat.le_of_ble_eq_true rfl⟩) (pre_V (ci := 9) (r := (RX9, TX9, 12)) hK hE hX hP hD hS hA [0, 3, 2, 4, 5, 1] (by decide) rfl rfl (q0 := 0) rfl) rfl rfl hl.1 rfl (lv_room (Nat.le_of_ble_eq_true rfl)) dL_law_1090 ⟨Nat.le_of_ble_eq_true rfl, Nat.le_of_ble_eq_true rfl⟩) hP hD hS hA [0, 3, 2, 4, 5, 1] [6, 7] rfl rfl (by decide) (by decide) (fun r_3 u_1 H locs hp_2 hP hD hS => ?_)
  subst hp_2
  have hP : va_P D vwCl (C10 k y v) H := hP
  have hD : va_D A (C10 k y v) := hD
  refine lv_aload_n hx hb dL_law_1093 rfl (lv_at hl 2 rfl) ?_
  refine lv_aload_n hx hb dL_law_1094 rfl (lv_at hl 0 rfl) ?_
  refine lv_iload_n hx hb dL_law_1095 rfl (lv_at hl 3 rfl) ?_
  refine lv_iconst (v := 1) hx hb dL_law_1096 (by decide) ?_
  refine lv_iadd hx hb dL_law_1097 ?_
  refine x_top (v := 1) (by decide) ?_
  refine va_sld hx hb hXs hbl hbA hS (i := 1) (by unfold vp_in; decide) dL_law_1098 ?_
  refine x_top (v := xs 1) rfl ?_
  refine x_i (wr := ([] : va_W)) (va_runV (As := [.int (xs 1)]) (rest := [.int (-1)]) ⟨hx, hb, hml, hown, hw⟩ (kX10_kinOf l D k sd y v (xs 1) H.size) (cwV 1 hw (gV wd_1888 wd_1889 wd_1890 wd_11 wd_1891) rfl rfl rfl (by decide +kernel) ⟨Nat.le_of_ble_eq_true rfl, Nat.le_of_ble_eq_true rfl⟩) (pre_V (ci := 10) (r := (RX10, TX10, 80)) hK hE hX hP hD hS hA [0, 1] (by decide) rfl rfl (q0 := 0) rfl) rfl rfl hl.1 rfl (lv_room (Nat.le_of_ble_eq_true rfl)) dL_law_1099 ⟨Nat.le_of_ble_eq_true rfl, Nat.le_of_ble_eq_true rfl⟩) hP hD hS hA [0, 1] [] rfl rfl (by decide) (by decide) (fun r_6 u_4 H locs hp_5 hP hD hS => ?_)
  subst hp_5
  have hP : va_P D vwCl (([] : va_W)) H := hP
  have hD : va_D A (([] : va_W)) := hD
  refine lv_icmp_eq (tgt := 1566) hx hb dL_law_1102 (by decide) (fun _ => ?_) (fun h => absurd (by decide) h)
  exact law_end C hS (lv_sub hl [0, 1, 2, 3] rfl)
set_option maxHeartbeats 4000000 in
set_option maxRecDepth 100000 in
/-- was -/
theorem lawm_was {p : Program} {l : Launch} {e : Env} {s : State} {m : MethodId} {below : List Frame} {meth : Method} {c : Code} {D : va_G} {k : Nat → ClassId} {sd : Nat → Nat} {A : Nat → Prop} {b : Nat} {xs : Nat → Int32} {x y : Nat} {u : Nat → Nat → Nat} {v : Nat → Nat} {H : Heap} {locs : List Loc} {ls : Array Slot} (C : LC p s m meth c D k sd A b xs) (hP : va_P D vwCl (SW1 k x u y v) H) (hD : va_D A (SW1 k x u y v)) (hS : va_S A s.heap H locs) (hl : lv_has ls 4 [(0, .ref b), (1, .ref x), (2, .ref y), (3, .int 0)]) : W p l e room_1 s m #[Value.ref b] below meth c H locs 287 18933 (lw_Z below #[Value.ref b] s) (F0 m 1107 ls []) := by
  obtain ⟨hx, hb, hr, hml, hown, hw, hXs, hbl, hlocks, hK, hE, hX, hA, hAr, hbA⟩ := id C
  refine lv_aload_n hx hb dL_law_1107 rfl (lv_at hl 1 rfl) ?_
  refine lv_aload_n hx hb dL_law_1108 rfl (lv_at hl 0 rfl) ?_
  refine lv_iload_n hx hb dL_law_1109 rfl (lv_at hl 3 rfl) ?_
  refine lv_iconst (v := 1) hx hb dL_law_1110 (by decide) ?_
  refine lv_iadd hx hb dL_law_1111 ?_
  refine x_top (v := 1) (by decide) ?_
  refine va_sld hx hb hXs hbl hbA hS (i := 1) (by unfold vp_in; decide) dL_law_1112 ?_
  refine x_top (v := xs 1) rfl ?_
  refine lv_aload_n hx hb dL_law_1113 rfl (lv_at hl 0 rfl) ?_
  refine lv_iload_n hx hb dL_law_1114 rfl (lv_at hl 3 rfl) ?_
  refine lv_iconst (v := 2) hx hb dL_law_1115 (by decide) ?_
  refine lv_iadd hx hb dL_law_1116 ?_
  refine x_top (v := 2) (by decide) ?_
  refine va_sld hx hb hXs hbl hbA hS (i := 2) (by unfold vp_in; decide) dL_law_1117 ?_
  refine x_top (v := xs 2) rfl ?_
  refine x_i (wr := C10 k y v) (va_runV (As := [.int (xs 1), .int (xs 2)]) (rest := []) ⟨hx, hb, hml, hown, hw⟩ (kX9_was l D k sd x u (xs 1) (xs 2) H.size) (cwV 2 hw (gV wd_998 wd_999 wd_1000 wd_1 wd_1001) rfl rfl rfl (by decide +kernel) ⟨Nat.le_of_ble_eq_true rfl, Nat.le_of_ble_eq_true rfl⟩) (pre_V (ci := 9) (r := (RX9, TX9, 12)) hK hE hX hP hD hS hA [0, 3, 2, 4, 5, 1] (by decide) rfl rfl (q0 := 0) rfl) rfl rfl hl.1 rfl (lv_room (Nat.le_of_ble_eq_true rfl)) dL_law_1118 ⟨Nat.le_of_ble_eq_true rfl, Nat.le_of_ble_eq_true rfl⟩) hP hD hS hA [0, 3, 2, 4, 5, 1] [6, 7] rfl rfl (by decide) (by decide) (fun r_3 u_1 H locs hp_2 hP hD hS => ?_)
  subst hp_2
  have hP : va_P D vwCl (C10 k y v) H := hP
  have hD : va_D A (C10 k y v) := hD
  refine lv_aload_n hx hb dL_law_1121 rfl (lv_at hl 2 rfl) ?_
  refine lv_aload_n hx hb dL_law_1122 rfl (lv_at hl 0 rfl) ?_
  refine lv_iload_n hx hb dL_law_1123 rfl (lv_at hl 3 rfl) ?_
  refine lv_iconst (v := 1) hx hb dL_law_1124 (by decide) ?_
  refine lv_iadd hx hb dL_law_1125 ?_
  refine x_top (v := 1) (by decide) ?_
  refine va_sld hx hb hXs hbl hbA hS (i := 1) (by unfold vp_in; decide) dL_law_1126 ?_
  refine x_top (v := xs 1) rfl ?_
  refine lv_aload_n hx hb dL_law_1127 rfl (lv_at hl 0 rfl) ?_
  refine lv_iload_n hx hb dL_law_1128 rfl (lv_at hl 3 rfl) ?_
  refine lv_iconst (v := 2) hx hb dL_law_1129 (by decide) ?_
  refine lv_iadd hx hb dL_law_1130 ?_
  refine x_top (v := 2) (by decide) ?_
  refine va_sld hx hb hXs hbl hbA hS (i := 2) (by unfold vp_in; decide) dL_law_1131 ?_
  refine x_top (v := xs 2) rfl ?_
  refine x_i (wr := ([] : va_W)) (va_runV (As := [.int (xs 1), .int (xs 2)]) (rest := [.int (-2)]) ⟨hx, hb, hml, hown, hw⟩ (kX10_was l D k sd y v (xs 1) (xs 2) H.size) (cwV 2 hw (gV wd_1892 wd_1893 wd_1894 wd_11 wd_1895) rfl rfl rfl (by decide +kernel) ⟨Nat.le_of_ble_eq_true rfl, Nat.le_of_ble_eq_true rfl⟩) (pre_V (ci := 10) (r := (RX10, TX10, 80)) hK hE hX hP hD hS hA [0, 1] (by decide) rfl rfl (q0 := 0) rfl) rfl rfl hl.1 rfl (lv_room (Nat.le_of_ble_eq_true rfl)) dL_law_1132 ⟨Nat.le_of_ble_eq_true rfl, Nat.le_of_ble_eq_true rfl⟩) hP hD hS hA [0, 1] [] rfl rfl (by decide) (by decide) (fun r_6 u_4 H locs hp_5 hP hD hS => ?_)
  subst hp_5
  have hP : va_P D vwCl (([] : va_W)) H := hP
  have hD : va_D A (([] : va_W)) := hD
  refine lv_icmp_eq (tgt := 1566) hx hb dL_law_1135 (by decide) (fun _ => ?_) (fun h => absurd (by decide) h)
  exact law_end C hS (lv_sub hl [0, 1, 2, 3] rfl)
set_option maxHeartbeats 4000000 in
set_option maxRecDepth 100000 in
/-- wereAt -/
theorem lawm_wereAt {p : Program} {l : Launch} {e : Env} {s : State} {m : MethodId} {below : List Frame} {meth : Method} {c : Code} {D : va_G} {k : Nat → ClassId} {sd : Nat → Nat} {A : Nat → Prop} {b : Nat} {xs : Nat → Int32} {x y : Nat} {u : Nat → Nat → Nat} {v : Nat → Nat} {H : Heap} {locs : List Loc} {ls : Array Slot} (C : LC p s m meth c D k sd A b xs) (hP : va_P D vwCl (SW1 k x u y v) H) (hD : va_D A (SW1 k x u y v)) (hS : va_S A s.heap H locs) (hl : lv_has ls 4 [(0, .ref b), (1, .ref x), (2, .ref y), (3, .int 0)]) : W p l e room_1 s m #[Value.ref b] below meth c H locs 287 18933 (lw_Z below #[Value.ref b] s) (F0 m 1140 ls []) := by
  obtain ⟨hx, hb, hr, hml, hown, hw, hXs, hbl, hlocks, hK, hE, hX, hA, hAr, hbA⟩ := id C
  refine lv_aload_n hx hb dL_law_1140 rfl (lv_at hl 1 rfl) ?_
  refine lv_aload_n hx hb dL_law_1141 rfl (lv_at hl 0 rfl) ?_
  refine lv_iload_n hx hb dL_law_1142 rfl (lv_at hl 3 rfl) ?_
  refine lv_iconst (v := 1) hx hb dL_law_1143 (by decide) ?_
  refine lv_iadd hx hb dL_law_1144 ?_
  refine x_top (v := 1) (by decide) ?_
  refine va_sld hx hb hXs hbl hbA hS (i := 1) (by unfold vp_in; decide) dL_law_1145 ?_
  refine x_top (v := xs 1) rfl ?_
  refine lv_aload_n hx hb dL_law_1146 rfl (lv_at hl 0 rfl) ?_
  refine lv_iload_n hx hb dL_law_1147 rfl (lv_at hl 3 rfl) ?_
  refine lv_iconst (v := 2) hx hb dL_law_1148 (by decide) ?_
  refine lv_iadd hx hb dL_law_1149 ?_
  refine x_top (v := 2) (by decide) ?_
  refine va_sld hx hb hXs hbl hbA hS (i := 2) (by unfold vp_in; decide) dL_law_1150 ?_
  refine x_top (v := xs 2) rfl ?_
  refine lv_aload_n hx hb dL_law_1151 rfl (lv_at hl 0 rfl) ?_
  refine lv_iload_n hx hb dL_law_1152 rfl (lv_at hl 3 rfl) ?_
  refine lv_iconst (v := 3) hx hb dL_law_1153 (by decide) ?_
  refine lv_iadd hx hb dL_law_1154 ?_
  refine x_top (v := 3) (by decide) ?_
  refine va_sld hx hb hXs hbl hbA hS (i := 3) (by unfold vp_in; decide) dL_law_1155 ?_
  refine x_top (v := xs 3) rfl ?_
  refine x_i (wr := C10 k y v) (va_runV (As := [.int (xs 1), .int (xs 2), .int (xs 3)]) (rest := []) ⟨hx, hb, hml, hown, hw⟩ (kX9_wereAt l D k sd x u (xs 1) (xs 2) (xs 3) H.size) (cwV 3 hw (gV wd_1013 wd_1014 wd_1015 wd_1 wd_1016) rfl rfl rfl (by decide +kernel) ⟨Nat.le_of_ble_eq_true rfl, Nat.le_of_ble_eq_true rfl⟩) (pre_V (ci := 9) (r := (RX9, TX9, 12)) hK hE hX hP hD hS hA [0, 3, 2, 4, 5, 1] (by decide) rfl rfl (q0 := 0) rfl) rfl rfl hl.1 rfl (lv_room (Nat.le_of_ble_eq_true rfl)) dL_law_1156 ⟨Nat.le_of_ble_eq_true rfl, Nat.le_of_ble_eq_true rfl⟩) hP hD hS hA [0, 3, 2, 4, 5, 1] [6, 7] rfl rfl (by decide) (by decide) (fun r_3 u_1 H locs hp_2 hP hD hS => ?_)
  subst hp_2
  have hP : va_P D vwCl (C10 k y v) H := hP
  have hD : va_D A (C10 k y v) := hD
  refine lv_aload_n hx hb dL_law_1159 rfl (lv_at hl 2 rfl) ?_
  refine lv_aload_n hx hb dL_law_1160 rfl (lv_at hl 0 rfl) ?_
  refine lv_iload_n hx hb dL_law_1161 rfl (lv_at hl 3 rfl) ?_
  refine lv_iconst (v := 1) hx hb dL_law_1162 (by decide) ?_
  refine lv_iadd hx hb dL_law_1163 ?_
  refine x_top (v := 1) (by decide) ?_
  refine va_sld hx hb hXs hbl hbA hS (i := 1) (by unfold vp_in; decide) dL_law_1164 ?_
  refine x_top (v := xs 1) rfl ?_
  refine lv_aload_n hx hb dL_law_1165 rfl (lv_at hl 0 rfl) ?_
  refine lv_iload_n hx hb dL_law_1166 rfl (lv_at hl 3 rfl) ?_
  refine lv_iconst (v := 2) hx hb dL_law_1167 (by decide) ?_
  refine lv_iadd hx hb dL_law_1168 ?_
  refine x_top (v := 2) (by decide) ?_
  refine va_sld hx hb hXs hbl hbA hS (i := 2) (by unfold vp_in; decide) dL_law_1169 ?_
  refine x_top (v := xs 2) rfl ?_
  refine lv_aload_n hx hb dL_law_1170 rfl (lv_at hl 0 rfl) ?_
  refine lv_iload_n hx hb dL_law_1171 rfl (lv_at hl 3 rfl) ?_
  refine lv_iconst (v := 3) hx hb dL_law_1172 (by decide) ?_
  refine lv_iadd hx hb dL_law_1173 ?_
  refine x_top (v := 3) (by decide) ?_
  refine va_sld hx hb hXs hbl hbA hS (i := 3) (by unfold vp_in; decide) dL_law_1174 ?_
  refine x_top (v := xs 3) rfl ?_
  refine x_i (wr := ([] : va_W)) (va_runV (As := [.int (xs 1), .int (xs 2), .int (xs 3)]) (rest := [.int (-1)]) ⟨hx, hb, hml, hown, hw⟩ (kX10_wereAt l D k sd y v (xs 1) (xs 2) (xs 3) H.size) (cwV 3 hw (gV wd_1896 wd_1897 wd_1898 wd_11 wd_1899) rfl rfl rfl (by decide +kernel) ⟨Nat.le_of_ble_eq_true rfl, Nat.le_of_ble_eq_true rfl⟩) (pre_V (ci := 10) (r := (RX10, TX10, 80)) hK hE hX hP hD hS hA [0, 1] (by decide) rfl rfl (q0 := 0) rfl) rfl rfl hl.1 rfl (lv_room (Nat.le_of_ble_eq_true rfl)) dL_law_1175 ⟨Nat.le_of_ble_eq_true rfl, Nat.le_of_ble_eq_true rfl⟩) hP hD hS hA [0, 1] [] rfl rfl (by decide) (by decide) (fun r_6 u_4 H locs hp_5 hP hD hS => ?_)
  subst hp_5
  have hP : va_P D vwCl (([] : va_W)) H := hP
  have hD : va_D A (([] : va_W)) := hD
  refine lv_icmp_eq (tgt := 1566) hx hb dL_law_1178 (by decide) (fun _ => ?_) (fun h => absurd (by decide) h)
  exact law_end C hS (lv_sub hl [0, 1, 2, 3] rfl)
set_option maxHeartbeats 4000000 in
set_option maxRecDepth 100000 in
/-- likely -/
theorem lawm_likely {p : Program} {l : Launch} {e : Env} {s : State} {m : MethodId} {below : List Frame} {meth : Method} {c : Code} {D : va_G} {k : Nat → ClassId} {sd : Nat → Nat} {A : Nat → Prop} {b : Nat} {xs : Nat → Int32} {x y : Nat} {u : Nat → Nat → Nat} {v : Nat → Nat} {H : Heap} {locs : List Loc} {ls : Array Slot} (C : LC p s m meth c D k sd A b xs) (hP : va_P D vwCl (SW1 k x u y v) H) (hD : va_D A (SW1 k x u y v)) (hS : va_S A s.heap H locs) (hl : lv_has ls 4 [(0, .ref b), (1, .ref x), (2, .ref y), (3, .int 0)]) : W p l e room_1 s m #[Value.ref b] below meth c H locs 287 18933 (lw_Z below #[Value.ref b] s) (F0 m 1183 ls []) := by
  obtain ⟨hx, hb, hr, hml, hown, hw, hXs, hbl, hlocks, hK, hE, hX, hA, hAr, hbA⟩ := id C
  refine lv_aload_n hx hb dL_law_1183 rfl (lv_at hl 1 rfl) ?_
  refine lv_aload_n hx hb dL_law_1184 rfl (lv_at hl 0 rfl) ?_
  refine lv_iload_n hx hb dL_law_1185 rfl (lv_at hl 3 rfl) ?_
  refine lv_iconst (v := 1) hx hb dL_law_1186 (by decide) ?_
  refine lv_iadd hx hb dL_law_1187 ?_
  refine x_top (v := 1) (by decide) ?_
  refine va_sld hx hb hXs hbl hbA hS (i := 1) (by unfold vp_in; decide) dL_law_1188 ?_
  refine x_top (v := xs 1) rfl ?_
  refine lv_aload_n hx hb dL_law_1189 rfl (lv_at hl 0 rfl) ?_
  refine lv_iload_n hx hb dL_law_1190 rfl (lv_at hl 3 rfl) ?_
  refine lv_iconst (v := 2) hx hb dL_law_1191 (by decide) ?_
  refine lv_iadd hx hb dL_law_1192 ?_
  refine x_top (v := 2) (by decide) ?_
  refine va_sld hx hb hXs hbl hbA hS (i := 2) (by unfold vp_in; decide) dL_law_1193 ?_
  refine x_top (v := xs 2) rfl ?_
  refine lv_aload_n hx hb dL_law_1194 rfl (lv_at hl 0 rfl) ?_
  refine lv_iload_n hx hb dL_law_1195 rfl (lv_at hl 3 rfl) ?_
  refine lv_iconst (v := 3) hx hb dL_law_1196 (by decide) ?_
  refine lv_iadd hx hb dL_law_1197 ?_
  refine x_top (v := 3) (by decide) ?_
  refine va_sld hx hb hXs hbl hbA hS (i := 3) (by unfold vp_in; decide) dL_law_1198 ?_
  refine x_top (v := xs 3) rfl ?_
  refine lv_aload_n hx hb dL_law_1199 rfl (lv_at hl 0 rfl) ?_
  refine lv_iload_n hx hb dL_law_1200 rfl (lv_at hl 3 rfl) ?_
  refine lv_iconst (v := 4) hx hb dL_law_1201 (by decide) ?_
  refine lv_iadd hx hb dL_law_1202 ?_
  refine x_top (v := 4) (by decide) ?_
  refine va_sld hx hb hXs hbl hbA hS (i := 4) (by unfold vp_in; decide) dL_law_1203 ?_
  refine x_top (v := xs 4) rfl ?_
  refine lv_aload_n hx hb dL_law_1204 rfl (lv_at hl 0 rfl) ?_
  refine lv_iload_n hx hb dL_law_1205 rfl (lv_at hl 3 rfl) ?_
  refine lv_iconst (v := 5) hx hb dL_law_1206 (by decide) ?_
  refine lv_iadd hx hb dL_law_1207 ?_
  refine x_top (v := 5) (by decide) ?_
  refine va_sld hx hb hXs hbl hbA hS (i := 5) (by unfold vp_in; decide) dL_law_1208 ?_
  refine x_top (v := xs 5) rfl ?_
  refine x_i (wr := C10 k y v) (va_runV (As := [.int (xs 1), .int (xs 2), .int (xs 3), .int (xs 4), .int (xs 5)]) (rest := []) ⟨hx, hb, hml, hown, hw⟩ (kX9_likely l D k sd x u (xs 1) (xs 2) (xs 3) (xs 4) (xs 5) H.size) (cwV 5 hw (gV wd_1030 wd_1031 wd_1032 wd_1 wd_1033) rfl rfl rfl (by decide +kernel) ⟨Nat.le_of_ble_eq_true rfl, Nat.le_of_ble_eq_true rfl⟩) (pre_V (ci := 9) (r := (RX9, TX9, 12)) hK hE hX hP hD hS hA [0, 3, 2, 4, 5, 1] (by decide) rfl rfl (q0 := 0) rfl) rfl rfl hl.1 rfl (lv_room (Nat.le_of_ble_eq_true rfl)) dL_law_1209 ⟨Nat.le_of_ble_eq_true rfl, Nat.le_of_ble_eq_true rfl⟩) hP hD hS hA [0, 3, 2, 4, 5, 1] [6, 7] rfl rfl (by decide) (by decide) (fun r_3 u_1 H locs hp_2 hP hD hS => ?_)
  subst hp_2
  have hP : va_P D vwCl (C10 k y v) H := hP
  have hD : va_D A (C10 k y v) := hD
  refine lv_aload_n hx hb dL_law_1212 rfl (lv_at hl 2 rfl) ?_
  refine lv_aload_n hx hb dL_law_1213 rfl (lv_at hl 0 rfl) ?_
  refine lv_iload_n hx hb dL_law_1214 rfl (lv_at hl 3 rfl) ?_
  refine lv_iconst (v := 1) hx hb dL_law_1215 (by decide) ?_
  refine lv_iadd hx hb dL_law_1216 ?_
  refine x_top (v := 1) (by decide) ?_
  refine va_sld hx hb hXs hbl hbA hS (i := 1) (by unfold vp_in; decide) dL_law_1217 ?_
  refine x_top (v := xs 1) rfl ?_
  refine lv_aload_n hx hb dL_law_1218 rfl (lv_at hl 0 rfl) ?_
  refine lv_iload_n hx hb dL_law_1219 rfl (lv_at hl 3 rfl) ?_
  refine lv_iconst (v := 2) hx hb dL_law_1220 (by decide) ?_
  refine lv_iadd hx hb dL_law_1221 ?_
  refine x_top (v := 2) (by decide) ?_
  refine va_sld hx hb hXs hbl hbA hS (i := 2) (by unfold vp_in; decide) dL_law_1222 ?_
  refine x_top (v := xs 2) rfl ?_
  refine lv_aload_n hx hb dL_law_1223 rfl (lv_at hl 0 rfl) ?_
  refine lv_iload_n hx hb dL_law_1224 rfl (lv_at hl 3 rfl) ?_
  refine lv_iconst (v := 3) hx hb dL_law_1225 (by decide) ?_
  refine lv_iadd hx hb dL_law_1226 ?_
  refine x_top (v := 3) (by decide) ?_
  refine va_sld hx hb hXs hbl hbA hS (i := 3) (by unfold vp_in; decide) dL_law_1227 ?_
  refine x_top (v := xs 3) rfl ?_
  refine lv_aload_n hx hb dL_law_1228 rfl (lv_at hl 0 rfl) ?_
  refine lv_iload_n hx hb dL_law_1229 rfl (lv_at hl 3 rfl) ?_
  refine lv_iconst (v := 4) hx hb dL_law_1230 (by decide) ?_
  refine lv_iadd hx hb dL_law_1231 ?_
  refine x_top (v := 4) (by decide) ?_
  refine va_sld hx hb hXs hbl hbA hS (i := 4) (by unfold vp_in; decide) dL_law_1232 ?_
  refine x_top (v := xs 4) rfl ?_
  refine lv_aload_n hx hb dL_law_1233 rfl (lv_at hl 0 rfl) ?_
  refine lv_iload_n hx hb dL_law_1234 rfl (lv_at hl 3 rfl) ?_
  refine lv_iconst (v := 5) hx hb dL_law_1235 (by decide) ?_
  refine lv_iadd hx hb dL_law_1236 ?_
  refine x_top (v := 5) (by decide) ?_
  refine va_sld hx hb hXs hbl hbA hS (i := 5) (by unfold vp_in; decide) dL_law_1237 ?_
  refine x_top (v := xs 5) rfl ?_
  refine x_i (wr := ([] : va_W)) (va_runV (As := [.int (xs 1), .int (xs 2), .int (xs 3), .int (xs 4), .int (xs 5)]) (rest := [.int (-1)]) ⟨hx, hb, hml, hown, hw⟩ (kX10_likely l D k sd y v (xs 1) (xs 2) (xs 3) (xs 4) (xs 5) H.size) (cwV 5 hw (gV wd_1908 wd_1909 wd_1910 wd_11 wd_1911) rfl rfl rfl (by decide +kernel) ⟨Nat.le_of_ble_eq_true rfl, Nat.le_of_ble_eq_true rfl⟩) (pre_V (ci := 10) (r := (RX10, TX10, 80)) hK hE hX hP hD hS hA [0, 1] (by decide) rfl rfl (q0 := 0) rfl) rfl rfl hl.1 rfl (lv_room (Nat.le_of_ble_eq_true rfl)) dL_law_1238 ⟨Nat.le_of_ble_eq_true rfl, Nat.le_of_ble_eq_true rfl⟩) hP hD hS hA [0, 1] [] rfl rfl (by decide) (by decide) (fun r_6 u_4 H locs hp_5 hP hD hS => ?_)
  subst hp_5
  have hP : va_P D vwCl (([] : va_W)) H := hP
  have hD : va_D A (([] : va_W)) := hD
  refine lv_icmp_eq (tgt := 1566) hx hb dL_law_1241 (by decide) (fun _ => ?_) (fun h => absurd (by decide) h)
  exact law_end C hS (lv_sub hl [0, 1, 2, 3] rfl)
set_option maxHeartbeats 4000000 in
set_option maxRecDepth 100000 in
/-- sight -/
theorem lawm_sight {p : Program} {l : Launch} {e : Env} {s : State} {m : MethodId} {below : List Frame} {meth : Method} {c : Code} {D : va_G} {k : Nat → ClassId} {sd : Nat → Nat} {A : Nat → Prop} {b : Nat} {xs : Nat → Int32} {x y : Nat} {u : Nat → Nat → Nat} {v : Nat → Nat} {H : Heap} {locs : List Loc} {ls : Array Slot} (C : LC p s m meth c D k sd A b xs) (hP : va_P D vwCl (SW1 k x u y v) H) (hD : va_D A (SW1 k x u y v)) (hS : va_S A s.heap H locs) (hl : lv_has ls 4 [(0, .ref b), (1, .ref x), (2, .ref y), (3, .int 0)]) : W p l e room_1 s m #[Value.ref b] below meth c H locs 287 18933 (lw_Z below #[Value.ref b] s) (F0 m 1246 ls []) := by
  obtain ⟨hx, hb, hr, hml, hown, hw, hXs, hbl, hlocks, hK, hE, hX, hA, hAr, hbA⟩ := id C
  refine lv_aload_n hx hb dL_law_1246 rfl (lv_at hl 1 rfl) ?_
  refine lv_aload_n hx hb dL_law_1247 rfl (lv_at hl 0 rfl) ?_
  refine lv_iload_n hx hb dL_law_1248 rfl (lv_at hl 3 rfl) ?_
  refine lv_iconst (v := 1) hx hb dL_law_1249 (by decide) ?_
  refine lv_iadd hx hb dL_law_1250 ?_
  refine x_top (v := 1) (by decide) ?_
  refine va_sld hx hb hXs hbl hbA hS (i := 1) (by unfold vp_in; decide) dL_law_1251 ?_
  refine x_top (v := xs 1) rfl ?_
  refine lv_aload_n hx hb dL_law_1252 rfl (lv_at hl 0 rfl) ?_
  refine lv_iload_n hx hb dL_law_1253 rfl (lv_at hl 3 rfl) ?_
  refine lv_iconst (v := 2) hx hb dL_law_1254 (by decide) ?_
  refine lv_iadd hx hb dL_law_1255 ?_
  refine x_top (v := 2) (by decide) ?_
  refine va_sld hx hb hXs hbl hbA hS (i := 2) (by unfold vp_in; decide) dL_law_1256 ?_
  refine x_top (v := xs 2) rfl ?_
  refine lv_aload_n hx hb dL_law_1257 rfl (lv_at hl 0 rfl) ?_
  refine lv_iload_n hx hb dL_law_1258 rfl (lv_at hl 3 rfl) ?_
  refine lv_iconst (v := 3) hx hb dL_law_1259 (by decide) ?_
  refine lv_iadd hx hb dL_law_1260 ?_
  refine x_top (v := 3) (by decide) ?_
  refine va_sld hx hb hXs hbl hbA hS (i := 3) (by unfold vp_in; decide) dL_law_1261 ?_
  refine x_top (v := xs 3) rfl ?_
  refine x_i (wr := C10 k y v) (va_runV (As := [.int (xs 1), .int (xs 2), .int (xs 3)]) (rest := []) ⟨hx, hb, hml, hown, hw⟩ (kX9_sight l D k sd x u (xs 1) (xs 2) (xs 3) H.size) (cwV 3 hw (gV wd_1038 wd_1039 wd_1040 wd_1 wd_1041) rfl rfl rfl (by decide +kernel) ⟨Nat.le_of_ble_eq_true rfl, Nat.le_of_ble_eq_true rfl⟩) (pre_V (ci := 9) (r := (RX9, TX9, 12)) hK hE hX hP hD hS hA [0, 3, 2, 4, 5, 1] (by decide) rfl rfl (q0 := 0) rfl) rfl rfl hl.1 rfl (lv_room (Nat.le_of_ble_eq_true rfl)) dL_law_1262 ⟨Nat.le_of_ble_eq_true rfl, Nat.le_of_ble_eq_true rfl⟩) hP hD hS hA [0, 3, 2, 4, 5, 1] [6, 7] rfl rfl (by decide) (by decide) (fun r_3 u_1 H locs hp_2 hP hD hS => ?_)
  have hP : va_P D vwCl (C10 k y v) H := hP
  have hD : va_D A (C10 k y v) := hD
  refine lv_aload_n hx hb dL_law_1265 rfl (lv_at hl 2 rfl) ?_
  refine lv_aload_n hx hb dL_law_1266 rfl (lv_at hl 0 rfl) ?_
  refine lv_iload_n hx hb dL_law_1267 rfl (lv_at hl 3 rfl) ?_
  refine lv_iconst (v := 1) hx hb dL_law_1268 (by decide) ?_
  refine lv_iadd hx hb dL_law_1269 ?_
  refine x_top (v := 1) (by decide) ?_
  refine va_sld hx hb hXs hbl hbA hS (i := 1) (by unfold vp_in; decide) dL_law_1270 ?_
  refine x_top (v := xs 1) rfl ?_
  refine lv_aload_n hx hb dL_law_1271 rfl (lv_at hl 0 rfl) ?_
  refine lv_iload_n hx hb dL_law_1272 rfl (lv_at hl 3 rfl) ?_
  refine lv_iconst (v := 2) hx hb dL_law_1273 (by decide) ?_
  refine lv_iadd hx hb dL_law_1274 ?_
  refine x_top (v := 2) (by decide) ?_
  refine va_sld hx hb hXs hbl hbA hS (i := 2) (by unfold vp_in; decide) dL_law_1275 ?_
  refine x_top (v := xs 2) rfl ?_
  refine lv_aload_n hx hb dL_law_1276 rfl (lv_at hl 0 rfl) ?_
  refine lv_iload_n hx hb dL_law_1277 rfl (lv_at hl 3 rfl) ?_
  refine lv_iconst (v := 3) hx hb dL_law_1278 (by decide) ?_
  refine lv_iadd hx hb dL_law_1279 ?_
  refine x_top (v := 3) (by decide) ?_
  refine va_sld hx hb hXs hbl hbA hS (i := 3) (by unfold vp_in; decide) dL_law_1280 ?_
  refine x_top (v := xs 3) rfl ?_
  refine x_i (wr := ([] : va_W)) (va_runV (As := [.int (xs 1), .int (xs 2), .int (xs 3)]) (rest := [.int r_3]) ⟨hx, hb, hml, hown, hw⟩ (kX10_sight l D k sd y v (xs 1) (xs 2) (xs 3) H.size) (cwV 3 hw (gV wd_1915 wd_1916 wd_1917 wd_11 wd_1918) rfl rfl rfl (by decide +kernel) ⟨Nat.le_of_ble_eq_true rfl, Nat.le_of_ble_eq_true rfl⟩) (pre_V (ci := 10) (r := (RX10, TX10, 80)) hK hE hX hP hD hS hA [0, 1] (by decide) rfl rfl (q0 := 0) rfl) rfl rfl hl.1 rfl (lv_room (Nat.le_of_ble_eq_true rfl)) dL_law_1281 ⟨Nat.le_of_ble_eq_true rfl, Nat.le_of_ble_eq_true rfl⟩) hP hD hS hA [0, 1] [] rfl rfl (by decide) (by decide) (fun r_6 u_4 H locs hp_5 hP hD hS => ?_)
  have hP : va_P D vwCl (([] : va_W)) H := hP
  have hD : va_D A (([] : va_W)) := hD
  refine lv_icmp_eq (tgt := 1566) hx hb dL_law_1284 (by decide) (fun _ => ?_) (fun h => absurd (hp_2.trans hp_5.symm) h)
  exact law_end C hS (lv_sub hl [0, 1, 2, 3] rfl)
set_option maxHeartbeats 4000000 in
set_option maxRecDepth 100000 in
/-- parted -/
theorem lawm_parted {p : Program} {l : Launch} {e : Env} {s : State} {m : MethodId} {below : List Frame} {meth : Method} {c : Code} {D : va_G} {k : Nat → ClassId} {sd : Nat → Nat} {A : Nat → Prop} {b : Nat} {xs : Nat → Int32} {x y : Nat} {u : Nat → Nat → Nat} {v : Nat → Nat} {H : Heap} {locs : List Loc} {ls : Array Slot} (C : LC p s m meth c D k sd A b xs) (hP : va_P D vwCl (SW1 k x u y v) H) (hD : va_D A (SW1 k x u y v)) (hS : va_S A s.heap H locs) (hl : lv_has ls 4 [(0, .ref b), (1, .ref x), (2, .ref y), (3, .int 0)]) : W p l e room_1 s m #[Value.ref b] below meth c H locs 287 18933 (lw_Z below #[Value.ref b] s) (F0 m 1289 ls []) := by
  obtain ⟨hx, hb, hr, hml, hown, hw, hXs, hbl, hlocks, hK, hE, hX, hA, hAr, hbA⟩ := id C
  refine lv_aload_n hx hb dL_law_1289 rfl (lv_at hl 1 rfl) ?_
  refine lv_aload_n hx hb dL_law_1290 rfl (lv_at hl 0 rfl) ?_
  refine lv_iload_n hx hb dL_law_1291 rfl (lv_at hl 3 rfl) ?_
  refine lv_iconst (v := 1) hx hb dL_law_1292 (by decide) ?_
  refine lv_iadd hx hb dL_law_1293 ?_
  refine x_top (v := 1) (by decide) ?_
  refine va_sld hx hb hXs hbl hbA hS (i := 1) (by unfold vp_in; decide) dL_law_1294 ?_
  refine x_top (v := xs 1) rfl ?_
  refine lv_aload_n hx hb dL_law_1295 rfl (lv_at hl 0 rfl) ?_
  refine lv_iload_n hx hb dL_law_1296 rfl (lv_at hl 3 rfl) ?_
  refine lv_iconst (v := 2) hx hb dL_law_1297 (by decide) ?_
  refine lv_iadd hx hb dL_law_1298 ?_
  refine x_top (v := 2) (by decide) ?_
  refine va_sld hx hb hXs hbl hbA hS (i := 2) (by unfold vp_in; decide) dL_law_1299 ?_
  refine x_top (v := xs 2) rfl ?_
  refine lv_aload_n hx hb dL_law_1300 rfl (lv_at hl 0 rfl) ?_
  refine lv_iload_n hx hb dL_law_1301 rfl (lv_at hl 3 rfl) ?_
  refine lv_iconst (v := 3) hx hb dL_law_1302 (by decide) ?_
  refine lv_iadd hx hb dL_law_1303 ?_
  refine x_top (v := 3) (by decide) ?_
  refine va_sld hx hb hXs hbl hbA hS (i := 3) (by unfold vp_in; decide) dL_law_1304 ?_
  refine x_top (v := xs 3) rfl ?_
  refine x_i (wr := C10 k y v) (va_runV (As := [.int (xs 1), .int (xs 2), .int (xs 3)]) (rest := []) ⟨hx, hb, hml, hown, hw⟩ (kX9_parted l D k sd x u (xs 1) (xs 2) (xs 3) H.size) (cwV 3 hw (gV wd_1046 wd_1047 wd_1048 wd_1 wd_1049) rfl rfl rfl (by decide +kernel) ⟨Nat.le_of_ble_eq_true rfl, Nat.le_of_ble_eq_true rfl⟩) (pre_V (ci := 9) (r := (RX9, TX9, 12)) hK hE hX hP hD hS hA [0, 3, 2, 4, 5, 1] (by decide) rfl rfl (q0 := 0) rfl) rfl rfl hl.1 rfl (lv_room (Nat.le_of_ble_eq_true rfl)) dL_law_1305 ⟨Nat.le_of_ble_eq_true rfl, Nat.le_of_ble_eq_true rfl⟩) hP hD hS hA [0, 3, 2, 4, 5, 1] [6, 7] rfl rfl (by decide) (by decide) (fun r_3 u_1 H locs hp_2 hP hD hS => ?_)
  subst hp_2
  have hP : va_P D vwCl (C10 k y v) H := hP
  have hD : va_D A (C10 k y v) := hD
  refine lv_aload_n hx hb dL_law_1308 rfl (lv_at hl 2 rfl) ?_
  refine lv_aload_n hx hb dL_law_1309 rfl (lv_at hl 0 rfl) ?_
  refine lv_iload_n hx hb dL_law_1310 rfl (lv_at hl 3 rfl) ?_
  refine lv_iconst (v := 1) hx hb dL_law_1311 (by decide) ?_
  refine lv_iadd hx hb dL_law_1312 ?_
  refine x_top (v := 1) (by decide) ?_
  refine va_sld hx hb hXs hbl hbA hS (i := 1) (by unfold vp_in; decide) dL_law_1313 ?_
  refine x_top (v := xs 1) rfl ?_
  refine lv_aload_n hx hb dL_law_1314 rfl (lv_at hl 0 rfl) ?_
  refine lv_iload_n hx hb dL_law_1315 rfl (lv_at hl 3 rfl) ?_
  refine lv_iconst (v := 2) hx hb dL_law_1316 (by decide) ?_
  refine lv_iadd hx hb dL_law_1317 ?_
  refine x_top (v := 2) (by decide) ?_
  refine va_sld hx hb hXs hbl hbA hS (i := 2) (by unfold vp_in; decide) dL_law_1318 ?_
  refine x_top (v := xs 2) rfl ?_
  refine lv_aload_n hx hb dL_law_1319 rfl (lv_at hl 0 rfl) ?_
  refine lv_iload_n hx hb dL_law_1320 rfl (lv_at hl 3 rfl) ?_
  refine lv_iconst (v := 3) hx hb dL_law_1321 (by decide) ?_
  refine lv_iadd hx hb dL_law_1322 ?_
  refine x_top (v := 3) (by decide) ?_
  refine va_sld hx hb hXs hbl hbA hS (i := 3) (by unfold vp_in; decide) dL_law_1323 ?_
  refine x_top (v := xs 3) rfl ?_
  refine x_i (wr := ([] : va_W)) (va_runV (As := [.int (xs 1), .int (xs 2), .int (xs 3)]) (rest := [.int (-1)]) ⟨hx, hb, hml, hown, hw⟩ (kX10_parted l D k sd y v (xs 1) (xs 2) (xs 3) H.size) (cwV 3 hw (gV wd_1919 wd_1920 wd_1921 wd_11 wd_1922) rfl rfl rfl (by decide +kernel) ⟨Nat.le_of_ble_eq_true rfl, Nat.le_of_ble_eq_true rfl⟩) (pre_V (ci := 10) (r := (RX10, TX10, 80)) hK hE hX hP hD hS hA [0, 1] (by decide) rfl rfl (q0 := 0) rfl) rfl rfl hl.1 rfl (lv_room (Nat.le_of_ble_eq_true rfl)) dL_law_1324 ⟨Nat.le_of_ble_eq_true rfl, Nat.le_of_ble_eq_true rfl⟩) hP hD hS hA [0, 1] [] rfl rfl (by decide) (by decide) (fun r_6 u_4 H locs hp_5 hP hD hS => ?_)
  subst hp_5
  have hP : va_P D vwCl (([] : va_W)) H := hP
  have hD : va_D A (([] : va_W)) := hD
  refine lv_icmp_eq (tgt := 1566) hx hb dL_law_1327 (by decide) (fun _ => ?_) (fun h => absurd (by decide) h)
  exact law_end C hS (lv_sub hl [0, 1, 2, 3] rfl)
set_option maxHeartbeats 4000000 in
set_option maxRecDepth 100000 in
/-- owes -/
theorem lawm_owes {p : Program} {l : Launch} {e : Env} {s : State} {m : MethodId} {below : List Frame} {meth : Method} {c : Code} {D : va_G} {k : Nat → ClassId} {sd : Nat → Nat} {A : Nat → Prop} {b : Nat} {xs : Nat → Int32} {x y : Nat} {u : Nat → Nat → Nat} {v : Nat → Nat} {H : Heap} {locs : List Loc} {ls : Array Slot} (C : LC p s m meth c D k sd A b xs) (hP : va_P D vwCl (SW1 k x u y v) H) (hD : va_D A (SW1 k x u y v)) (hS : va_S A s.heap H locs) (hl : lv_has ls 4 [(0, .ref b), (1, .ref x), (2, .ref y), (3, .int 0)]) : W p l e room_1 s m #[Value.ref b] below meth c H locs 287 18933 (lw_Z below #[Value.ref b] s) (F0 m 1332 ls []) := by
  obtain ⟨hx, hb, hr, hml, hown, hw, hXs, hbl, hlocks, hK, hE, hX, hA, hAr, hbA⟩ := id C
  refine lv_aload_n hx hb dL_law_1332 rfl (lv_at hl 1 rfl) ?_
  refine lv_aload_n hx hb dL_law_1333 rfl (lv_at hl 0 rfl) ?_
  refine lv_iload_n hx hb dL_law_1334 rfl (lv_at hl 3 rfl) ?_
  refine lv_iconst (v := 1) hx hb dL_law_1335 (by decide) ?_
  refine lv_iadd hx hb dL_law_1336 ?_
  refine x_top (v := 1) (by decide) ?_
  refine va_sld hx hb hXs hbl hbA hS (i := 1) (by unfold vp_in; decide) dL_law_1337 ?_
  refine x_top (v := xs 1) rfl ?_
  refine lv_aload_n hx hb dL_law_1338 rfl (lv_at hl 0 rfl) ?_
  refine lv_iload_n hx hb dL_law_1339 rfl (lv_at hl 3 rfl) ?_
  refine lv_iconst (v := 2) hx hb dL_law_1340 (by decide) ?_
  refine lv_iadd hx hb dL_law_1341 ?_
  refine x_top (v := 2) (by decide) ?_
  refine va_sld hx hb hXs hbl hbA hS (i := 2) (by unfold vp_in; decide) dL_law_1342 ?_
  refine x_top (v := xs 2) rfl ?_
  refine x_i (wr := C10 k y v) (va_runV (As := [.int (xs 1), .int (xs 2)]) (rest := []) ⟨hx, hb, hml, hown, hw⟩ (kX9_owes l D k sd x u (xs 1) (xs 2) H.size) (cwV 2 hw (gV wd_1059 wd_1060 wd_1061 wd_1 wd_1062) rfl rfl rfl (by decide +kernel) ⟨Nat.le_of_ble_eq_true rfl, Nat.le_of_ble_eq_true rfl⟩) (pre_V (ci := 9) (r := (RX9, TX9, 12)) hK hE hX hP hD hS hA [0, 3, 2, 4, 5, 1] (by decide) rfl rfl (q0 := 0) rfl) rfl rfl hl.1 rfl (lv_room (Nat.le_of_ble_eq_true rfl)) dL_law_1343 ⟨Nat.le_of_ble_eq_true rfl, Nat.le_of_ble_eq_true rfl⟩) hP hD hS hA [0, 3, 2, 4, 5, 1] [6, 7] rfl rfl (by decide) (by decide) (fun r_3 u_1 H locs hp_2 hP hD hS => ?_)
  subst hp_2
  have hP : va_P D vwCl (C10 k y v) H := hP
  have hD : va_D A (C10 k y v) := hD
  refine lv_aload_n hx hb dL_law_1346 rfl (lv_at hl 2 rfl) ?_
  refine lv_aload_n hx hb dL_law_1347 rfl (lv_at hl 0 rfl) ?_
  refine lv_iload_n hx hb dL_law_1348 rfl (lv_at hl 3 rfl) ?_
  refine lv_iconst (v := 1) hx hb dL_law_1349 (by decide) ?_
  refine lv_iadd hx hb dL_law_1350 ?_
  refine x_top (v := 1) (by decide) ?_
  refine va_sld hx hb hXs hbl hbA hS (i := 1) (by unfold vp_in; decide) dL_law_1351 ?_
  refine x_top (v := xs 1) rfl ?_
  refine lv_aload_n hx hb dL_law_1352 rfl (lv_at hl 0 rfl) ?_
  refine lv_iload_n hx hb dL_law_1353 rfl (lv_at hl 3 rfl) ?_
  refine lv_iconst (v := 2) hx hb dL_law_1354 (by decide) ?_
  refine lv_iadd hx hb dL_law_1355 ?_
  refine x_top (v := 2) (by decide) ?_
  refine va_sld hx hb hXs hbl hbA hS (i := 2) (by unfold vp_in; decide) dL_law_1356 ?_
  refine x_top (v := xs 2) rfl ?_
  refine x_i (wr := ([] : va_W)) (va_runV (As := [.int (xs 1), .int (xs 2)]) (rest := [.int (-1)]) ⟨hx, hb, hml, hown, hw⟩ (kX10_owes l D k sd y v (xs 1) (xs 2) H.size) (cwV 2 hw (gV wd_1927 wd_1928 wd_1929 wd_11 wd_1930) rfl rfl rfl (by decide +kernel) ⟨Nat.le_of_ble_eq_true rfl, Nat.le_of_ble_eq_true rfl⟩) (pre_V (ci := 10) (r := (RX10, TX10, 80)) hK hE hX hP hD hS hA [0, 1] (by decide) rfl rfl (q0 := 0) rfl) rfl rfl hl.1 rfl (lv_room (Nat.le_of_ble_eq_true rfl)) dL_law_1357 ⟨Nat.le_of_ble_eq_true rfl, Nat.le_of_ble_eq_true rfl⟩) hP hD hS hA [0, 1] [] rfl rfl (by decide) (by decide) (fun r_6 u_4 H locs hp_5 hP hD hS => ?_)
  subst hp_5
  have hP : va_P D vwCl (([] : va_W)) H := hP
  have hD : va_D A (([] : va_W)) := hD
  refine lv_icmp_eq (tgt := 1566) hx hb dL_law_1360 (by decide) (fun _ => ?_) (fun h => absurd (by decide) h)
  exact law_end C hS (lv_sub hl [0, 1, 2, 3] rfl)
set_option maxHeartbeats 4000000 in
set_option maxRecDepth 100000 in
/-- payments -/
theorem lawm_payments {p : Program} {l : Launch} {e : Env} {s : State} {m : MethodId} {below : List Frame} {meth : Method} {c : Code} {D : va_G} {k : Nat → ClassId} {sd : Nat → Nat} {A : Nat → Prop} {b : Nat} {xs : Nat → Int32} {x y : Nat} {u : Nat → Nat → Nat} {v : Nat → Nat} {H : Heap} {locs : List Loc} {ls : Array Slot} (C : LC p s m meth c D k sd A b xs) (hP : va_P D vwCl (SW1 k x u y v) H) (hD : va_D A (SW1 k x u y v)) (hS : va_S A s.heap H locs) (hl : lv_has ls 4 [(0, .ref b), (1, .ref x), (2, .ref y), (3, .int 0)]) : W p l e room_1 s m #[Value.ref b] below meth c H locs 287 18933 (lw_Z below #[Value.ref b] s) (F0 m 1365 ls []) := by
  obtain ⟨hx, hb, hr, hml, hown, hw, hXs, hbl, hlocks, hK, hE, hX, hA, hAr, hbA⟩ := id C
  refine lv_aload_n hx hb dL_law_1365 rfl (lv_at hl 1 rfl) ?_
  refine x_i (wr := C10 k y v) (va_runV (As := []) (rest := []) ⟨hx, hb, hml, hown, hw⟩ (kX9_payments l D k sd x u  H.size) (cwV 0 hw (gV wd_1063 wd_1064 wd_1065 wd_1 wd_1066) rfl rfl rfl (by decide +kernel) ⟨Nat.le_of_ble_eq_true rfl, Nat.le_of_ble_eq_true rfl⟩) (pre_V (ci := 9) (r := (RX9, TX9, 12)) hK hE hX hP hD hS hA [0, 3, 2, 4, 5, 1] (by decide) rfl rfl (q0 := 0) rfl) rfl rfl hl.1 rfl (lv_room (Nat.le_of_ble_eq_true rfl)) dL_law_1366 ⟨Nat.le_of_ble_eq_true rfl, Nat.le_of_ble_eq_true rfl⟩) hP hD hS hA [0, 3, 2, 4, 5, 1] [6, 7] rfl rfl (by decide) (by decide) (fun r_3 u_1 H locs hp_2 hP hD hS => ?_)
  subst hp_2
  have hP : va_P D vwCl (C10 k y v) H := hP
  have hD : va_D A (C10 k y v) := hD
  refine lv_aload_n hx hb dL_law_1369 rfl (lv_at hl 2 rfl) ?_
  refine x_i (wr := ([] : va_W)) (va_runV (As := []) (rest := [.int (-1)]) ⟨hx, hb, hml, hown, hw⟩ (kX10_payments l D k sd y v  H.size) (cwV 0 hw (gV wd_1931 wd_1932 wd_1933 wd_11 wd_1934) rfl rfl rfl (by decide +kernel) ⟨Nat.le_of_ble_eq_true rfl, Nat.le_of_ble_eq_true rfl⟩) (pre_V (ci := 10) (r := (RX10, TX10, 80)) hK hE hX hP hD hS hA [0, 1] (by decide) rfl rfl (q0 := 0) rfl) rfl rfl hl.1 rfl (lv_room (Nat.le_of_ble_eq_true rfl)) dL_law_1370 ⟨Nat.le_of_ble_eq_true rfl, Nat.le_of_ble_eq_true rfl⟩) hP hD hS hA [0, 1] [] rfl rfl (by decide) (by decide) (fun r_6 u_4 H locs hp_5 hP hD hS => ?_)
  subst hp_5
  have hP : va_P D vwCl (([] : va_W)) H := hP
  have hD : va_D A (([] : va_W)) := hD
  refine lv_icmp_eq (tgt := 1566) hx hb dL_law_1373 (by decide) (fun _ => ?_) (fun h => absurd (by decide) h)
  exact law_end C hS (lv_sub hl [0, 1, 2, 3] rfl)
set_option maxHeartbeats 4000000 in
set_option maxRecDepth 100000 in
/-- repaid -/
theorem lawm_repaid {p : Program} {l : Launch} {e : Env} {s : State} {m : MethodId} {below : List Frame} {meth : Method} {c : Code} {D : va_G} {k : Nat → ClassId} {sd : Nat → Nat} {A : Nat → Prop} {b : Nat} {xs : Nat → Int32} {x y : Nat} {u : Nat → Nat → Nat} {v : Nat → Nat} {H : Heap} {locs : List Loc} {ls : Array Slot} (C : LC p s m meth c D k sd A b xs) (hP : va_P D vwCl (SW1 k x u y v) H) (hD : va_D A (SW1 k x u y v)) (hS : va_S A s.heap H locs) (hl : lv_has ls 4 [(0, .ref b), (1, .ref x), (2, .ref y), (3, .int 0)]) : W p l e room_1 s m #[Value.ref b] below meth c H locs 287 18933 (lw_Z below #[Value.ref b] s) (F0 m 1378 ls []) := by
  obtain ⟨hx, hb, hr, hml, hown, hw, hXs, hbl, hlocks, hK, hE, hX, hA, hAr, hbA⟩ := id C
  refine lv_aload_n hx hb dL_law_1378 rfl (lv_at hl 1 rfl) ?_
  refine lv_aload_n hx hb dL_law_1379 rfl (lv_at hl 0 rfl) ?_
  refine lv_iload_n hx hb dL_law_1380 rfl (lv_at hl 3 rfl) ?_
  refine lv_iconst (v := 1) hx hb dL_law_1381 (by decide) ?_
  refine lv_iadd hx hb dL_law_1382 ?_
  refine x_top (v := 1) (by decide) ?_
  refine va_sld hx hb hXs hbl hbA hS (i := 1) (by unfold vp_in; decide) dL_law_1383 ?_
  refine x_top (v := xs 1) rfl ?_
  refine lv_aload_n hx hb dL_law_1384 rfl (lv_at hl 0 rfl) ?_
  refine lv_iload_n hx hb dL_law_1385 rfl (lv_at hl 3 rfl) ?_
  refine lv_iconst (v := 2) hx hb dL_law_1386 (by decide) ?_
  refine lv_iadd hx hb dL_law_1387 ?_
  refine x_top (v := 2) (by decide) ?_
  refine va_sld hx hb hXs hbl hbA hS (i := 2) (by unfold vp_in; decide) dL_law_1388 ?_
  refine x_top (v := xs 2) rfl ?_
  refine lv_aload_n hx hb dL_law_1389 rfl (lv_at hl 0 rfl) ?_
  refine lv_iload_n hx hb dL_law_1390 rfl (lv_at hl 3 rfl) ?_
  refine lv_iconst (v := 3) hx hb dL_law_1391 (by decide) ?_
  refine lv_iadd hx hb dL_law_1392 ?_
  refine x_top (v := 3) (by decide) ?_
  refine va_sld hx hb hXs hbl hbA hS (i := 3) (by unfold vp_in; decide) dL_law_1393 ?_
  refine x_top (v := xs 3) rfl ?_
  refine x_i (wr := C10 k y v) (va_runV (As := [.int (xs 1), .int (xs 2), .int (xs 3)]) (rest := []) ⟨hx, hb, hml, hown, hw⟩ (kX9_repaid l D k sd x u (xs 1) (xs 2) (xs 3) H.size) (cwV 3 hw (gV wd_1068 wd_1069 wd_1070 wd_1 wd_1071) rfl rfl rfl (by decide +kernel) ⟨Nat.le_of_ble_eq_true rfl, Nat.le_of_ble_eq_true rfl⟩) (pre_V (ci := 9) (r := (RX9, TX9, 12)) hK hE hX hP hD hS hA [0, 3, 2, 4, 5, 1] (by decide) rfl rfl (q0 := 0) rfl) rfl rfl hl.1 rfl (lv_room (Nat.le_of_ble_eq_true rfl)) dL_law_1394 ⟨Nat.le_of_ble_eq_true rfl, Nat.le_of_ble_eq_true rfl⟩) hP hD hS hA [0, 3, 2, 4, 5, 1] [6, 7] rfl rfl (by decide) (by decide) (fun r_3 u_1 H locs hp_2 hP hD hS => ?_)
  subst hp_2
  have hP : va_P D vwCl (C10 k y v) H := hP
  have hD : va_D A (C10 k y v) := hD
  refine lv_aload_n hx hb dL_law_1397 rfl (lv_at hl 2 rfl) ?_
  refine lv_aload_n hx hb dL_law_1398 rfl (lv_at hl 0 rfl) ?_
  refine lv_iload_n hx hb dL_law_1399 rfl (lv_at hl 3 rfl) ?_
  refine lv_iconst (v := 1) hx hb dL_law_1400 (by decide) ?_
  refine lv_iadd hx hb dL_law_1401 ?_
  refine x_top (v := 1) (by decide) ?_
  refine va_sld hx hb hXs hbl hbA hS (i := 1) (by unfold vp_in; decide) dL_law_1402 ?_
  refine x_top (v := xs 1) rfl ?_
  refine lv_aload_n hx hb dL_law_1403 rfl (lv_at hl 0 rfl) ?_
  refine lv_iload_n hx hb dL_law_1404 rfl (lv_at hl 3 rfl) ?_
  refine lv_iconst (v := 2) hx hb dL_law_1405 (by decide) ?_
  refine lv_iadd hx hb dL_law_1406 ?_
  refine x_top (v := 2) (by decide) ?_
  refine va_sld hx hb hXs hbl hbA hS (i := 2) (by unfold vp_in; decide) dL_law_1407 ?_
  refine x_top (v := xs 2) rfl ?_
  refine lv_aload_n hx hb dL_law_1408 rfl (lv_at hl 0 rfl) ?_
  refine lv_iload_n hx hb dL_law_1409 rfl (lv_at hl 3 rfl) ?_
  refine lv_iconst (v := 3) hx hb dL_law_1410 (by decide) ?_
  refine lv_iadd hx hb dL_law_1411 ?_
  refine x_top (v := 3) (by decide) ?_
  refine va_sld hx hb hXs hbl hbA hS (i := 3) (by unfold vp_in; decide) dL_law_1412 ?_
  refine x_top (v := xs 3) rfl ?_
  refine x_i (wr := ([] : va_W)) (va_runV (As := [.int (xs 1), .int (xs 2), .int (xs 3)]) (rest := [.int (-1)]) ⟨hx, hb, hml, hown, hw⟩ (kX10_repaid l D k sd y v (xs 1) (xs 2) (xs 3) H.size) (cwV 3 hw (gV wd_1935 wd_1936 wd_1937 wd_11 wd_1938) rfl rfl rfl (by decide +kernel) ⟨Nat.le_of_ble_eq_true rfl, Nat.le_of_ble_eq_true rfl⟩) (pre_V (ci := 10) (r := (RX10, TX10, 80)) hK hE hX hP hD hS hA [0, 1] (by decide) rfl rfl (q0 := 0) rfl) rfl rfl hl.1 rfl (lv_room (Nat.le_of_ble_eq_true rfl)) dL_law_1413 ⟨Nat.le_of_ble_eq_true rfl, Nat.le_of_ble_eq_true rfl⟩) hP hD hS hA [0, 1] [] rfl rfl (by decide) (by decide) (fun r_6 u_4 H locs hp_5 hP hD hS => ?_)
  subst hp_5
  have hP : va_P D vwCl (([] : va_W)) H := hP
  have hD : va_D A (([] : va_W)) := hD
  refine lv_icmp_eq (tgt := 1566) hx hb dL_law_1416 (by decide) (fun _ => ?_) (fun h => absurd (by decide) h)
  exact law_end C hS (lv_sub hl [0, 1, 2, 3] rfl)
set_option maxHeartbeats 4000000 in
set_option maxRecDepth 100000 in
/-- seed -/
theorem lawm_seed {p : Program} {l : Launch} {e : Env} {s : State} {m : MethodId} {below : List Frame} {meth : Method} {c : Code} {D : va_G} {k : Nat → ClassId} {sd : Nat → Nat} {A : Nat → Prop} {b : Nat} {xs : Nat → Int32} {x y : Nat} {u : Nat → Nat → Nat} {v : Nat → Nat} {H : Heap} {locs : List Loc} {ls : Array Slot} (C : LC p s m meth c D k sd A b xs) (hP : va_P D vwCl (SW1 k x u y v) H) (hD : va_D A (SW1 k x u y v)) (hS : va_S A s.heap H locs) (hl : lv_has ls 4 [(0, .ref b), (1, .ref x), (2, .ref y), (3, .int 0)]) : W p l e room_1 s m #[Value.ref b] below meth c H locs 287 18933 (lw_Z below #[Value.ref b] s) (F0 m 1421 ls []) := by
  obtain ⟨hx, hb, hr, hml, hown, hw, hXs, hbl, hlocks, hK, hE, hX, hA, hAr, hbA⟩ := id C
  refine lv_aload_n hx hb dL_law_1421 rfl (lv_at hl 1 rfl) ?_
  refine lv_aload_n hx hb dL_law_1422 rfl (lv_at hl 0 rfl) ?_
  refine lv_iload_n hx hb dL_law_1423 rfl (lv_at hl 3 rfl) ?_
  refine lv_iconst (v := 1) hx hb dL_law_1424 (by decide) ?_
  refine lv_iadd hx hb dL_law_1425 ?_
  refine x_top (v := 1) (by decide) ?_
  refine va_sld hx hb hXs hbl hbA hS (i := 1) (by unfold vp_in; decide) dL_law_1426 ?_
  refine x_top (v := xs 1) rfl ?_
  refine x_i (wr := C10 k y v) (va_runV (As := [.int (xs 1)]) (rest := []) ⟨hx, hb, hml, hown, hw⟩ (kX9_seed l D k sd x u (xs 1) H.size) (cwV 1 hw (gV wd_1076 wd_1077 wd_1078 wd_1 wd_1079) rfl rfl rfl (by decide +kernel) ⟨Nat.le_of_ble_eq_true rfl, Nat.le_of_ble_eq_true rfl⟩) (pre_V (ci := 9) (r := (RX9, TX9, 12)) hK hE hX hP hD hS hA [0, 3, 2, 4, 5, 1] (by decide) rfl rfl (q0 := 0) rfl) rfl rfl hl.1 rfl (lv_room (Nat.le_of_ble_eq_true rfl)) dL_law_1427 ⟨Nat.le_of_ble_eq_true rfl, Nat.le_of_ble_eq_true rfl⟩) hP hD hS hA [0, 3, 2, 4, 5, 1] [6, 7] rfl rfl (by decide) (by decide) (fun r_3 u_1 H locs hp_2 hP hD hS => ?_)
  have hP : va_P D vwCl (C10 k y v) H := hP
  have hD : va_D A (C10 k y v) := hD
  refine lv_aload_n hx hb dL_law_1430 rfl (lv_at hl 2 rfl) ?_
  refine lv_aload_n hx hb dL_law_1431 rfl (lv_at hl 0 rfl) ?_
  refine lv_iload_n hx hb dL_law_1432 rfl (lv_at hl 3 rfl) ?_
  refine lv_iconst (v := 1) hx hb dL_law_1433 (by decide) ?_
  refine lv_iadd hx hb dL_law_1434 ?_
  refine x_top (v := 1) (by decide) ?_
  refine va_sld hx hb hXs hbl hbA hS (i := 1) (by unfold vp_in; decide) dL_law_1435 ?_
  refine x_top (v := xs 1) rfl ?_
  refine x_i (wr := ([] : va_W)) (va_runV (As := [.int (xs 1)]) (rest := [.int r_3]) ⟨hx, hb, hml, hown, hw⟩ (kX10_seed l D k sd y v (xs 1) H.size) (cwV 1 hw (gV wd_1939 wd_1940 wd_1941 wd_11 wd_1942) rfl rfl rfl (by decide +kernel) ⟨Nat.le_of_ble_eq_true rfl, Nat.le_of_ble_eq_true rfl⟩) (pre_V (ci := 10) (r := (RX10, TX10, 80)) hK hE hX hP hD hS hA [0, 1] (by decide) rfl rfl (q0 := 0) rfl) rfl rfl hl.1 rfl (lv_room (Nat.le_of_ble_eq_true rfl)) dL_law_1436 ⟨Nat.le_of_ble_eq_true rfl, Nat.le_of_ble_eq_true rfl⟩) hP hD hS hA [0, 1] [] rfl rfl (by decide) (by decide) (fun r_6 u_4 H locs hp_5 hP hD hS => ?_)
  have hP : va_P D vwCl (([] : va_W)) H := hP
  have hD : va_D A (([] : va_W)) := hD
  refine lv_icmp_eq (tgt := 1566) hx hb dL_law_1439 (by decide) (fun _ => ?_) (fun h => absurd (hp_2.trans hp_5.symm) h)
  exact law_end C hS (lv_sub hl [0, 1, 2, 3] rfl)
set_option maxHeartbeats 4000000 in
set_option maxRecDepth 100000 in
/-- drawn -/
theorem lawm_drawn {p : Program} {l : Launch} {e : Env} {s : State} {m : MethodId} {below : List Frame} {meth : Method} {c : Code} {D : va_G} {k : Nat → ClassId} {sd : Nat → Nat} {A : Nat → Prop} {b : Nat} {xs : Nat → Int32} {x y : Nat} {u : Nat → Nat → Nat} {v : Nat → Nat} {H : Heap} {locs : List Loc} {ls : Array Slot} (C : LC p s m meth c D k sd A b xs) (hP : va_P D vwCl (SW1 k x u y v) H) (hD : va_D A (SW1 k x u y v)) (hS : va_S A s.heap H locs) (hl : lv_has ls 4 [(0, .ref b), (1, .ref x), (2, .ref y), (3, .int 0)]) : W p l e room_1 s m #[Value.ref b] below meth c H locs 287 18933 (lw_Z below #[Value.ref b] s) (F0 m 1444 ls []) := by
  obtain ⟨hx, hb, hr, hml, hown, hw, hXs, hbl, hlocks, hK, hE, hX, hA, hAr, hbA⟩ := id C
  refine lv_aload_n hx hb dL_law_1444 rfl (lv_at hl 1 rfl) ?_
  refine lv_aload_n hx hb dL_law_1445 rfl (lv_at hl 0 rfl) ?_
  refine lv_iload_n hx hb dL_law_1446 rfl (lv_at hl 3 rfl) ?_
  refine lv_iconst (v := 1) hx hb dL_law_1447 (by decide) ?_
  refine lv_iadd hx hb dL_law_1448 ?_
  refine x_top (v := 1) (by decide) ?_
  refine va_sld hx hb hXs hbl hbA hS (i := 1) (by unfold vp_in; decide) dL_law_1449 ?_
  refine x_top (v := xs 1) rfl ?_
  refine lv_aload_n hx hb dL_law_1450 rfl (lv_at hl 0 rfl) ?_
  refine lv_iload_n hx hb dL_law_1451 rfl (lv_at hl 3 rfl) ?_
  refine lv_iconst (v := 2) hx hb dL_law_1452 (by decide) ?_
  refine lv_iadd hx hb dL_law_1453 ?_
  refine x_top (v := 2) (by decide) ?_
  refine va_sld hx hb hXs hbl hbA hS (i := 2) (by unfold vp_in; decide) dL_law_1454 ?_
  refine x_top (v := xs 2) rfl ?_
  refine lv_aload_n hx hb dL_law_1455 rfl (lv_at hl 0 rfl) ?_
  refine lv_iload_n hx hb dL_law_1456 rfl (lv_at hl 3 rfl) ?_
  refine lv_iconst (v := 3) hx hb dL_law_1457 (by decide) ?_
  refine lv_iadd hx hb dL_law_1458 ?_
  refine x_top (v := 3) (by decide) ?_
  refine va_sld hx hb hXs hbl hbA hS (i := 3) (by unfold vp_in; decide) dL_law_1459 ?_
  refine x_top (v := xs 3) rfl ?_
  refine lv_aload_n hx hb dL_law_1460 rfl (lv_at hl 0 rfl) ?_
  refine lv_iload_n hx hb dL_law_1461 rfl (lv_at hl 3 rfl) ?_
  refine lv_iconst (v := 4) hx hb dL_law_1462 (by decide) ?_
  refine lv_iadd hx hb dL_law_1463 ?_
  refine x_top (v := 4) (by decide) ?_
  refine va_sld hx hb hXs hbl hbA hS (i := 4) (by unfold vp_in; decide) dL_law_1464 ?_
  refine x_top (v := xs 4) rfl ?_
  refine x_i (wr := C10 k y v) (va_runV (As := [.int (xs 1), .int (xs 2), .int (xs 3), .int (xs 4)]) (rest := []) ⟨hx, hb, hml, hown, hw⟩ (kX9_drawn l D k sd x u (xs 1) (xs 2) (xs 3) (xs 4) H.size) (cwV 4 hw (gV wd_1080 wd_1081 wd_1082 wd_1 wd_1083) rfl rfl rfl (by decide +kernel) ⟨Nat.le_of_ble_eq_true rfl, Nat.le_of_ble_eq_true rfl⟩) (pre_V (ci := 9) (r := (RX9, TX9, 12)) hK hE hX hP hD hS hA [0, 3, 2, 4, 5, 1] (by decide) rfl rfl (q0 := 0) rfl) rfl rfl hl.1 rfl (lv_room (Nat.le_of_ble_eq_true rfl)) dL_law_1465 ⟨Nat.le_of_ble_eq_true rfl, Nat.le_of_ble_eq_true rfl⟩) hP hD hS hA [0, 3, 2, 4, 5, 1] [6, 7] rfl rfl (by decide) (by decide) (fun r_3 u_1 H locs hp_2 hP hD hS => ?_)
  subst hp_2
  have hP : va_P D vwCl (C10 k y v) H := hP
  have hD : va_D A (C10 k y v) := hD
  refine lv_aload_n hx hb dL_law_1468 rfl (lv_at hl 2 rfl) ?_
  refine lv_aload_n hx hb dL_law_1469 rfl (lv_at hl 0 rfl) ?_
  refine lv_iload_n hx hb dL_law_1470 rfl (lv_at hl 3 rfl) ?_
  refine lv_iconst (v := 1) hx hb dL_law_1471 (by decide) ?_
  refine lv_iadd hx hb dL_law_1472 ?_
  refine x_top (v := 1) (by decide) ?_
  refine va_sld hx hb hXs hbl hbA hS (i := 1) (by unfold vp_in; decide) dL_law_1473 ?_
  refine x_top (v := xs 1) rfl ?_
  refine lv_aload_n hx hb dL_law_1474 rfl (lv_at hl 0 rfl) ?_
  refine lv_iload_n hx hb dL_law_1475 rfl (lv_at hl 3 rfl) ?_
  refine lv_iconst (v := 2) hx hb dL_law_1476 (by decide) ?_
  refine lv_iadd hx hb dL_law_1477 ?_
  refine x_top (v := 2) (by decide) ?_
  refine va_sld hx hb hXs hbl hbA hS (i := 2) (by unfold vp_in; decide) dL_law_1478 ?_
  refine x_top (v := xs 2) rfl ?_
  refine lv_aload_n hx hb dL_law_1479 rfl (lv_at hl 0 rfl) ?_
  refine lv_iload_n hx hb dL_law_1480 rfl (lv_at hl 3 rfl) ?_
  refine lv_iconst (v := 3) hx hb dL_law_1481 (by decide) ?_
  refine lv_iadd hx hb dL_law_1482 ?_
  refine x_top (v := 3) (by decide) ?_
  refine va_sld hx hb hXs hbl hbA hS (i := 3) (by unfold vp_in; decide) dL_law_1483 ?_
  refine x_top (v := xs 3) rfl ?_
  refine lv_aload_n hx hb dL_law_1484 rfl (lv_at hl 0 rfl) ?_
  refine lv_iload_n hx hb dL_law_1485 rfl (lv_at hl 3 rfl) ?_
  refine lv_iconst (v := 4) hx hb dL_law_1486 (by decide) ?_
  refine lv_iadd hx hb dL_law_1487 ?_
  refine x_top (v := 4) (by decide) ?_
  refine va_sld hx hb hXs hbl hbA hS (i := 4) (by unfold vp_in; decide) dL_law_1488 ?_
  refine x_top (v := xs 4) rfl ?_
  refine x_i (wr := ([] : va_W)) (va_runV (As := [.int (xs 1), .int (xs 2), .int (xs 3), .int (xs 4)]) (rest := [.int (-1)]) ⟨hx, hb, hml, hown, hw⟩ (kX10_drawn l D k sd y v (xs 1) (xs 2) (xs 3) (xs 4) H.size) (cwV 4 hw (gV wd_1943 wd_1944 wd_1945 wd_11 wd_1946) rfl rfl rfl (by decide +kernel) ⟨Nat.le_of_ble_eq_true rfl, Nat.le_of_ble_eq_true rfl⟩) (pre_V (ci := 10) (r := (RX10, TX10, 80)) hK hE hX hP hD hS hA [0, 1] (by decide) rfl rfl (q0 := 0) rfl) rfl rfl hl.1 rfl (lv_room (Nat.le_of_ble_eq_true rfl)) dL_law_1489 ⟨Nat.le_of_ble_eq_true rfl, Nat.le_of_ble_eq_true rfl⟩) hP hD hS hA [0, 1] [] rfl rfl (by decide) (by decide) (fun r_6 u_4 H locs hp_5 hP hD hS => ?_)
  subst hp_5
  have hP : va_P D vwCl (([] : va_W)) H := hP
  have hD : va_D A (([] : va_W)) := hD
  refine lv_icmp_eq (tgt := 1566) hx hb dL_law_1492 (by decide) (fun _ => ?_) (fun h => absurd (by decide) h)
  exact law_end C hS (lv_sub hl [0, 1, 2, 3] rfl)
set_option maxHeartbeats 4000000 in
set_option maxRecDepth 100000 in
/-- count -/
theorem lawm_count {p : Program} {l : Launch} {e : Env} {s : State} {m : MethodId} {below : List Frame} {meth : Method} {c : Code} {D : va_G} {k : Nat → ClassId} {sd : Nat → Nat} {A : Nat → Prop} {b : Nat} {xs : Nat → Int32} {x y : Nat} {u : Nat → Nat → Nat} {v : Nat → Nat} {H : Heap} {locs : List Loc} {ls : Array Slot} (C : LC p s m meth c D k sd A b xs) (hP : va_P D vwCl (SW1 k x u y v) H) (hD : va_D A (SW1 k x u y v)) (hS : va_S A s.heap H locs) (hl : lv_has ls 4 [(0, .ref b), (1, .ref x), (2, .ref y), (3, .int 0)]) : W p l e room_1 s m #[Value.ref b] below meth c H locs 287 18933 (lw_Z below #[Value.ref b] s) (F0 m 1497 ls []) := by
  obtain ⟨hx, hb, hr, hml, hown, hw, hXs, hbl, hlocks, hK, hE, hX, hA, hAr, hbA⟩ := id C
  refine lv_aload_n hx hb dL_law_1497 rfl (lv_at hl 1 rfl) ?_
  refine lv_aload_n hx hb dL_law_1498 rfl (lv_at hl 0 rfl) ?_
  refine lv_iload_n hx hb dL_law_1499 rfl (lv_at hl 3 rfl) ?_
  refine lv_iconst (v := 1) hx hb dL_law_1500 (by decide) ?_
  refine lv_iadd hx hb dL_law_1501 ?_
  refine x_top (v := 1) (by decide) ?_
  refine va_sld hx hb hXs hbl hbA hS (i := 1) (by unfold vp_in; decide) dL_law_1502 ?_
  refine x_top (v := xs 1) rfl ?_
  refine x_i (wr := C10 k y v) (va_runV (As := [.int (xs 1)]) (rest := []) ⟨hx, hb, hml, hown, hw⟩ (kX9_count l D k sd x u (xs 1) H.size) (cwV 1 hw (gV wd_1091 wd_1092 wd_1093 wd_1 wd_1094) rfl rfl rfl (by decide +kernel) ⟨Nat.le_of_ble_eq_true rfl, Nat.le_of_ble_eq_true rfl⟩) (pre_V (ci := 9) (r := (RX9, TX9, 12)) hK hE hX hP hD hS hA [0, 3, 2, 4, 5, 1] (by decide) rfl rfl (q0 := 0) rfl) rfl rfl hl.1 rfl (lv_room (Nat.le_of_ble_eq_true rfl)) dL_law_1503 ⟨Nat.le_of_ble_eq_true rfl, Nat.le_of_ble_eq_true rfl⟩) hP hD hS hA [0, 3, 2, 4, 5, 1] [6, 7] rfl rfl (by decide) (by decide) (fun r_3 u_1 H locs hp_2 hP hD hS => ?_)
  have hP : va_P D vwCl (C10 k y v) H := hP
  have hD : va_D A (C10 k y v) := hD
  refine lv_aload_n hx hb dL_law_1506 rfl (lv_at hl 2 rfl) ?_
  refine lv_aload_n hx hb dL_law_1507 rfl (lv_at hl 0 rfl) ?_
  refine lv_iload_n hx hb dL_law_1508 rfl (lv_at hl 3 rfl) ?_
  refine lv_iconst (v := 1) hx hb dL_law_1509 (by decide) ?_
  refine lv_iadd hx hb dL_law_1510 ?_
  refine x_top (v := 1) (by decide) ?_
  refine va_sld hx hb hXs hbl hbA hS (i := 1) (by unfold vp_in; decide) dL_law_1511 ?_
  refine x_top (v := xs 1) rfl ?_
  refine x_i (wr := ([] : va_W)) (va_runV (As := [.int (xs 1)]) (rest := [.int r_3]) ⟨hx, hb, hml, hown, hw⟩ (kX10_count l D k sd y v (xs 1) H.size) (cwV 1 hw (gV wd_1958 wd_1959 wd_1960 wd_11 wd_1961) rfl rfl rfl (by decide +kernel) ⟨Nat.le_of_ble_eq_true rfl, Nat.le_of_ble_eq_true rfl⟩) (pre_V (ci := 10) (r := (RX10, TX10, 80)) hK hE hX hP hD hS hA [0, 1] (by decide) rfl rfl (q0 := 0) rfl) rfl rfl hl.1 rfl (lv_room (Nat.le_of_ble_eq_true rfl)) dL_law_1512 ⟨Nat.le_of_ble_eq_true rfl, Nat.le_of_ble_eq_true rfl⟩) hP hD hS hA [0, 1] [] rfl rfl (by decide) (by decide) (fun r_6 u_4 H locs hp_5 hP hD hS => ?_)
  have hP : va_P D vwCl (([] : va_W)) H := hP
  have hD : va_D A (([] : va_W)) := hD
  refine lv_icmp_eq (tgt := 1566) hx hb dL_law_1515 (by decide) (fun _ => ?_) (fun h => absurd (hp_2.trans hp_5.symm) h)
  exact law_end C hS (lv_sub hl [0, 1, 2, 3] rfl)
def SW4 (k : Nat → ClassId) (x : Nat) (u : Nat → Nat → Nat) (y : Nat) (v : Nat → Nat) : va_W := [(x, .inr (9, [.ref (u 0 0), .ref (u 0 1), .ref (u 0 2), .ref (u 0 3), .int 0, .ref (u 0 4), .ref (u 0 17), .ref (u 0 6), .ref (u 0 18), .ref (u 0 19), .ref (u 0 20), .ref (u 0 21)])), (u 0 6, .inl (k 4, 4, .inr (.inr (.inr (.inr (va_up (va_up (va_up (va_up (fun _ => none) 0 (some (u 0 13))) 1 (some (u 0 14))) 2 (some (u 0 15))) 3 (some (u 0 16)))))))), (u 0 5, .inr (2, [.int 0, .int 0, .int 0, .int 0, .int 0, .ref (u 6 0), .ref (u 6 1), .ref (u 6 2), .ref (u 6 3), .ref (u 6 4), .ref (u 6 5), .ref (u 6 6)])), (u 6 0, .inl (k 0, 6, .inl (fun _ => 0))), (u 6 1, .inl (k 0, 9, .inl (fun _ => 0))), (u 6 2, .inl (k 0, 4, .inl (fun _ => 0))), (u 6 3, .inl (k 0, 12, .inl (fun _ => 0))), (u 6 4, .inl (k 0, 12, .inl (fun _ => 0))), (u 6 5, .inl (k 0, 12, .inl (fun _ => 0))), (u 6 6, .inl (k 0, 12, .inl (fun _ => 0))), (u 0 4, .inr (8, [.ref (u 0 5), .ref (u 5 0), .ref (u 5 10), .ref (u 5 23), .ref (u 0 3), .ref (u 5 24), .ref (u 5 25), .ref (u 5 26), .int 0])), (u 5 0, .inr (6, [.int 0, .int 0, .int (-1), .int 0, .int 0, .int 0, .ref (u 5 1), .ref (u 5 2), .ref (u 5 3), .ref (u 5 4), .ref (u 5 5), .ref (u 5 6), .ref (u 5 7), .ref (u 5 8), .ref (u 5 9)])), (u 5 1, .inl (k 0, 6, .inl (fun _ => 0))), (u 5 2, .inl (k 0, 9, .inl (fun _ => 0))), (u 5 3, .inl (k 0, 12, .inl (fun _ => 0))), (u 5 4, .inl (k 0, 12, .inl (fun _ => 0))), (u 5 5, .inl (k 0, 12, .inl (fun _ => 0))), (u 5 6, .inl (k 0, 12, .inl (fun _ => 0))), (u 5 7, .inl (k 0, 12, .inl (fun _ => 0))), (u 5 8, .inl (k 0, 12, .inl (fun _ => 0))), (u 5 9, .inl (k 0, 72, .inl (fun _ => 0))), (u 5 10, .inr (0, [.int 0, .int 0, .ref (u 5 11), .ref (u 5 12), .int 0, .ref (u 5 13), .int 0, .ref (u 5 14), .ref (u 5 15), .ref (u 5 16), .ref (u 5 17), .int 0, .ref (u 5 18), .ref (u 5 19), .ref (u 5 20), .ref (u 5 21), .ref (u 5 22)])), (u 5 11, .inl (k 0, 6, .inl (fun _ => 0))), (u 5 12, .inl (k 0, 36, .inl (fun _ => 0))), (u 5 13, .inl (k 0, 20, .inl (fun _ => 0))), (u 5 14, .inl (k 0, 20, .inl (fun _ => 0))), (u 5 15, .inl (k 0, 20, .inl (fun _ => 0))), (u 5 16, .inl (k 0, 20, .inl (fun _ => 0))), (u 5 17, .inl (k 0, 20, .inl (fun _ => 0))), (u 5 18, .inl (k 0, 12, .inl (fun _ => 0))), (u 5 19, .inl (k 0, 12, .inl (fun _ => 0))), (u 5 20, .inl (k 0, 12, .inl (fun _ => 0))), (u 5 21, .inl (k 0, 12, .inl (fun _ => 0))), (u 5 22, .inl (k 0, 360, .inl (fun _ => 0))), (u 0 13, .inr (1, [.int 0, .ref (u 7 0), .ref (u 7 8), .ref (u 7 18)])), (u 7 0, .inr (2, [.int 0, .int 0, .int 0, .int 0, .int 0, .ref (u 7 1), .ref (u 7 2), .ref (u 7 3), .ref (u 7 4), .ref (u 7 5), .ref (u 7 6), .ref (u 7 7)])), (u 7 1, .inl (k 0, 6, .inl (fun _ => 0))), (u 7 2, .inl (k 0, 9, .inl (fun _ => 0))), (u 7 3, .inl (k 0, 4, .inl (fun _ => 0))), (u 7 4, .inl (k 0, 12, .inl (fun _ => 0))), (u 7 5, .inl (k 0, 12, .inl (fun _ => 0))), (u 7 6, .inl (k 0, 12, .inl (fun _ => 0))), (u 7 7, .inl (k 0, 12, .inl (fun _ => 0))), (u 7 8, .inr (6, [.int 0, .int 0, .int (-1), .int 0, .int 0, .int 0, .ref (u 7 9), .ref (u 7 10), .ref (u 7 11), .ref (u 7 12), .ref (u 7 13), .ref (u 7 14), .ref (u 7 15), .ref (u 7 16), .ref (u 7 17)])), (u 7 9, .inl (k 0, 6, .inl (fun _ => 0))), (u 7 10, .inl (k 0, 9, .inl (fun _ => 0))), (u 7 11, .inl (k 0, 12, .inl (fun _ => 0))), (u 7 12, .inl (k 0, 12, .inl (fun _ => 0))), (u 7 13, .inl (k 0, 12, .inl (fun _ => 0))), (u 7 14, .inl (k 0, 12, .inl (fun _ => 0))), (u 7 15, .inl (k 0, 12, .inl (fun _ => 0))), (u 7 16, .inl (k 0, 12, .inl (fun _ => 0))), (u 7 17, .inl (k 0, 72, .inl (fun _ => 0))), (u 7 18, .inr (0, [.int 0, .int 0, .ref (u 7 19), .ref (u 7 20), .int 0, .ref (u 7 21), .int 0, .ref (u 7 22), .ref (u 7 23), .ref (u 7 24), .ref (u 7 25), .int 0, .ref (u 7 26), .ref (u 7 27), .ref (u 7 28), .ref (u 7 29), .ref (u 7 30)])), (u 7 19, .inl (k 0, 6, .inl (fun _ => 0))), (u 7 20, .inl (k 0, 36, .inl (fun _ => 0))), (u 7 21, .inl (k 0, 20, .inl (fun _ => 0))), (u 7 22, .inl (k 0, 20, .inl (fun _ => 0))), (u 7 23, .inl (k 0, 20, .inl (fun _ => 0))), (u 7 24, .inl (k 0, 20, .inl (fun _ => 0))), (u 7 25, .inl (k 0, 20, .inl (fun _ => 0))), (u 7 26, .inl (k 0, 12, .inl (fun _ => 0))), (u 7 27, .inl (k 0, 12, .inl (fun _ => 0))), (u 7 28, .inl (k 0, 12, .inl (fun _ => 0))), (u 7 29, .inl (k 0, 12, .inl (fun _ => 0))), (u 7 30, .inl (k 0, 360, .inl (fun _ => 0))), (y, .inr (10, [.int 0, .ref (v 1), .ref (v 2), .ref (v 3), .ref (v 4), .ref (v 5), .ref (v 6), .ref (v 7), .ref (v 8), .ref (v 9), .ref (v 10), .ref (v 11), .ref (v 12), .ref (v 13), .ref (v 14), .ref (v 15), .ref (v 16), .ref (v 17), .ref (v 18), .ref (v 19), .ref (v 20), .ref (v 21), .ref (v 22), .ref (v 23), .ref (v 24), .ref (v 25), .ref (v 26), .ref (v 27), .ref (v 28), .ref (v 29), .ref (v 30), .ref (v 31), .ref (v 32), .ref (v 33), .ref (v 34), .ref (v 35), .ref (v 36), .int 0, .int 0, .int 0, .int 0, .int 0, .int 0, .int 0, .int 0, .int 0, .int 13, .int 0, .ref (v 48), .ref (v 49), .ref (v 50), .ref (v 51), .ref (v 52), .ref (v 53), .ref (v 54), .ref (v 55), .ref (v 56), .ref (v 57), .ref (v 58), .ref (v 59), .ref (v 60), .int 0, .int 0, .int 0, .int 0, .int 0, .int 0, .int 0, .ref (v 68), .ref (v 69), .ref (v 70), .ref (v 71), .ref (v 72), .int 0, .int 0, .ref (v 75), .ref (v 76), .ref (v 77), .int 0, .int 0])), (v 1, .inl (k 0, 17, .inl (scal0))), (v 2, .inl (k 0, 9, .inl (fun _ => 0))), (v 3, .inl (k 0, 9, .inl (fun _ => 0))), (v 4, .inl (k 0, 4, .inl (fun _ => 0))), (v 5, .inl (k 0, 6, .inl (fun _ => 0))), (v 6, .inl (k 0, 6, .inl (fun _ => 0))), (v 7, .inl (k 0, 6, .inl (fun _ => 0))), (v 8, .inl (k 0, 36, .inl (fun _ => 0))), (v 9, .inl (k 0, 12, .inl (fun _ => 0))), (v 10, .inl (k 0, 12, .inl (fun _ => 0))), (v 11, .inl (k 0, 12, .inl (fun _ => 0))), (v 12, .inl (k 0, 12, .inl (fun _ => 0))), (v 13, .inl (k 0, 12, .inl (fun _ => 0))), (v 14, .inl (k 0, 12, .inl (fun _ => 0))), (v 15, .inl (k 0, 12, .inl (fun _ => 0))), (v 16, .inl (k 0, 12, .inl (fun _ => 0))), (v 17, .inl (k 0, 12, .inl (fun _ => 0))), (v 18, .inl (k 0, 72, .inl (fun _ => 0))), (v 19, .inl (k 0, 20, .inl (fun _ => 0))), (v 20, .inl (k 0, 20, .inl (fun _ => 0))), (v 21, .inl (k 0, 20, .inl (fun _ => 0))), (v 22, .inl (k 0, 20, .inl (fun _ => 0))), (v 23, .inl (k 0, 20, .inl (fun _ => 0))), (v 24, .inl (k 0, 12, .inl (fun _ => 0))), (v 25, .inl (k 0, 12, .inl (fun _ => 0))), (v 26, .inl (k 0, 12, .inl (fun _ => 0))), (v 27, .inl (k 0, 12, .inl (fun _ => 0))), (v 28, .inl (k 0, 360, .inl (fun _ => 0))), (v 76, .inl (k 0, 4500, .inl (fun _ => 0))), (v 77, .inl (k 2, 4, .inl (fun _ => 0)))]
set_option maxRecDepth 100000 in
theorem sub_4 (k : Nat → ClassId) (x : Nat) (u : Nat → Nat → Nat) (y : Nat) (v : Nat → Nat) : List.Sublist (SW4 k x u y v) (G9n k x u ++ G10 k y v) := by
  have h : List.Sublist ((([(x, .inr (9, [.ref (u 0 0), .ref (u 0 1), .ref (u 0 2), .ref (u 0 3), .int 0, .ref (u 0 4), .ref (u 0 17), .ref (u 0 6), .ref (u 0 18), .ref (u 0 19), .ref (u 0 20), .ref (u 0 21)])), (u 0 6, .inl (k 4, 4, .inr (.inr (.inr (.inr (va_up (va_up (va_up (va_up (fun _ => none) 0 (some (u 0 13))) 1 (some (u 0 14))) 2 (some (u 0 15))) 3 (some (u 0 16))))))))] ++ (((((((((((((((((((([] : va_W) ++ ([] : va_W)) ++ ([] : va_W)) ++ ([] : va_W)) ++ ([] : va_W)) ++ ([] : va_W)) ++ ([] : va_W)) ++ ([] : va_W)) ++ ([] : va_W)) ++ ([] : va_W)) ++ [(u 0 5, .inr (2, [.int 0, .int 0, .int 0, .int 0, .int 0, .ref (u 6 0), .ref (u 6 1), .ref (u 6 2), .ref (u 6 3), .ref (u 6 4), .ref (u 6 5), .ref (u 6 6)])), (u 6 0, .inl (k 0, 6, .inl (fun _ => 0))), (u 6 1, .inl (k 0, 9, .inl (fun _ => 0))), (u 6 2, .inl (k 0, 4, .inl (fun _ => 0))), (u 6 3, .inl (k 0, 12, .inl (fun _ => 0))), (u 6 4, .inl (k 0, 12, .inl (fun _ => 0))), (u 6 5, .inl (k 0, 12, .inl (fun _ => 0))), (u 6 6, .inl (k 0, 12, .inl (fun _ => 0)))]) ++ [(u 0 4, .inr (8, [.ref (u 0 5), .ref (u 5 0), .ref (u 5 10), .ref (u 5 23), .ref (u 0 3), .ref (u 5 24), .ref (u 5 25), .ref (u 5 26), .int 0])), (u 5 0, .inr (6, [.int 0, .int 0, .int (-1), .int 0, .int 0, .int 0, .ref (u 5 1), .ref (u 5 2), .ref (u 5 3), .ref (u 5 4), .ref (u 5 5), .ref (u 5 6), .ref (u 5 7), .ref (u 5 8), .ref (u 5 9)])), (u 5 1, .inl (k 0, 6, .inl (fun _ => 0))), (u 5 2, .inl (k 0, 9, .inl (fun _ => 0))), (u 5 3, .inl (k 0, 12, .inl (fun _ => 0))), (u 5 4, .inl (k 0, 12, .inl (fun _ => 0))), (u 5 5, .inl (k 0, 12, .inl (fun _ => 0))), (u 5 6, .inl (k 0, 12, .inl (fun _ => 0))), (u 5 7, .inl (k 0, 12, .inl (fun _ => 0))), (u 5 8, .inl (k 0, 12, .inl (fun _ => 0))), (u 5 9, .inl (k 0, 72, .inl (fun _ => 0))), (u 5 10, .inr (0, [.int 0, .int 0, .ref (u 5 11), .ref (u 5 12), .int 0, .ref (u 5 13), .int 0, .ref (u 5 14), .ref (u 5 15), .ref (u 5 16), .ref (u 5 17), .int 0, .ref (u 5 18), .ref (u 5 19), .ref (u 5 20), .ref (u 5 21), .ref (u 5 22)])), (u 5 11, .inl (k 0, 6, .inl (fun _ => 0))), (u 5 12, .inl (k 0, 36, .inl (fun _ => 0))), (u 5 13, .inl (k 0, 20, .inl (fun _ => 0))), (u 5 14, .inl (k 0, 20, .inl (fun _ => 0))), (u 5 15, .inl (k 0, 20, .inl (fun _ => 0))), (u 5 16, .inl (k 0, 20, .inl (fun _ => 0))), (u 5 17, .inl (k 0, 20, .inl (fun _ => 0))), (u 5 18, .inl (k 0, 12, .inl (fun _ => 0))), (u 5 19, .inl (k 0, 12, .inl (fun _ => 0))), (u 5 20, .inl (k 0, 12, .inl (fun _ => 0))), (u 5 21, .inl (k 0, 12, .inl (fun _ => 0))), (u 5 22, .inl (k 0, 360, .inl (fun _ => 0)))]) ++ [(u 0 13, .inr (1, [.int 0, .ref (u 7 0), .ref (u 7 8), .ref (u 7 18)])), (u 7 0, .inr (2, [.int 0, .int 0, .int 0, .int 0, .int 0, .ref (u 7 1), .ref (u 7 2), .ref (u 7 3), .ref (u 7 4), .ref (u 7 5), .ref (u 7 6), .ref (u 7 7)])), (u 7 1, .inl (k 0, 6, .inl (fun _ => 0))), (u 7 2, .inl (k 0, 9, .inl (fun _ => 0))), (u 7 3, .inl (k 0, 4, .inl (fun _ => 0))), (u 7 4, .inl (k 0, 12, .inl (fun _ => 0))), (u 7 5, .inl (k 0, 12, .inl (fun _ => 0))), (u 7 6, .inl (k 0, 12, .inl (fun _ => 0))), (u 7 7, .inl (k 0, 12, .inl (fun _ => 0))), (u 7 8, .inr (6, [.int 0, .int 0, .int (-1), .int 0, .int 0, .int 0, .ref (u 7 9), .ref (u 7 10), .ref (u 7 11), .ref (u 7 12), .ref (u 7 13), .ref (u 7 14), .ref (u 7 15), .ref (u 7 16), .ref (u 7 17)])), (u 7 9, .inl (k 0, 6, .inl (fun _ => 0))), (u 7 10, .inl (k 0, 9, .inl (fun _ => 0))), (u 7 11, .inl (k 0, 12, .inl (fun _ => 0))), (u 7 12, .inl (k 0, 12, .inl (fun _ => 0))), (u 7 13, .inl (k 0, 12, .inl (fun _ => 0))), (u 7 14, .inl (k 0, 12, .inl (fun _ => 0))), (u 7 15, .inl (k 0, 12, .inl (fun _ => 0))), (u 7 16, .inl (k 0, 12, .inl (fun _ => 0))), (u 7 17, .inl (k 0, 72, .inl (fun _ => 0))), (u 7 18, .inr (0, [.int 0, .int 0, .ref (u 7 19), .ref (u 7 20), .int 0, .ref (u 7 21), .int 0, .ref (u 7 22), .ref (u 7 23), .ref (u 7 24), .ref (u 7 25), .int 0, .ref (u 7 26), .ref (u 7 27), .ref (u 7 28), .ref (u 7 29), .ref (u 7 30)])), (u 7 19, .inl (k 0, 6, .inl (fun _ => 0))), (u 7 20, .inl (k 0, 36, .inl (fun _ => 0))), (u 7 21, .inl (k 0, 20, .inl (fun _ => 0))), (u 7 22, .inl (k 0, 20, .inl (fun _ => 0))), (u 7 23, .inl (k 0, 20, .inl (fun _ => 0))), (u 7 24, .inl (k 0, 20, .inl (fun _ => 0))), (u 7 25, .inl (k 0, 20, .inl (fun _ => 0))), (u 7 26, .inl (k 0, 12, .inl (fun _ => 0))), (u 7 27, .inl (k 0, 12, .inl (fun _ => 0))), (u 7 28, .inl (k 0, 12, .inl (fun _ => 0))), (u 7 29, .inl (k 0, 12, .inl (fun _ => 0))), (u 7 30, .inl (k 0, 360, .inl (fun _ => 0)))]) ++ ([] : va_W)) ++ ([] : va_W)) ++ ([] : va_W)) ++ ([] : va_W)) ++ ([] : va_W)) ++ ([] : va_W)) ++ ([] : va_W))) ++ [(y, .inr (10, [.int 0, .ref (v 1), .ref (v 2), .ref (v 3), .ref (v 4), .ref (v 5), .ref (v 6), .ref (v 7), .ref (v 8), .ref (v 9), .ref (v 10), .ref (v 11), .ref (v 12), .ref (v 13), .ref (v 14), .ref (v 15), .ref (v 16), .ref (v 17), .ref (v 18), .ref (v 19), .ref (v 20), .ref (v 21), .ref (v 22), .ref (v 23), .ref (v 24), .ref (v 25), .ref (v 26), .ref (v 27), .ref (v 28), .ref (v 29), .ref (v 30), .ref (v 31), .ref (v 32), .ref (v 33), .ref (v 34), .ref (v 35), .ref (v 36), .int 0, .int 0, .int 0, .int 0, .int 0, .int 0, .int 0, .int 0, .int 0, .int 13, .int 0, .ref (v 48), .ref (v 49), .ref (v 50), .ref (v 51), .ref (v 52), .ref (v 53), .ref (v 54), .ref (v 55), .ref (v 56), .ref (v 57), .ref (v 58), .ref (v 59), .ref (v 60), .int 0, .int 0, .int 0, .int 0, .int 0, .int 0, .int 0, .ref (v 68), .ref (v 69), .ref (v 70), .ref (v 71), .ref (v 72), .int 0, .int 0, .ref (v 75), .ref (v 76), .ref (v 77), .int 0, .int 0])), (v 1, .inl (k 0, 17, .inl (scal0))), (v 2, .inl (k 0, 9, .inl (fun _ => 0))), (v 3, .inl (k 0, 9, .inl (fun _ => 0))), (v 4, .inl (k 0, 4, .inl (fun _ => 0))), (v 5, .inl (k 0, 6, .inl (fun _ => 0))), (v 6, .inl (k 0, 6, .inl (fun _ => 0))), (v 7, .inl (k 0, 6, .inl (fun _ => 0))), (v 8, .inl (k 0, 36, .inl (fun _ => 0))), (v 9, .inl (k 0, 12, .inl (fun _ => 0))), (v 10, .inl (k 0, 12, .inl (fun _ => 0))), (v 11, .inl (k 0, 12, .inl (fun _ => 0))), (v 12, .inl (k 0, 12, .inl (fun _ => 0))), (v 13, .inl (k 0, 12, .inl (fun _ => 0))), (v 14, .inl (k 0, 12, .inl (fun _ => 0))), (v 15, .inl (k 0, 12, .inl (fun _ => 0))), (v 16, .inl (k 0, 12, .inl (fun _ => 0))), (v 17, .inl (k 0, 12, .inl (fun _ => 0))), (v 18, .inl (k 0, 72, .inl (fun _ => 0))), (v 19, .inl (k 0, 20, .inl (fun _ => 0))), (v 20, .inl (k 0, 20, .inl (fun _ => 0))), (v 21, .inl (k 0, 20, .inl (fun _ => 0))), (v 22, .inl (k 0, 20, .inl (fun _ => 0))), (v 23, .inl (k 0, 20, .inl (fun _ => 0))), (v 24, .inl (k 0, 12, .inl (fun _ => 0))), (v 25, .inl (k 0, 12, .inl (fun _ => 0))), (v 26, .inl (k 0, 12, .inl (fun _ => 0))), (v 27, .inl (k 0, 12, .inl (fun _ => 0))), (v 28, .inl (k 0, 360, .inl (fun _ => 0))), (v 76, .inl (k 0, 4500, .inl (fun _ => 0))), (v 77, .inl (k 2, 4, .inl (fun _ => 0)))]) : va_W) (G9n k x u ++ G10 k y v) := List.Sublist.append (List.Sublist.append (List.Sublist.cons₂ _ (List.Sublist.cons _ (List.Sublist.cons₂ _ (List.nil_sublist _)))) (List.Sublist.append (List.Sublist.append (List.Sublist.append (List.Sublist.append (List.Sublist.append (List.Sublist.append (List.Sublist.append (List.Sublist.append (List.Sublist.append (List.Sublist.append (List.Sublist.append (List.Sublist.append (List.Sublist.append (List.Sublist.append (List.Sublist.append (List.Sublist.append (List.Sublist.append (List.Sublist.append (List.Sublist.append (List.Sublist.refl ([] : va_W)) (List.nil_sublist _)) (List.nil_sublist _)) (List.nil_sublist _)) (List.nil_sublist _)) (List.nil_sublist _)) (List.nil_sublist _)) (List.nil_sublist _)) (List.nil_sublist _)) (List.nil_sublist _)) (List.Sublist.refl _)) (List.Sublist.cons₂ _ (List.Sublist.cons₂ _ (List.Sublist.cons₂ _ (List.Sublist.cons₂ _ (List.Sublist.cons₂ _ (List.Sublist.cons₂ _ (List.Sublist.cons₂ _ (List.Sublist.cons₂ _ (List.Sublist.cons₂ _ (List.Sublist.cons₂ _ (List.Sublist.cons₂ _ (List.Sublist.cons₂ _ (List.Sublist.cons₂ _ (List.Sublist.cons₂ _ (List.Sublist.cons₂ _ (List.Sublist.cons₂ _ (List.Sublist.cons₂ _ (List.Sublist.cons₂ _ (List.Sublist.cons₂ _ (List.Sublist.cons₂ _ (List.Sublist.cons₂ _ (List.Sublist.cons₂ _ (List.Sublist.cons₂ _ (List.Sublist.cons₂ _ (List.nil_sublist _)))))))))))))))))))))))))) (List.Sublist.refl _)) (List.nil_sublist _)) (List.nil_sublist _)) (List.nil_sublist _)) (List.nil_sublist _)) (List.nil_sublist _)) (List.nil_sublist _)) (List.nil_sublist _))) (List.Sublist.cons₂ _ (List.Sublist.cons₂ _ (List.Sublist.cons₂ _ (List.Sublist.cons₂ _ (List.Sublist.cons₂ _ (List.Sublist.cons₂ _ (List.Sublist.cons₂ _ (List.Sublist.cons₂ _ (List.Sublist.cons₂ _ (List.Sublist.cons₂ _ (List.Sublist.cons₂ _ (List.Sublist.cons₂ _ (List.Sublist.cons₂ _ (List.Sublist.cons₂ _ (List.Sublist.cons₂ _ (List.Sublist.cons₂ _ (List.Sublist.cons₂ _ (List.Sublist.cons₂ _ (List.Sublist.cons₂ _ (List.Sublist.cons₂ _ (List.Sublist.cons₂ _ (List.Sublist.cons₂ _ (List.Sublist.cons₂ _ (List.Sublist.cons₂ _ (List.Sublist.cons₂ _ (List.Sublist.cons₂ _ (List.Sublist.cons₂ _ (List.Sublist.cons₂ _ (List.Sublist.cons₂ _ (List.Sublist.cons _ (List.Sublist.cons _ (List.Sublist.cons _ (List.Sublist.cons _ (List.Sublist.cons _ (List.Sublist.cons _ (List.Sublist.cons _ (List.Sublist.cons _ (List.Sublist.cons _ (List.Sublist.cons _ (List.Sublist.cons _ (List.Sublist.cons _ (List.Sublist.cons _ (List.Sublist.cons _ (List.Sublist.cons _ (List.Sublist.cons _ (List.Sublist.cons _ (List.Sublist.cons _ (List.Sublist.cons _ (List.Sublist.cons _ (List.Sublist.cons _ (List.Sublist.cons _ (List.Sublist.cons _ (List.Sublist.cons _ (List.Sublist.cons _ (List.Sublist.cons _ (List.Sublist.cons _ (List.Sublist.cons₂ _ (List.Sublist.cons₂ _ (List.nil_sublist _)))))))))))))))))))))))))))))))))))))))))))))))))))))))))))
  have e : SW4 k x u y v = ((([(x, .inr (9, [.ref (u 0 0), .ref (u 0 1), .ref (u 0 2), .ref (u 0 3), .int 0, .ref (u 0 4), .ref (u 0 17), .ref (u 0 6), .ref (u 0 18), .ref (u 0 19), .ref (u 0 20), .ref (u 0 21)])), (u 0 6, .inl (k 4, 4, .inr (.inr (.inr (.inr (va_up (va_up (va_up (va_up (fun _ => none) 0 (some (u 0 13))) 1 (some (u 0 14))) 2 (some (u 0 15))) 3 (some (u 0 16))))))))] ++ (((((((((((((((((((([] : va_W) ++ ([] : va_W)) ++ ([] : va_W)) ++ ([] : va_W)) ++ ([] : va_W)) ++ ([] : va_W)) ++ ([] : va_W)) ++ ([] : va_W)) ++ ([] : va_W)) ++ ([] : va_W)) ++ [(u 0 5, .inr (2, [.int 0, .int 0, .int 0, .int 0, .int 0, .ref (u 6 0), .ref (u 6 1), .ref (u 6 2), .ref (u 6 3), .ref (u 6 4), .ref (u 6 5), .ref (u 6 6)])), (u 6 0, .inl (k 0, 6, .inl (fun _ => 0))), (u 6 1, .inl (k 0, 9, .inl (fun _ => 0))), (u 6 2, .inl (k 0, 4, .inl (fun _ => 0))), (u 6 3, .inl (k 0, 12, .inl (fun _ => 0))), (u 6 4, .inl (k 0, 12, .inl (fun _ => 0))), (u 6 5, .inl (k 0, 12, .inl (fun _ => 0))), (u 6 6, .inl (k 0, 12, .inl (fun _ => 0)))]) ++ [(u 0 4, .inr (8, [.ref (u 0 5), .ref (u 5 0), .ref (u 5 10), .ref (u 5 23), .ref (u 0 3), .ref (u 5 24), .ref (u 5 25), .ref (u 5 26), .int 0])), (u 5 0, .inr (6, [.int 0, .int 0, .int (-1), .int 0, .int 0, .int 0, .ref (u 5 1), .ref (u 5 2), .ref (u 5 3), .ref (u 5 4), .ref (u 5 5), .ref (u 5 6), .ref (u 5 7), .ref (u 5 8), .ref (u 5 9)])), (u 5 1, .inl (k 0, 6, .inl (fun _ => 0))), (u 5 2, .inl (k 0, 9, .inl (fun _ => 0))), (u 5 3, .inl (k 0, 12, .inl (fun _ => 0))), (u 5 4, .inl (k 0, 12, .inl (fun _ => 0))), (u 5 5, .inl (k 0, 12, .inl (fun _ => 0))), (u 5 6, .inl (k 0, 12, .inl (fun _ => 0))), (u 5 7, .inl (k 0, 12, .inl (fun _ => 0))), (u 5 8, .inl (k 0, 12, .inl (fun _ => 0))), (u 5 9, .inl (k 0, 72, .inl (fun _ => 0))), (u 5 10, .inr (0, [.int 0, .int 0, .ref (u 5 11), .ref (u 5 12), .int 0, .ref (u 5 13), .int 0, .ref (u 5 14), .ref (u 5 15), .ref (u 5 16), .ref (u 5 17), .int 0, .ref (u 5 18), .ref (u 5 19), .ref (u 5 20), .ref (u 5 21), .ref (u 5 22)])), (u 5 11, .inl (k 0, 6, .inl (fun _ => 0))), (u 5 12, .inl (k 0, 36, .inl (fun _ => 0))), (u 5 13, .inl (k 0, 20, .inl (fun _ => 0))), (u 5 14, .inl (k 0, 20, .inl (fun _ => 0))), (u 5 15, .inl (k 0, 20, .inl (fun _ => 0))), (u 5 16, .inl (k 0, 20, .inl (fun _ => 0))), (u 5 17, .inl (k 0, 20, .inl (fun _ => 0))), (u 5 18, .inl (k 0, 12, .inl (fun _ => 0))), (u 5 19, .inl (k 0, 12, .inl (fun _ => 0))), (u 5 20, .inl (k 0, 12, .inl (fun _ => 0))), (u 5 21, .inl (k 0, 12, .inl (fun _ => 0))), (u 5 22, .inl (k 0, 360, .inl (fun _ => 0)))]) ++ [(u 0 13, .inr (1, [.int 0, .ref (u 7 0), .ref (u 7 8), .ref (u 7 18)])), (u 7 0, .inr (2, [.int 0, .int 0, .int 0, .int 0, .int 0, .ref (u 7 1), .ref (u 7 2), .ref (u 7 3), .ref (u 7 4), .ref (u 7 5), .ref (u 7 6), .ref (u 7 7)])), (u 7 1, .inl (k 0, 6, .inl (fun _ => 0))), (u 7 2, .inl (k 0, 9, .inl (fun _ => 0))), (u 7 3, .inl (k 0, 4, .inl (fun _ => 0))), (u 7 4, .inl (k 0, 12, .inl (fun _ => 0))), (u 7 5, .inl (k 0, 12, .inl (fun _ => 0))), (u 7 6, .inl (k 0, 12, .inl (fun _ => 0))), (u 7 7, .inl (k 0, 12, .inl (fun _ => 0))), (u 7 8, .inr (6, [.int 0, .int 0, .int (-1), .int 0, .int 0, .int 0, .ref (u 7 9), .ref (u 7 10), .ref (u 7 11), .ref (u 7 12), .ref (u 7 13), .ref (u 7 14), .ref (u 7 15), .ref (u 7 16), .ref (u 7 17)])), (u 7 9, .inl (k 0, 6, .inl (fun _ => 0))), (u 7 10, .inl (k 0, 9, .inl (fun _ => 0))), (u 7 11, .inl (k 0, 12, .inl (fun _ => 0))), (u 7 12, .inl (k 0, 12, .inl (fun _ => 0))), (u 7 13, .inl (k 0, 12, .inl (fun _ => 0))), (u 7 14, .inl (k 0, 12, .inl (fun _ => 0))), (u 7 15, .inl (k 0, 12, .inl (fun _ => 0))), (u 7 16, .inl (k 0, 12, .inl (fun _ => 0))), (u 7 17, .inl (k 0, 72, .inl (fun _ => 0))), (u 7 18, .inr (0, [.int 0, .int 0, .ref (u 7 19), .ref (u 7 20), .int 0, .ref (u 7 21), .int 0, .ref (u 7 22), .ref (u 7 23), .ref (u 7 24), .ref (u 7 25), .int 0, .ref (u 7 26), .ref (u 7 27), .ref (u 7 28), .ref (u 7 29), .ref (u 7 30)])), (u 7 19, .inl (k 0, 6, .inl (fun _ => 0))), (u 7 20, .inl (k 0, 36, .inl (fun _ => 0))), (u 7 21, .inl (k 0, 20, .inl (fun _ => 0))), (u 7 22, .inl (k 0, 20, .inl (fun _ => 0))), (u 7 23, .inl (k 0, 20, .inl (fun _ => 0))), (u 7 24, .inl (k 0, 20, .inl (fun _ => 0))), (u 7 25, .inl (k 0, 20, .inl (fun _ => 0))), (u 7 26, .inl (k 0, 12, .inl (fun _ => 0))), (u 7 27, .inl (k 0, 12, .inl (fun _ => 0))), (u 7 28, .inl (k 0, 12, .inl (fun _ => 0))), (u 7 29, .inl (k 0, 12, .inl (fun _ => 0))), (u 7 30, .inl (k 0, 360, .inl (fun _ => 0)))]) ++ ([] : va_W)) ++ ([] : va_W)) ++ ([] : va_W)) ++ ([] : va_W)) ++ ([] : va_W)) ++ ([] : va_W)) ++ ([] : va_W))) ++ [(y, .inr (10, [.int 0, .ref (v 1), .ref (v 2), .ref (v 3), .ref (v 4), .ref (v 5), .ref (v 6), .ref (v 7), .ref (v 8), .ref (v 9), .ref (v 10), .ref (v 11), .ref (v 12), .ref (v 13), .ref (v 14), .ref (v 15), .ref (v 16), .ref (v 17), .ref (v 18), .ref (v 19), .ref (v 20), .ref (v 21), .ref (v 22), .ref (v 23), .ref (v 24), .ref (v 25), .ref (v 26), .ref (v 27), .ref (v 28), .ref (v 29), .ref (v 30), .ref (v 31), .ref (v 32), .ref (v 33), .ref (v 34), .ref (v 35), .ref (v 36), .int 0, .int 0, .int 0, .int 0, .int 0, .int 0, .int 0, .int 0, .int 0, .int 13, .int 0, .ref (v 48), .ref (v 49), .ref (v 50), .ref (v 51), .ref (v 52), .ref (v 53), .ref (v 54), .ref (v 55), .ref (v 56), .ref (v 57), .ref (v 58), .ref (v 59), .ref (v 60), .int 0, .int 0, .int 0, .int 0, .int 0, .int 0, .int 0, .ref (v 68), .ref (v 69), .ref (v 70), .ref (v 71), .ref (v 72), .int 0, .int 0, .ref (v 75), .ref (v 76), .ref (v 77), .int 0, .int 0])), (v 1, .inl (k 0, 17, .inl (scal0))), (v 2, .inl (k 0, 9, .inl (fun _ => 0))), (v 3, .inl (k 0, 9, .inl (fun _ => 0))), (v 4, .inl (k 0, 4, .inl (fun _ => 0))), (v 5, .inl (k 0, 6, .inl (fun _ => 0))), (v 6, .inl (k 0, 6, .inl (fun _ => 0))), (v 7, .inl (k 0, 6, .inl (fun _ => 0))), (v 8, .inl (k 0, 36, .inl (fun _ => 0))), (v 9, .inl (k 0, 12, .inl (fun _ => 0))), (v 10, .inl (k 0, 12, .inl (fun _ => 0))), (v 11, .inl (k 0, 12, .inl (fun _ => 0))), (v 12, .inl (k 0, 12, .inl (fun _ => 0))), (v 13, .inl (k 0, 12, .inl (fun _ => 0))), (v 14, .inl (k 0, 12, .inl (fun _ => 0))), (v 15, .inl (k 0, 12, .inl (fun _ => 0))), (v 16, .inl (k 0, 12, .inl (fun _ => 0))), (v 17, .inl (k 0, 12, .inl (fun _ => 0))), (v 18, .inl (k 0, 72, .inl (fun _ => 0))), (v 19, .inl (k 0, 20, .inl (fun _ => 0))), (v 20, .inl (k 0, 20, .inl (fun _ => 0))), (v 21, .inl (k 0, 20, .inl (fun _ => 0))), (v 22, .inl (k 0, 20, .inl (fun _ => 0))), (v 23, .inl (k 0, 20, .inl (fun _ => 0))), (v 24, .inl (k 0, 12, .inl (fun _ => 0))), (v 25, .inl (k 0, 12, .inl (fun _ => 0))), (v 26, .inl (k 0, 12, .inl (fun _ => 0))), (v 27, .inl (k 0, 12, .inl (fun _ => 0))), (v 28, .inl (k 0, 360, .inl (fun _ => 0))), (v 76, .inl (k 0, 4500, .inl (fun _ => 0))), (v 77, .inl (k 2, 4, .inl (fun _ => 0)))]) : va_W) := by simp only [SW4, List.nil_append, List.append_nil, List.cons_append]
  rw [e]
  exact h
set_option maxHeartbeats 4000000 in
set_option maxRecDepth 100000 in
/-- image -/
theorem lawm_image_0 {p : Program} {l : Launch} {e : Env} {s : State} {m : MethodId} {below : List Frame} {meth : Method} {c : Code} {D : va_G} {k : Nat → ClassId} {sd : Nat → Nat} {A : Nat → Prop} {b : Nat} {xs : Nat → Int32} {x y : Nat} {u : Nat → Nat → Nat} {v : Nat → Nat} {H : Heap} {locs : List Loc} {ls : Array Slot} (C : LC p s m meth c D k sd A b xs) (hP : va_P D vwCl (SW4 k x u y v) H) (hD : va_D A (SW4 k x u y v)) (hS : va_S A s.heap H locs) (hl : lv_has ls 4 [(0, .ref b), (1, .ref x), (2, .ref y), (3, .int 0)]) (hq : xs 1 = 0) : W p l e room_1 s m #[Value.ref b] below meth c H locs 287 18933 (lw_Z below #[Value.ref b] s) (F0 m 1520 ls []) := by
  obtain ⟨hx, hb, hr, hml, hown, hw, hXs, hbl, hlocks, hK, hE, hX, hA, hAr, hbA⟩ := id C
  refine lv_aload_n hx hb dL_law_1520 rfl (lv_at hl 1 rfl) ?_
  refine lv_aload_n hx hb dL_law_1521 rfl (lv_at hl 0 rfl) ?_
  refine lv_iload_n hx hb dL_law_1522 rfl (lv_at hl 3 rfl) ?_
  refine lv_iconst (v := 1) hx hb dL_law_1523 (by decide) ?_
  refine lv_iadd hx hb dL_law_1524 ?_
  refine x_top (v := 1) (by decide) ?_
  refine va_sld hx hb hXs hbl hbA hS (i := 1) (by unfold vp_in; decide) dL_law_1525 ?_
  refine x_top (v := 0) hq ?_
  refine x_i (wr := [(y, .inr (10, [.int 0, .ref (v 1), .ref (v 2), .ref (v 3), .ref (v 4), .ref (v 5), .ref (v 6), .ref (v 7), .ref (v 8), .ref (v 9), .ref (v 10), .ref (v 11), .ref (v 12), .ref (v 13), .ref (v 14), .ref (v 15), .ref (v 16), .ref (v 17), .ref (v 18), .ref (v 19), .ref (v 20), .ref (v 21), .ref (v 22), .ref (v 23), .ref (v 24), .ref (v 25), .ref (v 26), .ref (v 27), .ref (v 28), .ref (v 29), .ref (v 30), .ref (v 31), .ref (v 32), .ref (v 33), .ref (v 34), .ref (v 35), .ref (v 36), .int 0, .int 0, .int 0, .int 0, .int 0, .int 0, .int 0, .int 0, .int 0, .int 13, .int 0, .ref (v 48), .ref (v 49), .ref (v 50), .ref (v 51), .ref (v 52), .ref (v 53), .ref (v 54), .ref (v 55), .ref (v 56), .ref (v 57), .ref (v 58), .ref (v 59), .ref (v 60), .int 0, .int 0, .int 0, .int 0, .int 0, .int 0, .int 0, .ref (v 68), .ref (v 69), .ref (v 70), .ref (v 71), .ref (v 72), .int 0, .int 0, .ref (v 75), .ref (v 76), .ref (v 77), .int 0, .int 0])), (v 1, .inl (k 0, 17, .inl (scal0))), (v 2, .inl (k 0, 9, .inl (fun _ => 0))), (v 3, .inl (k 0, 9, .inl (fun _ => 0))), (v 4, .inl (k 0, 4, .inl (fun _ => 0))), (v 5, .inl (k 0, 6, .inl (fun _ => 0))), (v 6, .inl (k 0, 6, .inl (fun _ => 0))), (v 7, .inl (k 0, 6, .inl (fun _ => 0))), (v 8, .inl (k 0, 36, .inl (fun _ => 0))), (v 9, .inl (k 0, 12, .inl (fun _ => 0))), (v 10, .inl (k 0, 12, .inl (fun _ => 0))), (v 11, .inl (k 0, 12, .inl (fun _ => 0))), (v 12, .inl (k 0, 12, .inl (fun _ => 0))), (v 13, .inl (k 0, 12, .inl (fun _ => 0))), (v 14, .inl (k 0, 12, .inl (fun _ => 0))), (v 15, .inl (k 0, 12, .inl (fun _ => 0))), (v 16, .inl (k 0, 12, .inl (fun _ => 0))), (v 17, .inl (k 0, 12, .inl (fun _ => 0))), (v 18, .inl (k 0, 72, .inl (fun _ => 0))), (v 19, .inl (k 0, 20, .inl (fun _ => 0))), (v 20, .inl (k 0, 20, .inl (fun _ => 0))), (v 21, .inl (k 0, 20, .inl (fun _ => 0))), (v 22, .inl (k 0, 20, .inl (fun _ => 0))), (v 23, .inl (k 0, 20, .inl (fun _ => 0))), (v 24, .inl (k 0, 12, .inl (fun _ => 0))), (v 25, .inl (k 0, 12, .inl (fun _ => 0))), (v 26, .inl (k 0, 12, .inl (fun _ => 0))), (v 27, .inl (k 0, 12, .inl (fun _ => 0))), (v 28, .inl (k 0, 360, .inl (fun _ => 0))), (v 76, .inl (k 0, 4500, .inl (fun _ => 0))), (v 77, .inl (k 2, 4, .inl (fun _ => 0)))]) (va_runV (As := [.int 0]) (rest := []) ⟨hx, hb, hml, hown, hw⟩ (kX9_image_0 l D k sd x (u 0 0) (u 0 1) (u 0 2) (u 0 3) (u 0 4) (u 0 17) (u 0 6) (u 0 18) (u 0 19) (u 0 20) (u 0 21) (u 0 13) (u 0 14) (u 0 15) (u 0 16) (u 7 0) (u 7 8) (u 7 18) (u 0 5) (u 5 0) (u 5 10) (u 5 23) (u 0 3) (u 5 24) (u 5 25) (u 5 26) (u 7 1) (u 7 2) (u 7 3) (u 7 4) (u 7 5) (u 7 6) (u 7 7) (u 7 9) (u 7 10) (u 7 11) (u 7 12) (u 7 13) (u 7 14) (u 7 15) (u 7 16) (u 7 17) (u 7 19) (u 7 20) (u 7 21) (u 7 22) (u 7 23) (u 7 24) (u 7 25) (u 7 26) (u 7 27) (u 7 28) (u 7 29) (u 7 30) (u 6 0) (u 6 1) (u 6 2) (u 6 3) (u 6 4) (u 6 5) (u 6 6) (u 5 1) (u 5 2) (u 5 3) (u 5 4) (u 5 5) (u 5 6) (u 5 7) (u 5 8) (u 5 9) (u 5 11) (u 5 12) (u 5 13) (u 5 14) (u 5 15) (u 5 16) (u 5 17) (u 5 18) (u 5 19) (u 5 20) (u 5 21) (u 5 22) H.size) (cwV 1 hw (gV wd_1107 wd_1108 wd_1109 wd_1 wd_1110) rfl rfl rfl (by decide +kernel) ⟨Nat.le_of_ble_eq_true rfl, Nat.le_of_ble_eq_true rfl⟩) (pre_V (ci := 9) (r := (RX9, TX9, 12)) hK hE hX hP hD hS hA [0, 1, 34, 10, 35, 36, 37, 38, 39, 40, 41, 42, 43, 44, 45, 46, 47, 48, 49, 50, 51, 52, 53, 54, 55, 56, 57, 58, 59, 60, 61, 62, 63, 64, 65, 2, 3, 4, 5, 6, 7, 8, 9, 11, 12, 13, 14, 15, 16, 17, 18, 19, 20, 21, 22, 23, 24, 25, 26, 27, 28, 29, 30, 31, 32, 33] (by decide) rfl rfl (q0 := 0) rfl) rfl rfl hl.1 rfl (lv_room (Nat.le_of_ble_eq_true rfl)) dL_law_1526 ⟨Nat.le_of_ble_eq_true rfl, Nat.le_of_ble_eq_true rfl⟩) hP hD hS hA [0, 1, 34, 10, 35, 36, 37, 38, 39, 40, 41, 42, 43, 44, 45, 46, 47, 48, 49, 50, 51, 52, 53, 54, 55, 56, 57, 58, 59, 60, 61, 62, 63, 64, 65, 2, 3, 4, 5, 6, 7, 8, 9, 11, 12, 13, 14, 15, 16, 17, 18, 19, 20, 21, 22, 23, 24, 25, 26, 27, 28, 29, 30, 31, 32, 33] [66, 67, 68, 69, 70, 71, 72, 73, 74, 75, 76, 77, 78, 79, 80, 81, 82, 83, 84, 85, 86, 87, 88, 89, 90, 91, 92, 93, 94, 95, 96] rfl rfl (by decide) (by decide) (fun r_3 u_1 H locs hp_2 hP hD hS => ?_)
  subst hp_2
  have hP : va_P D vwCl ([(y, .inr (10, [.int 0, .ref (v 1), .ref (v 2), .ref (v 3), .ref (v 4), .ref (v 5), .ref (v 6), .ref (v 7), .ref (v 8), .ref (v 9), .ref (v 10), .ref (v 11), .ref (v 12), .ref (v 13), .ref (v 14), .ref (v 15), .ref (v 16), .ref (v 17), .ref (v 18), .ref (v 19), .ref (v 20), .ref (v 21), .ref (v 22), .ref (v 23), .ref (v 24), .ref (v 25), .ref (v 26), .ref (v 27), .ref (v 28), .ref (v 29), .ref (v 30), .ref (v 31), .ref (v 32), .ref (v 33), .ref (v 34), .ref (v 35), .ref (v 36), .int 0, .int 0, .int 0, .int 0, .int 0, .int 0, .int 0, .int 0, .int 0, .int 13, .int 0, .ref (v 48), .ref (v 49), .ref (v 50), .ref (v 51), .ref (v 52), .ref (v 53), .ref (v 54), .ref (v 55), .ref (v 56), .ref (v 57), .ref (v 58), .ref (v 59), .ref (v 60), .int 0, .int 0, .int 0, .int 0, .int 0, .int 0, .int 0, .ref (v 68), .ref (v 69), .ref (v 70), .ref (v 71), .ref (v 72), .int 0, .int 0, .ref (v 75), .ref (v 76), .ref (v 77), .int 0, .int 0])), (v 1, .inl (k 0, 17, .inl (scal0))), (v 2, .inl (k 0, 9, .inl (fun _ => 0))), (v 3, .inl (k 0, 9, .inl (fun _ => 0))), (v 4, .inl (k 0, 4, .inl (fun _ => 0))), (v 5, .inl (k 0, 6, .inl (fun _ => 0))), (v 6, .inl (k 0, 6, .inl (fun _ => 0))), (v 7, .inl (k 0, 6, .inl (fun _ => 0))), (v 8, .inl (k 0, 36, .inl (fun _ => 0))), (v 9, .inl (k 0, 12, .inl (fun _ => 0))), (v 10, .inl (k 0, 12, .inl (fun _ => 0))), (v 11, .inl (k 0, 12, .inl (fun _ => 0))), (v 12, .inl (k 0, 12, .inl (fun _ => 0))), (v 13, .inl (k 0, 12, .inl (fun _ => 0))), (v 14, .inl (k 0, 12, .inl (fun _ => 0))), (v 15, .inl (k 0, 12, .inl (fun _ => 0))), (v 16, .inl (k 0, 12, .inl (fun _ => 0))), (v 17, .inl (k 0, 12, .inl (fun _ => 0))), (v 18, .inl (k 0, 72, .inl (fun _ => 0))), (v 19, .inl (k 0, 20, .inl (fun _ => 0))), (v 20, .inl (k 0, 20, .inl (fun _ => 0))), (v 21, .inl (k 0, 20, .inl (fun _ => 0))), (v 22, .inl (k 0, 20, .inl (fun _ => 0))), (v 23, .inl (k 0, 20, .inl (fun _ => 0))), (v 24, .inl (k 0, 12, .inl (fun _ => 0))), (v 25, .inl (k 0, 12, .inl (fun _ => 0))), (v 26, .inl (k 0, 12, .inl (fun _ => 0))), (v 27, .inl (k 0, 12, .inl (fun _ => 0))), (v 28, .inl (k 0, 360, .inl (fun _ => 0))), (v 76, .inl (k 0, 4500, .inl (fun _ => 0))), (v 77, .inl (k 2, 4, .inl (fun _ => 0)))]) H := hP
  have hD : va_D A ([(y, .inr (10, [.int 0, .ref (v 1), .ref (v 2), .ref (v 3), .ref (v 4), .ref (v 5), .ref (v 6), .ref (v 7), .ref (v 8), .ref (v 9), .ref (v 10), .ref (v 11), .ref (v 12), .ref (v 13), .ref (v 14), .ref (v 15), .ref (v 16), .ref (v 17), .ref (v 18), .ref (v 19), .ref (v 20), .ref (v 21), .ref (v 22), .ref (v 23), .ref (v 24), .ref (v 25), .ref (v 26), .ref (v 27), .ref (v 28), .ref (v 29), .ref (v 30), .ref (v 31), .ref (v 32), .ref (v 33), .ref (v 34), .ref (v 35), .ref (v 36), .int 0, .int 0, .int 0, .int 0, .int 0, .int 0, .int 0, .int 0, .int 0, .int 13, .int 0, .ref (v 48), .ref (v 49), .ref (v 50), .ref (v 51), .ref (v 52), .ref (v 53), .ref (v 54), .ref (v 55), .ref (v 56), .ref (v 57), .ref (v 58), .ref (v 59), .ref (v 60), .int 0, .int 0, .int 0, .int 0, .int 0, .int 0, .int 0, .ref (v 68), .ref (v 69), .ref (v 70), .ref (v 71), .ref (v 72), .int 0, .int 0, .ref (v 75), .ref (v 76), .ref (v 77), .int 0, .int 0])), (v 1, .inl (k 0, 17, .inl (scal0))), (v 2, .inl (k 0, 9, .inl (fun _ => 0))), (v 3, .inl (k 0, 9, .inl (fun _ => 0))), (v 4, .inl (k 0, 4, .inl (fun _ => 0))), (v 5, .inl (k 0, 6, .inl (fun _ => 0))), (v 6, .inl (k 0, 6, .inl (fun _ => 0))), (v 7, .inl (k 0, 6, .inl (fun _ => 0))), (v 8, .inl (k 0, 36, .inl (fun _ => 0))), (v 9, .inl (k 0, 12, .inl (fun _ => 0))), (v 10, .inl (k 0, 12, .inl (fun _ => 0))), (v 11, .inl (k 0, 12, .inl (fun _ => 0))), (v 12, .inl (k 0, 12, .inl (fun _ => 0))), (v 13, .inl (k 0, 12, .inl (fun _ => 0))), (v 14, .inl (k 0, 12, .inl (fun _ => 0))), (v 15, .inl (k 0, 12, .inl (fun _ => 0))), (v 16, .inl (k 0, 12, .inl (fun _ => 0))), (v 17, .inl (k 0, 12, .inl (fun _ => 0))), (v 18, .inl (k 0, 72, .inl (fun _ => 0))), (v 19, .inl (k 0, 20, .inl (fun _ => 0))), (v 20, .inl (k 0, 20, .inl (fun _ => 0))), (v 21, .inl (k 0, 20, .inl (fun _ => 0))), (v 22, .inl (k 0, 20, .inl (fun _ => 0))), (v 23, .inl (k 0, 20, .inl (fun _ => 0))), (v 24, .inl (k 0, 12, .inl (fun _ => 0))), (v 25, .inl (k 0, 12, .inl (fun _ => 0))), (v 26, .inl (k 0, 12, .inl (fun _ => 0))), (v 27, .inl (k 0, 12, .inl (fun _ => 0))), (v 28, .inl (k 0, 360, .inl (fun _ => 0))), (v 76, .inl (k 0, 4500, .inl (fun _ => 0))), (v 77, .inl (k 2, 4, .inl (fun _ => 0)))]) := hD
  refine lv_aload_n hx hb dL_law_1529 rfl (lv_at hl 2 rfl) ?_
  refine lv_aload_n hx hb dL_law_1530 rfl (lv_at hl 0 rfl) ?_
  refine lv_iload_n hx hb dL_law_1531 rfl (lv_at hl 3 rfl) ?_
  refine lv_iconst (v := 1) hx hb dL_law_1532 (by decide) ?_
  refine lv_iadd hx hb dL_law_1533 ?_
  refine x_top (v := 1) (by decide) ?_
  refine va_sld hx hb hXs hbl hbA hS (i := 1) (by unfold vp_in; decide) dL_law_1534 ?_
  refine x_top (v := 0) hq ?_
  refine x_i (wr := ([] : va_W)) (va_runV (As := [.int 0]) (rest := [.int 0]) ⟨hx, hb, hml, hown, hw⟩ (kX10_image_0 l D k sd y v  H.size) (cwV 1 hw (gV wd_1966 wd_1967 wd_1968 wd_11 wd_1969) rfl rfl rfl (by decide +kernel) ⟨Nat.le_of_ble_eq_true rfl, Nat.le_of_ble_eq_true rfl⟩) (pre_V (ci := 10) (r := (RX10, TX10, 80)) hK hE hX hP hD hS hA [0, 1, 2, 3, 4, 5, 6, 7, 8, 9, 10, 11, 12, 13, 14, 15, 16, 17, 18, 19, 20, 21, 22, 23, 24, 25, 26, 27, 28, 29, 30] (by decide) rfl rfl (q0 := 0) rfl) rfl rfl hl.1 rfl (lv_room (Nat.le_of_ble_eq_true rfl)) dL_law_1535 ⟨Nat.le_of_ble_eq_true rfl, Nat.le_of_ble_eq_true rfl⟩) hP hD hS hA [0, 1, 2, 3, 4, 5, 6, 7, 8, 9, 10, 11, 12, 13, 14, 15, 16, 17, 18, 19, 20, 21, 22, 23, 24, 25, 26, 27, 28, 29, 30] [] rfl rfl (by decide) (by decide) (fun r_6 u_4 H locs hp_5 hP hD hS => ?_)
  subst hp_5
  have hP : va_P D vwCl (([] : va_W)) H := hP
  have hD : va_D A (([] : va_W)) := hD
  refine lv_icmp_eq (tgt := 1566) hx hb dL_law_1538 (by decide) (fun _ => ?_) (fun h => absurd (by decide) h)
  exact law_end C hS (lv_sub hl [0, 1, 2, 3] rfl)
def SW5 (k : Nat → ClassId) (x : Nat) (u : Nat → Nat → Nat) (y : Nat) (v : Nat → Nat) : va_W := [(x, .inr (9, [.ref (u 0 0), .ref (u 0 1), .ref (u 0 2), .ref (u 0 3), .int 0, .ref (u 0 4), .ref (u 0 17), .ref (u 0 6), .ref (u 0 18), .ref (u 0 19), .ref (u 0 20), .ref (u 0 21)])), (u 0 6, .inl (k 4, 4, .inr (.inr (.inr (.inr (va_up (va_up (va_up (va_up (fun _ => none) 0 (some (u 0 13))) 1 (some (u 0 14))) 2 (some (u 0 15))) 3 (some (u 0 16)))))))), (u 0 5, .inr (2, [.int 0, .int 0, .int 0, .int 0, .int 0, .ref (u 6 0), .ref (u 6 1), .ref (u 6 2), .ref (u 6 3), .ref (u 6 4), .ref (u 6 5), .ref (u 6 6)])), (u 6 0, .inl (k 0, 6, .inl (fun _ => 0))), (u 6 1, .inl (k 0, 9, .inl (fun _ => 0))), (u 6 2, .inl (k 0, 4, .inl (fun _ => 0))), (u 6 3, .inl (k 0, 12, .inl (fun _ => 0))), (u 6 4, .inl (k 0, 12, .inl (fun _ => 0))), (u 6 5, .inl (k 0, 12, .inl (fun _ => 0))), (u 6 6, .inl (k 0, 12, .inl (fun _ => 0))), (u 0 4, .inr (8, [.ref (u 0 5), .ref (u 5 0), .ref (u 5 10), .ref (u 5 23), .ref (u 0 3), .ref (u 5 24), .ref (u 5 25), .ref (u 5 26), .int 0])), (u 5 0, .inr (6, [.int 0, .int 0, .int (-1), .int 0, .int 0, .int 0, .ref (u 5 1), .ref (u 5 2), .ref (u 5 3), .ref (u 5 4), .ref (u 5 5), .ref (u 5 6), .ref (u 5 7), .ref (u 5 8), .ref (u 5 9)])), (u 5 1, .inl (k 0, 6, .inl (fun _ => 0))), (u 5 2, .inl (k 0, 9, .inl (fun _ => 0))), (u 5 3, .inl (k 0, 12, .inl (fun _ => 0))), (u 5 4, .inl (k 0, 12, .inl (fun _ => 0))), (u 5 5, .inl (k 0, 12, .inl (fun _ => 0))), (u 5 6, .inl (k 0, 12, .inl (fun _ => 0))), (u 5 7, .inl (k 0, 12, .inl (fun _ => 0))), (u 5 8, .inl (k 0, 12, .inl (fun _ => 0))), (u 5 9, .inl (k 0, 72, .inl (fun _ => 0))), (u 5 10, .inr (0, [.int 0, .int 0, .ref (u 5 11), .ref (u 5 12), .int 0, .ref (u 5 13), .int 0, .ref (u 5 14), .ref (u 5 15), .ref (u 5 16), .ref (u 5 17), .int 0, .ref (u 5 18), .ref (u 5 19), .ref (u 5 20), .ref (u 5 21), .ref (u 5 22)])), (u 5 11, .inl (k 0, 6, .inl (fun _ => 0))), (u 5 12, .inl (k 0, 36, .inl (fun _ => 0))), (u 5 13, .inl (k 0, 20, .inl (fun _ => 0))), (u 5 14, .inl (k 0, 20, .inl (fun _ => 0))), (u 5 15, .inl (k 0, 20, .inl (fun _ => 0))), (u 5 16, .inl (k 0, 20, .inl (fun _ => 0))), (u 5 17, .inl (k 0, 20, .inl (fun _ => 0))), (u 5 18, .inl (k 0, 12, .inl (fun _ => 0))), (u 5 19, .inl (k 0, 12, .inl (fun _ => 0))), (u 5 20, .inl (k 0, 12, .inl (fun _ => 0))), (u 5 21, .inl (k 0, 12, .inl (fun _ => 0))), (u 5 22, .inl (k 0, 360, .inl (fun _ => 0))), (u 0 14, .inr (1, [.int 0, .ref (u 8 0), .ref (u 8 8), .ref (u 8 18)])), (u 8 0, .inr (2, [.int 0, .int 0, .int 0, .int 0, .int 0, .ref (u 8 1), .ref (u 8 2), .ref (u 8 3), .ref (u 8 4), .ref (u 8 5), .ref (u 8 6), .ref (u 8 7)])), (u 8 1, .inl (k 0, 6, .inl (fun _ => 0))), (u 8 2, .inl (k 0, 9, .inl (fun _ => 0))), (u 8 3, .inl (k 0, 4, .inl (fun _ => 0))), (u 8 4, .inl (k 0, 12, .inl (fun _ => 0))), (u 8 5, .inl (k 0, 12, .inl (fun _ => 0))), (u 8 6, .inl (k 0, 12, .inl (fun _ => 0))), (u 8 7, .inl (k 0, 12, .inl (fun _ => 0))), (u 8 8, .inr (6, [.int 0, .int 0, .int (-1), .int 0, .int 0, .int 0, .ref (u 8 9), .ref (u 8 10), .ref (u 8 11), .ref (u 8 12), .ref (u 8 13), .ref (u 8 14), .ref (u 8 15), .ref (u 8 16), .ref (u 8 17)])), (u 8 9, .inl (k 0, 6, .inl (fun _ => 0))), (u 8 10, .inl (k 0, 9, .inl (fun _ => 0))), (u 8 11, .inl (k 0, 12, .inl (fun _ => 0))), (u 8 12, .inl (k 0, 12, .inl (fun _ => 0))), (u 8 13, .inl (k 0, 12, .inl (fun _ => 0))), (u 8 14, .inl (k 0, 12, .inl (fun _ => 0))), (u 8 15, .inl (k 0, 12, .inl (fun _ => 0))), (u 8 16, .inl (k 0, 12, .inl (fun _ => 0))), (u 8 17, .inl (k 0, 72, .inl (fun _ => 0))), (u 8 18, .inr (0, [.int 0, .int 0, .ref (u 8 19), .ref (u 8 20), .int 0, .ref (u 8 21), .int 0, .ref (u 8 22), .ref (u 8 23), .ref (u 8 24), .ref (u 8 25), .int 0, .ref (u 8 26), .ref (u 8 27), .ref (u 8 28), .ref (u 8 29), .ref (u 8 30)])), (u 8 19, .inl (k 0, 6, .inl (fun _ => 0))), (u 8 20, .inl (k 0, 36, .inl (fun _ => 0))), (u 8 21, .inl (k 0, 20, .inl (fun _ => 0))), (u 8 22, .inl (k 0, 20, .inl (fun _ => 0))), (u 8 23, .inl (k 0, 20, .inl (fun _ => 0))), (u 8 24, .inl (k 0, 20, .inl (fun _ => 0))), (u 8 25, .inl (k 0, 20, .inl (fun _ => 0))), (u 8 26, .inl (k 0, 12, .inl (fun _ => 0))), (u 8 27, .inl (k 0, 12, .inl (fun _ => 0))), (u 8 28, .inl (k 0, 12, .inl (fun _ => 0))), (u 8 29, .inl (k 0, 12, .inl (fun _ => 0))), (u 8 30, .inl (k 0, 360, .inl (fun _ => 0))), (y, .inr (10, [.int 0, .ref (v 1), .ref (v 2), .ref (v 3), .ref (v 4), .ref (v 5), .ref (v 6), .ref (v 7), .ref (v 8), .ref (v 9), .ref (v 10), .ref (v 11), .ref (v 12), .ref (v 13), .ref (v 14), .ref (v 15), .ref (v 16), .ref (v 17), .ref (v 18), .ref (v 19), .ref (v 20), .ref (v 21), .ref (v 22), .ref (v 23), .ref (v 24), .ref (v 25), .ref (v 26), .ref (v 27), .ref (v 28), .ref (v 29), .ref (v 30), .ref (v 31), .ref (v 32), .ref (v 33), .ref (v 34), .ref (v 35), .ref (v 36), .int 0, .int 0, .int 0, .int 0, .int 0, .int 0, .int 0, .int 0, .int 0, .int 13, .int 0, .ref (v 48), .ref (v 49), .ref (v 50), .ref (v 51), .ref (v 52), .ref (v 53), .ref (v 54), .ref (v 55), .ref (v 56), .ref (v 57), .ref (v 58), .ref (v 59), .ref (v 60), .int 0, .int 0, .int 0, .int 0, .int 0, .int 0, .int 0, .ref (v 68), .ref (v 69), .ref (v 70), .ref (v 71), .ref (v 72), .int 0, .int 0, .ref (v 75), .ref (v 76), .ref (v 77), .int 0, .int 0])), (v 1, .inl (k 0, 17, .inl (scal0))), (v 2, .inl (k 0, 9, .inl (fun _ => 0))), (v 3, .inl (k 0, 9, .inl (fun _ => 0))), (v 4, .inl (k 0, 4, .inl (fun _ => 0))), (v 5, .inl (k 0, 6, .inl (fun _ => 0))), (v 6, .inl (k 0, 6, .inl (fun _ => 0))), (v 7, .inl (k 0, 6, .inl (fun _ => 0))), (v 8, .inl (k 0, 36, .inl (fun _ => 0))), (v 9, .inl (k 0, 12, .inl (fun _ => 0))), (v 10, .inl (k 0, 12, .inl (fun _ => 0))), (v 11, .inl (k 0, 12, .inl (fun _ => 0))), (v 12, .inl (k 0, 12, .inl (fun _ => 0))), (v 13, .inl (k 0, 12, .inl (fun _ => 0))), (v 14, .inl (k 0, 12, .inl (fun _ => 0))), (v 15, .inl (k 0, 12, .inl (fun _ => 0))), (v 16, .inl (k 0, 12, .inl (fun _ => 0))), (v 17, .inl (k 0, 12, .inl (fun _ => 0))), (v 18, .inl (k 0, 72, .inl (fun _ => 0))), (v 19, .inl (k 0, 20, .inl (fun _ => 0))), (v 20, .inl (k 0, 20, .inl (fun _ => 0))), (v 21, .inl (k 0, 20, .inl (fun _ => 0))), (v 22, .inl (k 0, 20, .inl (fun _ => 0))), (v 23, .inl (k 0, 20, .inl (fun _ => 0))), (v 24, .inl (k 0, 12, .inl (fun _ => 0))), (v 25, .inl (k 0, 12, .inl (fun _ => 0))), (v 26, .inl (k 0, 12, .inl (fun _ => 0))), (v 27, .inl (k 0, 12, .inl (fun _ => 0))), (v 28, .inl (k 0, 360, .inl (fun _ => 0))), (v 76, .inl (k 0, 4500, .inl (fun _ => 0))), (v 77, .inl (k 2, 4, .inl (fun _ => 0)))]
set_option maxRecDepth 100000 in
theorem sub_5 (k : Nat → ClassId) (x : Nat) (u : Nat → Nat → Nat) (y : Nat) (v : Nat → Nat) : List.Sublist (SW5 k x u y v) (G9n k x u ++ G10 k y v) := by
  have h : List.Sublist ((([(x, .inr (9, [.ref (u 0 0), .ref (u 0 1), .ref (u 0 2), .ref (u 0 3), .int 0, .ref (u 0 4), .ref (u 0 17), .ref (u 0 6), .ref (u 0 18), .ref (u 0 19), .ref (u 0 20), .ref (u 0 21)])), (u 0 6, .inl (k 4, 4, .inr (.inr (.inr (.inr (va_up (va_up (va_up (va_up (fun _ => none) 0 (some (u 0 13))) 1 (some (u 0 14))) 2 (some (u 0 15))) 3 (some (u 0 16))))))))] ++ (((((((((((((((((((([] : va_W) ++ ([] : va_W)) ++ ([] : va_W)) ++ ([] : va_W)) ++ ([] : va_W)) ++ ([] : va_W)) ++ ([] : va_W)) ++ ([] : va_W)) ++ ([] : va_W)) ++ ([] : va_W)) ++ [(u 0 5, .inr (2, [.int 0, .int 0, .int 0, .int 0, .int 0, .ref (u 6 0), .ref (u 6 1), .ref (u 6 2), .ref (u 6 3), .ref (u 6 4), .ref (u 6 5), .ref (u 6 6)])), (u 6 0, .inl (k 0, 6, .inl (fun _ => 0))), (u 6 1, .inl (k 0, 9, .inl (fun _ => 0))), (u 6 2, .inl (k 0, 4, .inl (fun _ => 0))), (u 6 3, .inl (k 0, 12, .inl (fun _ => 0))), (u 6 4, .inl (k 0, 12, .inl (fun _ => 0))), (u 6 5, .inl (k 0, 12, .inl (fun _ => 0))), (u 6 6, .inl (k 0, 12, .inl (fun _ => 0)))]) ++ [(u 0 4, .inr (8, [.ref (u 0 5), .ref (u 5 0), .ref (u 5 10), .ref (u 5 23), .ref (u 0 3), .ref (u 5 24), .ref (u 5 25), .ref (u 5 26), .int 0])), (u 5 0, .inr (6, [.int 0, .int 0, .int (-1), .int 0, .int 0, .int 0, .ref (u 5 1), .ref (u 5 2), .ref (u 5 3), .ref (u 5 4), .ref (u 5 5), .ref (u 5 6), .ref (u 5 7), .ref (u 5 8), .ref (u 5 9)])), (u 5 1, .inl (k 0, 6, .inl (fun _ => 0))), (u 5 2, .inl (k 0, 9, .inl (fun _ => 0))), (u 5 3, .inl (k 0, 12, .inl (fun _ => 0))), (u 5 4, .inl (k 0, 12, .inl (fun _ => 0))), (u 5 5, .inl (k 0, 12, .inl (fun _ => 0))), (u 5 6, .inl (k 0, 12, .inl (fun _ => 0))), (u 5 7, .inl (k 0, 12, .inl (fun _ => 0))), (u 5 8, .inl (k 0, 12, .inl (fun _ => 0))), (u 5 9, .inl (k 0, 72, .inl (fun _ => 0))), (u 5 10, .inr (0, [.int 0, .int 0, .ref (u 5 11), .ref (u 5 12), .int 0, .ref (u 5 13), .int 0, .ref (u 5 14), .ref (u 5 15), .ref (u 5 16), .ref (u 5 17), .int 0, .ref (u 5 18), .ref (u 5 19), .ref (u 5 20), .ref (u 5 21), .ref (u 5 22)])), (u 5 11, .inl (k 0, 6, .inl (fun _ => 0))), (u 5 12, .inl (k 0, 36, .inl (fun _ => 0))), (u 5 13, .inl (k 0, 20, .inl (fun _ => 0))), (u 5 14, .inl (k 0, 20, .inl (fun _ => 0))), (u 5 15, .inl (k 0, 20, .inl (fun _ => 0))), (u 5 16, .inl (k 0, 20, .inl (fun _ => 0))), (u 5 17, .inl (k 0, 20, .inl (fun _ => 0))), (u 5 18, .inl (k 0, 12, .inl (fun _ => 0))), (u 5 19, .inl (k 0, 12, .inl (fun _ => 0))), (u 5 20, .inl (k 0, 12, .inl (fun _ => 0))), (u 5 21, .inl (k 0, 12, .inl (fun _ => 0))), (u 5 22, .inl (k 0, 360, .inl (fun _ => 0)))]) ++ ([] : va_W)) ++ [(u 0 14, .inr (1, [.int 0, .ref (u 8 0), .ref (u 8 8), .ref (u 8 18)])), (u 8 0, .inr (2, [.int 0, .int 0, .int 0, .int 0, .int 0, .ref (u 8 1), .ref (u 8 2), .ref (u 8 3), .ref (u 8 4), .ref (u 8 5), .ref (u 8 6), .ref (u 8 7)])), (u 8 1, .inl (k 0, 6, .inl (fun _ => 0))), (u 8 2, .inl (k 0, 9, .inl (fun _ => 0))), (u 8 3, .inl (k 0, 4, .inl (fun _ => 0))), (u 8 4, .inl (k 0, 12, .inl (fun _ => 0))), (u 8 5, .inl (k 0, 12, .inl (fun _ => 0))), (u 8 6, .inl (k 0, 12, .inl (fun _ => 0))), (u 8 7, .inl (k 0, 12, .inl (fun _ => 0))), (u 8 8, .inr (6, [.int 0, .int 0, .int (-1), .int 0, .int 0, .int 0, .ref (u 8 9), .ref (u 8 10), .ref (u 8 11), .ref (u 8 12), .ref (u 8 13), .ref (u 8 14), .ref (u 8 15), .ref (u 8 16), .ref (u 8 17)])), (u 8 9, .inl (k 0, 6, .inl (fun _ => 0))), (u 8 10, .inl (k 0, 9, .inl (fun _ => 0))), (u 8 11, .inl (k 0, 12, .inl (fun _ => 0))), (u 8 12, .inl (k 0, 12, .inl (fun _ => 0))), (u 8 13, .inl (k 0, 12, .inl (fun _ => 0))), (u 8 14, .inl (k 0, 12, .inl (fun _ => 0))), (u 8 15, .inl (k 0, 12, .inl (fun _ => 0))), (u 8 16, .inl (k 0, 12, .inl (fun _ => 0))), (u 8 17, .inl (k 0, 72, .inl (fun _ => 0))), (u 8 18, .inr (0, [.int 0, .int 0, .ref (u 8 19), .ref (u 8 20), .int 0, .ref (u 8 21), .int 0, .ref (u 8 22), .ref (u 8 23), .ref (u 8 24), .ref (u 8 25), .int 0, .ref (u 8 26), .ref (u 8 27), .ref (u 8 28), .ref (u 8 29), .ref (u 8 30)])), (u 8 19, .inl (k 0, 6, .inl (fun _ => 0))), (u 8 20, .inl (k 0, 36, .inl (fun _ => 0))), (u 8 21, .inl (k 0, 20, .inl (fun _ => 0))), (u 8 22, .inl (k 0, 20, .inl (fun _ => 0))), (u 8 23, .inl (k 0, 20, .inl (fun _ => 0))), (u 8 24, .inl (k 0, 20, .inl (fun _ => 0))), (u 8 25, .inl (k 0, 20, .inl (fun _ => 0))), (u 8 26, .inl (k 0, 12, .inl (fun _ => 0))), (u 8 27, .inl (k 0, 12, .inl (fun _ => 0))), (u 8 28, .inl (k 0, 12, .inl (fun _ => 0))), (u 8 29, .inl (k 0, 12, .inl (fun _ => 0))), (u 8 30, .inl (k 0, 360, .inl (fun _ => 0)))]) ++ ([] : va_W)) ++ ([] : va_W)) ++ ([] : va_W)) ++ ([] : va_W)) ++ ([] : va_W)) ++ ([] : va_W))) ++ [(y, .inr (10, [.int 0, .ref (v 1), .ref (v 2), .ref (v 3), .ref (v 4), .ref (v 5), .ref (v 6), .ref (v 7), .ref (v 8), .ref (v 9), .ref (v 10), .ref (v 11), .ref (v 12), .ref (v 13), .ref (v 14), .ref (v 15), .ref (v 16), .ref (v 17), .ref (v 18), .ref (v 19), .ref (v 20), .ref (v 21), .ref (v 22), .ref (v 23), .ref (v 24), .ref (v 25), .ref (v 26), .ref (v 27), .ref (v 28), .ref (v 29), .ref (v 30), .ref (v 31), .ref (v 32), .ref (v 33), .ref (v 34), .ref (v 35), .ref (v 36), .int 0, .int 0, .int 0, .int 0, .int 0, .int 0, .int 0, .int 0, .int 0, .int 13, .int 0, .ref (v 48), .ref (v 49), .ref (v 50), .ref (v 51), .ref (v 52), .ref (v 53), .ref (v 54), .ref (v 55), .ref (v 56), .ref (v 57), .ref (v 58), .ref (v 59), .ref (v 60), .int 0, .int 0, .int 0, .int 0, .int 0, .int 0, .int 0, .ref (v 68), .ref (v 69), .ref (v 70), .ref (v 71), .ref (v 72), .int 0, .int 0, .ref (v 75), .ref (v 76), .ref (v 77), .int 0, .int 0])), (v 1, .inl (k 0, 17, .inl (scal0))), (v 2, .inl (k 0, 9, .inl (fun _ => 0))), (v 3, .inl (k 0, 9, .inl (fun _ => 0))), (v 4, .inl (k 0, 4, .inl (fun _ => 0))), (v 5, .inl (k 0, 6, .inl (fun _ => 0))), (v 6, .inl (k 0, 6, .inl (fun _ => 0))), (v 7, .inl (k 0, 6, .inl (fun _ => 0))), (v 8, .inl (k 0, 36, .inl (fun _ => 0))), (v 9, .inl (k 0, 12, .inl (fun _ => 0))), (v 10, .inl (k 0, 12, .inl (fun _ => 0))), (v 11, .inl (k 0, 12, .inl (fun _ => 0))), (v 12, .inl (k 0, 12, .inl (fun _ => 0))), (v 13, .inl (k 0, 12, .inl (fun _ => 0))), (v 14, .inl (k 0, 12, .inl (fun _ => 0))), (v 15, .inl (k 0, 12, .inl (fun _ => 0))), (v 16, .inl (k 0, 12, .inl (fun _ => 0))), (v 17, .inl (k 0, 12, .inl (fun _ => 0))), (v 18, .inl (k 0, 72, .inl (fun _ => 0))), (v 19, .inl (k 0, 20, .inl (fun _ => 0))), (v 20, .inl (k 0, 20, .inl (fun _ => 0))), (v 21, .inl (k 0, 20, .inl (fun _ => 0))), (v 22, .inl (k 0, 20, .inl (fun _ => 0))), (v 23, .inl (k 0, 20, .inl (fun _ => 0))), (v 24, .inl (k 0, 12, .inl (fun _ => 0))), (v 25, .inl (k 0, 12, .inl (fun _ => 0))), (v 26, .inl (k 0, 12, .inl (fun _ => 0))), (v 27, .inl (k 0, 12, .inl (fun _ => 0))), (v 28, .inl (k 0, 360, .inl (fun _ => 0))), (v 76, .inl (k 0, 4500, .inl (fun _ => 0))), (v 77, .inl (k 2, 4, .inl (fun _ => 0)))]) : va_W) (G9n k x u ++ G10 k y v) := List.Sublist.append (List.Sublist.append (List.Sublist.cons₂ _ (List.Sublist.cons _ (List.Sublist.cons₂ _ (List.nil_sublist _)))) (List.Sublist.append (List.Sublist.append (List.Sublist.append (List.Sublist.append (List.Sublist.append (List.Sublist.append (List.Sublist.append (List.Sublist.append (List.Sublist.append (List.Sublist.append (List.Sublist.append (List.Sublist.append (List.Sublist.append (List.Sublist.append (List.Sublist.append (List.Sublist.append (List.Sublist.append (List.Sublist.append (List.Sublist.append (List.Sublist.refl ([] : va_W)) (List.nil_sublist _)) (List.nil_sublist _)) (List.nil_sublist _)) (List.nil_sublist _)) (List.nil_sublist _)) (List.nil_sublist _)) (List.nil_sublist _)) (List.nil_sublist _)) (List.nil_sublist _)) (List.Sublist.refl _)) (List.Sublist.cons₂ _ (List.Sublist.cons₂ _ (List.Sublist.cons₂ _ (List.Sublist.cons₂ _ (List.Sublist.cons₂ _ (List.Sublist.cons₂ _ (List.Sublist.cons₂ _ (List.Sublist.cons₂ _ (List.Sublist.cons₂ _ (List.Sublist.cons₂ _ (List.Sublist.cons₂ _ (List.Sublist.cons₂ _ (List.Sublist.cons₂ _ (List.Sublist.cons₂ _ (List.Sublist.cons₂ _ (List.Sublist.cons₂ _ (List.Sublist.cons₂ _ (List.Sublist.cons₂ _ (List.Sublist.cons₂ _ (List.Sublist.cons₂ _ (List.Sublist.cons₂ _ (List.Sublist.cons₂ _ (List.Sublist.cons₂ _ (List.Sublist.cons₂ _ (List.nil_sublist _)))))))))))))))))))))))))) (List.nil_sublist _)) (List.Sublist.refl _)) (List.nil_sublist _)) (List.nil_sublist _)) (List.nil_sublist _)) (List.nil_sublist _)) (List.nil_sublist _)) (List.nil_sublist _))) (List.Sublist.cons₂ _ (List.Sublist.cons₂ _ (List.Sublist.cons₂ _ (List.Sublist.cons₂ _ (List.Sublist.cons₂ _ (List.Sublist.cons₂ _ (List.Sublist.cons₂ _ (List.Sublist.cons₂ _ (List.Sublist.cons₂ _ (List.Sublist.cons₂ _ (List.Sublist.cons₂ _ (List.Sublist.cons₂ _ (List.Sublist.cons₂ _ (List.Sublist.cons₂ _ (List.Sublist.cons₂ _ (List.Sublist.cons₂ _ (List.Sublist.cons₂ _ (List.Sublist.cons₂ _ (List.Sublist.cons₂ _ (List.Sublist.cons₂ _ (List.Sublist.cons₂ _ (List.Sublist.cons₂ _ (List.Sublist.cons₂ _ (List.Sublist.cons₂ _ (List.Sublist.cons₂ _ (List.Sublist.cons₂ _ (List.Sublist.cons₂ _ (List.Sublist.cons₂ _ (List.Sublist.cons₂ _ (List.Sublist.cons _ (List.Sublist.cons _ (List.Sublist.cons _ (List.Sublist.cons _ (List.Sublist.cons _ (List.Sublist.cons _ (List.Sublist.cons _ (List.Sublist.cons _ (List.Sublist.cons _ (List.Sublist.cons _ (List.Sublist.cons _ (List.Sublist.cons _ (List.Sublist.cons _ (List.Sublist.cons _ (List.Sublist.cons _ (List.Sublist.cons _ (List.Sublist.cons _ (List.Sublist.cons _ (List.Sublist.cons _ (List.Sublist.cons _ (List.Sublist.cons _ (List.Sublist.cons _ (List.Sublist.cons _ (List.Sublist.cons _ (List.Sublist.cons _ (List.Sublist.cons _ (List.Sublist.cons _ (List.Sublist.cons₂ _ (List.Sublist.cons₂ _ (List.nil_sublist _)))))))))))))))))))))))))))))))))))))))))))))))))))))))))))
  have e : SW5 k x u y v = ((([(x, .inr (9, [.ref (u 0 0), .ref (u 0 1), .ref (u 0 2), .ref (u 0 3), .int 0, .ref (u 0 4), .ref (u 0 17), .ref (u 0 6), .ref (u 0 18), .ref (u 0 19), .ref (u 0 20), .ref (u 0 21)])), (u 0 6, .inl (k 4, 4, .inr (.inr (.inr (.inr (va_up (va_up (va_up (va_up (fun _ => none) 0 (some (u 0 13))) 1 (some (u 0 14))) 2 (some (u 0 15))) 3 (some (u 0 16))))))))] ++ (((((((((((((((((((([] : va_W) ++ ([] : va_W)) ++ ([] : va_W)) ++ ([] : va_W)) ++ ([] : va_W)) ++ ([] : va_W)) ++ ([] : va_W)) ++ ([] : va_W)) ++ ([] : va_W)) ++ ([] : va_W)) ++ [(u 0 5, .inr (2, [.int 0, .int 0, .int 0, .int 0, .int 0, .ref (u 6 0), .ref (u 6 1), .ref (u 6 2), .ref (u 6 3), .ref (u 6 4), .ref (u 6 5), .ref (u 6 6)])), (u 6 0, .inl (k 0, 6, .inl (fun _ => 0))), (u 6 1, .inl (k 0, 9, .inl (fun _ => 0))), (u 6 2, .inl (k 0, 4, .inl (fun _ => 0))), (u 6 3, .inl (k 0, 12, .inl (fun _ => 0))), (u 6 4, .inl (k 0, 12, .inl (fun _ => 0))), (u 6 5, .inl (k 0, 12, .inl (fun _ => 0))), (u 6 6, .inl (k 0, 12, .inl (fun _ => 0)))]) ++ [(u 0 4, .inr (8, [.ref (u 0 5), .ref (u 5 0), .ref (u 5 10), .ref (u 5 23), .ref (u 0 3), .ref (u 5 24), .ref (u 5 25), .ref (u 5 26), .int 0])), (u 5 0, .inr (6, [.int 0, .int 0, .int (-1), .int 0, .int 0, .int 0, .ref (u 5 1), .ref (u 5 2), .ref (u 5 3), .ref (u 5 4), .ref (u 5 5), .ref (u 5 6), .ref (u 5 7), .ref (u 5 8), .ref (u 5 9)])), (u 5 1, .inl (k 0, 6, .inl (fun _ => 0))), (u 5 2, .inl (k 0, 9, .inl (fun _ => 0))), (u 5 3, .inl (k 0, 12, .inl (fun _ => 0))), (u 5 4, .inl (k 0, 12, .inl (fun _ => 0))), (u 5 5, .inl (k 0, 12, .inl (fun _ => 0))), (u 5 6, .inl (k 0, 12, .inl (fun _ => 0))), (u 5 7, .inl (k 0, 12, .inl (fun _ => 0))), (u 5 8, .inl (k 0, 12, .inl (fun _ => 0))), (u 5 9, .inl (k 0, 72, .inl (fun _ => 0))), (u 5 10, .inr (0, [.int 0, .int 0, .ref (u 5 11), .ref (u 5 12), .int 0, .ref (u 5 13), .int 0, .ref (u 5 14), .ref (u 5 15), .ref (u 5 16), .ref (u 5 17), .int 0, .ref (u 5 18), .ref (u 5 19), .ref (u 5 20), .ref (u 5 21), .ref (u 5 22)])), (u 5 11, .inl (k 0, 6, .inl (fun _ => 0))), (u 5 12, .inl (k 0, 36, .inl (fun _ => 0))), (u 5 13, .inl (k 0, 20, .inl (fun _ => 0))), (u 5 14, .inl (k 0, 20, .inl (fun _ => 0))), (u 5 15, .inl (k 0, 20, .inl (fun _ => 0))), (u 5 16, .inl (k 0, 20, .inl (fun _ => 0))), (u 5 17, .inl (k 0, 20, .inl (fun _ => 0))), (u 5 18, .inl (k 0, 12, .inl (fun _ => 0))), (u 5 19, .inl (k 0, 12, .inl (fun _ => 0))), (u 5 20, .inl (k 0, 12, .inl (fun _ => 0))), (u 5 21, .inl (k 0, 12, .inl (fun _ => 0))), (u 5 22, .inl (k 0, 360, .inl (fun _ => 0)))]) ++ ([] : va_W)) ++ [(u 0 14, .inr (1, [.int 0, .ref (u 8 0), .ref (u 8 8), .ref (u 8 18)])), (u 8 0, .inr (2, [.int 0, .int 0, .int 0, .int 0, .int 0, .ref (u 8 1), .ref (u 8 2), .ref (u 8 3), .ref (u 8 4), .ref (u 8 5), .ref (u 8 6), .ref (u 8 7)])), (u 8 1, .inl (k 0, 6, .inl (fun _ => 0))), (u 8 2, .inl (k 0, 9, .inl (fun _ => 0))), (u 8 3, .inl (k 0, 4, .inl (fun _ => 0))), (u 8 4, .inl (k 0, 12, .inl (fun _ => 0))), (u 8 5, .inl (k 0, 12, .inl (fun _ => 0))), (u 8 6, .inl (k 0, 12, .inl (fun _ => 0))), (u 8 7, .inl (k 0, 12, .inl (fun _ => 0))), (u 8 8, .inr (6, [.int 0, .int 0, .int (-1), .int 0, .int 0, .int 0, .ref (u 8 9), .ref (u 8 10), .ref (u 8 11), .ref (u 8 12), .ref (u 8 13), .ref (u 8 14), .ref (u 8 15), .ref (u 8 16), .ref (u 8 17)])), (u 8 9, .inl (k 0, 6, .inl (fun _ => 0))), (u 8 10, .inl (k 0, 9, .inl (fun _ => 0))), (u 8 11, .inl (k 0, 12, .inl (fun _ => 0))), (u 8 12, .inl (k 0, 12, .inl (fun _ => 0))), (u 8 13, .inl (k 0, 12, .inl (fun _ => 0))), (u 8 14, .inl (k 0, 12, .inl (fun _ => 0))), (u 8 15, .inl (k 0, 12, .inl (fun _ => 0))), (u 8 16, .inl (k 0, 12, .inl (fun _ => 0))), (u 8 17, .inl (k 0, 72, .inl (fun _ => 0))), (u 8 18, .inr (0, [.int 0, .int 0, .ref (u 8 19), .ref (u 8 20), .int 0, .ref (u 8 21), .int 0, .ref (u 8 22), .ref (u 8 23), .ref (u 8 24), .ref (u 8 25), .int 0, .ref (u 8 26), .ref (u 8 27), .ref (u 8 28), .ref (u 8 29), .ref (u 8 30)])), (u 8 19, .inl (k 0, 6, .inl (fun _ => 0))), (u 8 20, .inl (k 0, 36, .inl (fun _ => 0))), (u 8 21, .inl (k 0, 20, .inl (fun _ => 0))), (u 8 22, .inl (k 0, 20, .inl (fun _ => 0))), (u 8 23, .inl (k 0, 20, .inl (fun _ => 0))), (u 8 24, .inl (k 0, 20, .inl (fun _ => 0))), (u 8 25, .inl (k 0, 20, .inl (fun _ => 0))), (u 8 26, .inl (k 0, 12, .inl (fun _ => 0))), (u 8 27, .inl (k 0, 12, .inl (fun _ => 0))), (u 8 28, .inl (k 0, 12, .inl (fun _ => 0))), (u 8 29, .inl (k 0, 12, .inl (fun _ => 0))), (u 8 30, .inl (k 0, 360, .inl (fun _ => 0)))]) ++ ([] : va_W)) ++ ([] : va_W)) ++ ([] : va_W)) ++ ([] : va_W)) ++ ([] : va_W)) ++ ([] : va_W))) ++ [(y, .inr (10, [.int 0, .ref (v 1), .ref (v 2), .ref (v 3), .ref (v 4), .ref (v 5), .ref (v 6), .ref (v 7), .ref (v 8), .ref (v 9), .ref (v 10), .ref (v 11), .ref (v 12), .ref (v 13), .ref (v 14), .ref (v 15), .ref (v 16), .ref (v 17), .ref (v 18), .ref (v 19), .ref (v 20), .ref (v 21), .ref (v 22), .ref (v 23), .ref (v 24), .ref (v 25), .ref (v 26), .ref (v 27), .ref (v 28), .ref (v 29), .ref (v 30), .ref (v 31), .ref (v 32), .ref (v 33), .ref (v 34), .ref (v 35), .ref (v 36), .int 0, .int 0, .int 0, .int 0, .int 0, .int 0, .int 0, .int 0, .int 0, .int 13, .int 0, .ref (v 48), .ref (v 49), .ref (v 50), .ref (v 51), .ref (v 52), .ref (v 53), .ref (v 54), .ref (v 55), .ref (v 56), .ref (v 57), .ref (v 58), .ref (v 59), .ref (v 60), .int 0, .int 0, .int 0, .int 0, .int 0, .int 0, .int 0, .ref (v 68), .ref (v 69), .ref (v 70), .ref (v 71), .ref (v 72), .int 0, .int 0, .ref (v 75), .ref (v 76), .ref (v 77), .int 0, .int 0])), (v 1, .inl (k 0, 17, .inl (scal0))), (v 2, .inl (k 0, 9, .inl (fun _ => 0))), (v 3, .inl (k 0, 9, .inl (fun _ => 0))), (v 4, .inl (k 0, 4, .inl (fun _ => 0))), (v 5, .inl (k 0, 6, .inl (fun _ => 0))), (v 6, .inl (k 0, 6, .inl (fun _ => 0))), (v 7, .inl (k 0, 6, .inl (fun _ => 0))), (v 8, .inl (k 0, 36, .inl (fun _ => 0))), (v 9, .inl (k 0, 12, .inl (fun _ => 0))), (v 10, .inl (k 0, 12, .inl (fun _ => 0))), (v 11, .inl (k 0, 12, .inl (fun _ => 0))), (v 12, .inl (k 0, 12, .inl (fun _ => 0))), (v 13, .inl (k 0, 12, .inl (fun _ => 0))), (v 14, .inl (k 0, 12, .inl (fun _ => 0))), (v 15, .inl (k 0, 12, .inl (fun _ => 0))), (v 16, .inl (k 0, 12, .inl (fun _ => 0))), (v 17, .inl (k 0, 12, .inl (fun _ => 0))), (v 18, .inl (k 0, 72, .inl (fun _ => 0))), (v 19, .inl (k 0, 20, .inl (fun _ => 0))), (v 20, .inl (k 0, 20, .inl (fun _ => 0))), (v 21, .inl (k 0, 20, .inl (fun _ => 0))), (v 22, .inl (k 0, 20, .inl (fun _ => 0))), (v 23, .inl (k 0, 20, .inl (fun _ => 0))), (v 24, .inl (k 0, 12, .inl (fun _ => 0))), (v 25, .inl (k 0, 12, .inl (fun _ => 0))), (v 26, .inl (k 0, 12, .inl (fun _ => 0))), (v 27, .inl (k 0, 12, .inl (fun _ => 0))), (v 28, .inl (k 0, 360, .inl (fun _ => 0))), (v 76, .inl (k 0, 4500, .inl (fun _ => 0))), (v 77, .inl (k 2, 4, .inl (fun _ => 0)))]) : va_W) := by simp only [SW5, List.nil_append, List.append_nil, List.cons_append]
  rw [e]
  exact h
set_option maxHeartbeats 4000000 in
set_option maxRecDepth 100000 in
/-- image -/
theorem lawm_image_1 {p : Program} {l : Launch} {e : Env} {s : State} {m : MethodId} {below : List Frame} {meth : Method} {c : Code} {D : va_G} {k : Nat → ClassId} {sd : Nat → Nat} {A : Nat → Prop} {b : Nat} {xs : Nat → Int32} {x y : Nat} {u : Nat → Nat → Nat} {v : Nat → Nat} {H : Heap} {locs : List Loc} {ls : Array Slot} (C : LC p s m meth c D k sd A b xs) (hP : va_P D vwCl (SW5 k x u y v) H) (hD : va_D A (SW5 k x u y v)) (hS : va_S A s.heap H locs) (hl : lv_has ls 4 [(0, .ref b), (1, .ref x), (2, .ref y), (3, .int 0)]) (hq : xs 1 = 1) : W p l e room_1 s m #[Value.ref b] below meth c H locs 287 18933 (lw_Z below #[Value.ref b] s) (F0 m 1520 ls []) := by
  obtain ⟨hx, hb, hr, hml, hown, hw, hXs, hbl, hlocks, hK, hE, hX, hA, hAr, hbA⟩ := id C
  refine lv_aload_n hx hb dL_law_1520 rfl (lv_at hl 1 rfl) ?_
  refine lv_aload_n hx hb dL_law_1521 rfl (lv_at hl 0 rfl) ?_
  refine lv_iload_n hx hb dL_law_1522 rfl (lv_at hl 3 rfl) ?_
  refine lv_iconst (v := 1) hx hb dL_law_1523 (by decide) ?_
  refine lv_iadd hx hb dL_law_1524 ?_
  refine x_top (v := 1) (by decide) ?_
  refine va_sld hx hb hXs hbl hbA hS (i := 1) (by unfold vp_in; decide) dL_law_1525 ?_
  refine x_top (v := 1) hq ?_
  refine x_i (wr := [(y, .inr (10, [.int 0, .ref (v 1), .ref (v 2), .ref (v 3), .ref (v 4), .ref (v 5), .ref (v 6), .ref (v 7), .ref (v 8), .ref (v 9), .ref (v 10), .ref (v 11), .ref (v 12), .ref (v 13), .ref (v 14), .ref (v 15), .ref (v 16), .ref (v 17), .ref (v 18), .ref (v 19), .ref (v 20), .ref (v 21), .ref (v 22), .ref (v 23), .ref (v 24), .ref (v 25), .ref (v 26), .ref (v 27), .ref (v 28), .ref (v 29), .ref (v 30), .ref (v 31), .ref (v 32), .ref (v 33), .ref (v 34), .ref (v 35), .ref (v 36), .int 0, .int 0, .int 0, .int 0, .int 0, .int 0, .int 0, .int 0, .int 0, .int 13, .int 0, .ref (v 48), .ref (v 49), .ref (v 50), .ref (v 51), .ref (v 52), .ref (v 53), .ref (v 54), .ref (v 55), .ref (v 56), .ref (v 57), .ref (v 58), .ref (v 59), .ref (v 60), .int 0, .int 0, .int 0, .int 0, .int 0, .int 0, .int 0, .ref (v 68), .ref (v 69), .ref (v 70), .ref (v 71), .ref (v 72), .int 0, .int 0, .ref (v 75), .ref (v 76), .ref (v 77), .int 0, .int 0])), (v 1, .inl (k 0, 17, .inl (scal0))), (v 2, .inl (k 0, 9, .inl (fun _ => 0))), (v 3, .inl (k 0, 9, .inl (fun _ => 0))), (v 4, .inl (k 0, 4, .inl (fun _ => 0))), (v 5, .inl (k 0, 6, .inl (fun _ => 0))), (v 6, .inl (k 0, 6, .inl (fun _ => 0))), (v 7, .inl (k 0, 6, .inl (fun _ => 0))), (v 8, .inl (k 0, 36, .inl (fun _ => 0))), (v 9, .inl (k 0, 12, .inl (fun _ => 0))), (v 10, .inl (k 0, 12, .inl (fun _ => 0))), (v 11, .inl (k 0, 12, .inl (fun _ => 0))), (v 12, .inl (k 0, 12, .inl (fun _ => 0))), (v 13, .inl (k 0, 12, .inl (fun _ => 0))), (v 14, .inl (k 0, 12, .inl (fun _ => 0))), (v 15, .inl (k 0, 12, .inl (fun _ => 0))), (v 16, .inl (k 0, 12, .inl (fun _ => 0))), (v 17, .inl (k 0, 12, .inl (fun _ => 0))), (v 18, .inl (k 0, 72, .inl (fun _ => 0))), (v 19, .inl (k 0, 20, .inl (fun _ => 0))), (v 20, .inl (k 0, 20, .inl (fun _ => 0))), (v 21, .inl (k 0, 20, .inl (fun _ => 0))), (v 22, .inl (k 0, 20, .inl (fun _ => 0))), (v 23, .inl (k 0, 20, .inl (fun _ => 0))), (v 24, .inl (k 0, 12, .inl (fun _ => 0))), (v 25, .inl (k 0, 12, .inl (fun _ => 0))), (v 26, .inl (k 0, 12, .inl (fun _ => 0))), (v 27, .inl (k 0, 12, .inl (fun _ => 0))), (v 28, .inl (k 0, 360, .inl (fun _ => 0))), (v 76, .inl (k 0, 4500, .inl (fun _ => 0))), (v 77, .inl (k 2, 4, .inl (fun _ => 0)))]) (va_runV (As := [.int 1]) (rest := []) ⟨hx, hb, hml, hown, hw⟩ (kX9_image_1 l D k sd x (u 0 0) (u 0 1) (u 0 2) (u 0 3) (u 0 4) (u 0 17) (u 0 6) (u 0 18) (u 0 19) (u 0 20) (u 0 21) (u 0 13) (u 0 14) (u 0 15) (u 0 16) (u 8 0) (u 8 8) (u 8 18) (u 0 5) (u 5 0) (u 5 10) (u 5 23) (u 0 3) (u 5 24) (u 5 25) (u 5 26) (u 8 1) (u 8 2) (u 8 3) (u 8 4) (u 8 5) (u 8 6) (u 8 7) (u 8 9) (u 8 10) (u 8 11) (u 8 12) (u 8 13) (u 8 14) (u 8 15) (u 8 16) (u 8 17) (u 8 19) (u 8 20) (u 8 21) (u 8 22) (u 8 23) (u 8 24) (u 8 25) (u 8 26) (u 8 27) (u 8 28) (u 8 29) (u 8 30) (u 6 0) (u 6 1) (u 6 2) (u 6 3) (u 6 4) (u 6 5) (u 6 6) (u 5 1) (u 5 2) (u 5 3) (u 5 4) (u 5 5) (u 5 6) (u 5 7) (u 5 8) (u 5 9) (u 5 11) (u 5 12) (u 5 13) (u 5 14) (u 5 15) (u 5 16) (u 5 17) (u 5 18) (u 5 19) (u 5 20) (u 5 21) (u 5 22) H.size) (cwV 1 hw (gV wd_1107 wd_1108 wd_1109 wd_1 wd_1110) rfl rfl rfl (by decide +kernel) ⟨Nat.le_of_ble_eq_true rfl, Nat.le_of_ble_eq_true rfl⟩) (pre_V (ci := 9) (r := (RX9, TX9, 12)) hK hE hX hP hD hS hA [0, 1, 34, 10, 35, 36, 37, 38, 39, 40, 41, 42, 43, 44, 45, 46, 47, 48, 49, 50, 51, 52, 53, 54, 55, 56, 57, 58, 59, 60, 61, 62, 63, 64, 65, 2, 3, 4, 5, 6, 7, 8, 9, 11, 12, 13, 14, 15, 16, 17, 18, 19, 20, 21, 22, 23, 24, 25, 26, 27, 28, 29, 30, 31, 32, 33] (by decide) rfl rfl (q0 := 0) rfl) rfl rfl hl.1 rfl (lv_room (Nat.le_of_ble_eq_true rfl)) dL_law_1526 ⟨Nat.le_of_ble_eq_true rfl, Nat.le_of_ble_eq_true rfl⟩) hP hD hS hA [0, 1, 34, 10, 35, 36, 37, 38, 39, 40, 41, 42, 43, 44, 45, 46, 47, 48, 49, 50, 51, 52, 53, 54, 55, 56, 57, 58, 59, 60, 61, 62, 63, 64, 65, 2, 3, 4, 5, 6, 7, 8, 9, 11, 12, 13, 14, 15, 16, 17, 18, 19, 20, 21, 22, 23, 24, 25, 26, 27, 28, 29, 30, 31, 32, 33] [66, 67, 68, 69, 70, 71, 72, 73, 74, 75, 76, 77, 78, 79, 80, 81, 82, 83, 84, 85, 86, 87, 88, 89, 90, 91, 92, 93, 94, 95, 96] rfl rfl (by decide) (by decide) (fun r_3 u_1 H locs hp_2 hP hD hS => ?_)
  subst hp_2
  have hP : va_P D vwCl ([(y, .inr (10, [.int 0, .ref (v 1), .ref (v 2), .ref (v 3), .ref (v 4), .ref (v 5), .ref (v 6), .ref (v 7), .ref (v 8), .ref (v 9), .ref (v 10), .ref (v 11), .ref (v 12), .ref (v 13), .ref (v 14), .ref (v 15), .ref (v 16), .ref (v 17), .ref (v 18), .ref (v 19), .ref (v 20), .ref (v 21), .ref (v 22), .ref (v 23), .ref (v 24), .ref (v 25), .ref (v 26), .ref (v 27), .ref (v 28), .ref (v 29), .ref (v 30), .ref (v 31), .ref (v 32), .ref (v 33), .ref (v 34), .ref (v 35), .ref (v 36), .int 0, .int 0, .int 0, .int 0, .int 0, .int 0, .int 0, .int 0, .int 0, .int 13, .int 0, .ref (v 48), .ref (v 49), .ref (v 50), .ref (v 51), .ref (v 52), .ref (v 53), .ref (v 54), .ref (v 55), .ref (v 56), .ref (v 57), .ref (v 58), .ref (v 59), .ref (v 60), .int 0, .int 0, .int 0, .int 0, .int 0, .int 0, .int 0, .ref (v 68), .ref (v 69), .ref (v 70), .ref (v 71), .ref (v 72), .int 0, .int 0, .ref (v 75), .ref (v 76), .ref (v 77), .int 0, .int 0])), (v 1, .inl (k 0, 17, .inl (scal0))), (v 2, .inl (k 0, 9, .inl (fun _ => 0))), (v 3, .inl (k 0, 9, .inl (fun _ => 0))), (v 4, .inl (k 0, 4, .inl (fun _ => 0))), (v 5, .inl (k 0, 6, .inl (fun _ => 0))), (v 6, .inl (k 0, 6, .inl (fun _ => 0))), (v 7, .inl (k 0, 6, .inl (fun _ => 0))), (v 8, .inl (k 0, 36, .inl (fun _ => 0))), (v 9, .inl (k 0, 12, .inl (fun _ => 0))), (v 10, .inl (k 0, 12, .inl (fun _ => 0))), (v 11, .inl (k 0, 12, .inl (fun _ => 0))), (v 12, .inl (k 0, 12, .inl (fun _ => 0))), (v 13, .inl (k 0, 12, .inl (fun _ => 0))), (v 14, .inl (k 0, 12, .inl (fun _ => 0))), (v 15, .inl (k 0, 12, .inl (fun _ => 0))), (v 16, .inl (k 0, 12, .inl (fun _ => 0))), (v 17, .inl (k 0, 12, .inl (fun _ => 0))), (v 18, .inl (k 0, 72, .inl (fun _ => 0))), (v 19, .inl (k 0, 20, .inl (fun _ => 0))), (v 20, .inl (k 0, 20, .inl (fun _ => 0))), (v 21, .inl (k 0, 20, .inl (fun _ => 0))), (v 22, .inl (k 0, 20, .inl (fun _ => 0))), (v 23, .inl (k 0, 20, .inl (fun _ => 0))), (v 24, .inl (k 0, 12, .inl (fun _ => 0))), (v 25, .inl (k 0, 12, .inl (fun _ => 0))), (v 26, .inl (k 0, 12, .inl (fun _ => 0))), (v 27, .inl (k 0, 12, .inl (fun _ => 0))), (v 28, .inl (k 0, 360, .inl (fun _ => 0))), (v 76, .inl (k 0, 4500, .inl (fun _ => 0))), (v 77, .inl (k 2, 4, .inl (fun _ => 0)))]) H := hP
  have hD : va_D A ([(y, .inr (10, [.int 0, .ref (v 1), .ref (v 2), .ref (v 3), .ref (v 4), .ref (v 5), .ref (v 6), .ref (v 7), .ref (v 8), .ref (v 9), .ref (v 10), .ref (v 11), .ref (v 12), .ref (v 13), .ref (v 14), .ref (v 15), .ref (v 16), .ref (v 17), .ref (v 18), .ref (v 19), .ref (v 20), .ref (v 21), .ref (v 22), .ref (v 23), .ref (v 24), .ref (v 25), .ref (v 26), .ref (v 27), .ref (v 28), .ref (v 29), .ref (v 30), .ref (v 31), .ref (v 32), .ref (v 33), .ref (v 34), .ref (v 35), .ref (v 36), .int 0, .int 0, .int 0, .int 0, .int 0, .int 0, .int 0, .int 0, .int 0, .int 13, .int 0, .ref (v 48), .ref (v 49), .ref (v 50), .ref (v 51), .ref (v 52), .ref (v 53), .ref (v 54), .ref (v 55), .ref (v 56), .ref (v 57), .ref (v 58), .ref (v 59), .ref (v 60), .int 0, .int 0, .int 0, .int 0, .int 0, .int 0, .int 0, .ref (v 68), .ref (v 69), .ref (v 70), .ref (v 71), .ref (v 72), .int 0, .int 0, .ref (v 75), .ref (v 76), .ref (v 77), .int 0, .int 0])), (v 1, .inl (k 0, 17, .inl (scal0))), (v 2, .inl (k 0, 9, .inl (fun _ => 0))), (v 3, .inl (k 0, 9, .inl (fun _ => 0))), (v 4, .inl (k 0, 4, .inl (fun _ => 0))), (v 5, .inl (k 0, 6, .inl (fun _ => 0))), (v 6, .inl (k 0, 6, .inl (fun _ => 0))), (v 7, .inl (k 0, 6, .inl (fun _ => 0))), (v 8, .inl (k 0, 36, .inl (fun _ => 0))), (v 9, .inl (k 0, 12, .inl (fun _ => 0))), (v 10, .inl (k 0, 12, .inl (fun _ => 0))), (v 11, .inl (k 0, 12, .inl (fun _ => 0))), (v 12, .inl (k 0, 12, .inl (fun _ => 0))), (v 13, .inl (k 0, 12, .inl (fun _ => 0))), (v 14, .inl (k 0, 12, .inl (fun _ => 0))), (v 15, .inl (k 0, 12, .inl (fun _ => 0))), (v 16, .inl (k 0, 12, .inl (fun _ => 0))), (v 17, .inl (k 0, 12, .inl (fun _ => 0))), (v 18, .inl (k 0, 72, .inl (fun _ => 0))), (v 19, .inl (k 0, 20, .inl (fun _ => 0))), (v 20, .inl (k 0, 20, .inl (fun _ => 0))), (v 21, .inl (k 0, 20, .inl (fun _ => 0))), (v 22, .inl (k 0, 20, .inl (fun _ => 0))), (v 23, .inl (k 0, 20, .inl (fun _ => 0))), (v 24, .inl (k 0, 12, .inl (fun _ => 0))), (v 25, .inl (k 0, 12, .inl (fun _ => 0))), (v 26, .inl (k 0, 12, .inl (fun _ => 0))), (v 27, .inl (k 0, 12, .inl (fun _ => 0))), (v 28, .inl (k 0, 360, .inl (fun _ => 0))), (v 76, .inl (k 0, 4500, .inl (fun _ => 0))), (v 77, .inl (k 2, 4, .inl (fun _ => 0)))]) := hD
  refine lv_aload_n hx hb dL_law_1529 rfl (lv_at hl 2 rfl) ?_
  refine lv_aload_n hx hb dL_law_1530 rfl (lv_at hl 0 rfl) ?_
  refine lv_iload_n hx hb dL_law_1531 rfl (lv_at hl 3 rfl) ?_
  refine lv_iconst (v := 1) hx hb dL_law_1532 (by decide) ?_
  refine lv_iadd hx hb dL_law_1533 ?_
  refine x_top (v := 1) (by decide) ?_
  refine va_sld hx hb hXs hbl hbA hS (i := 1) (by unfold vp_in; decide) dL_law_1534 ?_
  refine x_top (v := 1) hq ?_
  refine x_i (wr := ([] : va_W)) (va_runV (As := [.int 1]) (rest := [.int 0]) ⟨hx, hb, hml, hown, hw⟩ (kX10_image_1 l D k sd y v  H.size) (cwV 1 hw (gV wd_1966 wd_1967 wd_1968 wd_11 wd_1969) rfl rfl rfl (by decide +kernel) ⟨Nat.le_of_ble_eq_true rfl, Nat.le_of_ble_eq_true rfl⟩) (pre_V (ci := 10) (r := (RX10, TX10, 80)) hK hE hX hP hD hS hA [0, 1, 2, 3, 4, 5, 6, 7, 8, 9, 10, 11, 12, 13, 14, 15, 16, 17, 18, 19, 20, 21, 22, 23, 24, 25, 26, 27, 28, 29, 30] (by decide) rfl rfl (q0 := 0) rfl) rfl rfl hl.1 rfl (lv_room (Nat.le_of_ble_eq_true rfl)) dL_law_1535 ⟨Nat.le_of_ble_eq_true rfl, Nat.le_of_ble_eq_true rfl⟩) hP hD hS hA [0, 1, 2, 3, 4, 5, 6, 7, 8, 9, 10, 11, 12, 13, 14, 15, 16, 17, 18, 19, 20, 21, 22, 23, 24, 25, 26, 27, 28, 29, 30] [] rfl rfl (by decide) (by decide) (fun r_6 u_4 H locs hp_5 hP hD hS => ?_)
  subst hp_5
  have hP : va_P D vwCl (([] : va_W)) H := hP
  have hD : va_D A (([] : va_W)) := hD
  refine lv_icmp_eq (tgt := 1566) hx hb dL_law_1538 (by decide) (fun _ => ?_) (fun h => absurd (by decide) h)
  exact law_end C hS (lv_sub hl [0, 1, 2, 3] rfl)
def SW6 (k : Nat → ClassId) (x : Nat) (u : Nat → Nat → Nat) (y : Nat) (v : Nat → Nat) : va_W := [(x, .inr (9, [.ref (u 0 0), .ref (u 0 1), .ref (u 0 2), .ref (u 0 3), .int 0, .ref (u 0 4), .ref (u 0 17), .ref (u 0 6), .ref (u 0 18), .ref (u 0 19), .ref (u 0 20), .ref (u 0 21)])), (u 0 6, .inl (k 4, 4, .inr (.inr (.inr (.inr (va_up (va_up (va_up (va_up (fun _ => none) 0 (some (u 0 13))) 1 (some (u 0 14))) 2 (some (u 0 15))) 3 (some (u 0 16)))))))), (u 0 5, .inr (2, [.int 0, .int 0, .int 0, .int 0, .int 0, .ref (u 6 0), .ref (u 6 1), .ref (u 6 2), .ref (u 6 3), .ref (u 6 4), .ref (u 6 5), .ref (u 6 6)])), (u 6 0, .inl (k 0, 6, .inl (fun _ => 0))), (u 6 1, .inl (k 0, 9, .inl (fun _ => 0))), (u 6 2, .inl (k 0, 4, .inl (fun _ => 0))), (u 6 3, .inl (k 0, 12, .inl (fun _ => 0))), (u 6 4, .inl (k 0, 12, .inl (fun _ => 0))), (u 6 5, .inl (k 0, 12, .inl (fun _ => 0))), (u 6 6, .inl (k 0, 12, .inl (fun _ => 0))), (u 0 4, .inr (8, [.ref (u 0 5), .ref (u 5 0), .ref (u 5 10), .ref (u 5 23), .ref (u 0 3), .ref (u 5 24), .ref (u 5 25), .ref (u 5 26), .int 0])), (u 5 0, .inr (6, [.int 0, .int 0, .int (-1), .int 0, .int 0, .int 0, .ref (u 5 1), .ref (u 5 2), .ref (u 5 3), .ref (u 5 4), .ref (u 5 5), .ref (u 5 6), .ref (u 5 7), .ref (u 5 8), .ref (u 5 9)])), (u 5 1, .inl (k 0, 6, .inl (fun _ => 0))), (u 5 2, .inl (k 0, 9, .inl (fun _ => 0))), (u 5 3, .inl (k 0, 12, .inl (fun _ => 0))), (u 5 4, .inl (k 0, 12, .inl (fun _ => 0))), (u 5 5, .inl (k 0, 12, .inl (fun _ => 0))), (u 5 6, .inl (k 0, 12, .inl (fun _ => 0))), (u 5 7, .inl (k 0, 12, .inl (fun _ => 0))), (u 5 8, .inl (k 0, 12, .inl (fun _ => 0))), (u 5 9, .inl (k 0, 72, .inl (fun _ => 0))), (u 5 10, .inr (0, [.int 0, .int 0, .ref (u 5 11), .ref (u 5 12), .int 0, .ref (u 5 13), .int 0, .ref (u 5 14), .ref (u 5 15), .ref (u 5 16), .ref (u 5 17), .int 0, .ref (u 5 18), .ref (u 5 19), .ref (u 5 20), .ref (u 5 21), .ref (u 5 22)])), (u 5 11, .inl (k 0, 6, .inl (fun _ => 0))), (u 5 12, .inl (k 0, 36, .inl (fun _ => 0))), (u 5 13, .inl (k 0, 20, .inl (fun _ => 0))), (u 5 14, .inl (k 0, 20, .inl (fun _ => 0))), (u 5 15, .inl (k 0, 20, .inl (fun _ => 0))), (u 5 16, .inl (k 0, 20, .inl (fun _ => 0))), (u 5 17, .inl (k 0, 20, .inl (fun _ => 0))), (u 5 18, .inl (k 0, 12, .inl (fun _ => 0))), (u 5 19, .inl (k 0, 12, .inl (fun _ => 0))), (u 5 20, .inl (k 0, 12, .inl (fun _ => 0))), (u 5 21, .inl (k 0, 12, .inl (fun _ => 0))), (u 5 22, .inl (k 0, 360, .inl (fun _ => 0))), (u 0 15, .inr (1, [.int 0, .ref (u 9 0), .ref (u 9 8), .ref (u 9 18)])), (u 9 0, .inr (2, [.int 0, .int 0, .int 0, .int 0, .int 0, .ref (u 9 1), .ref (u 9 2), .ref (u 9 3), .ref (u 9 4), .ref (u 9 5), .ref (u 9 6), .ref (u 9 7)])), (u 9 1, .inl (k 0, 6, .inl (fun _ => 0))), (u 9 2, .inl (k 0, 9, .inl (fun _ => 0))), (u 9 3, .inl (k 0, 4, .inl (fun _ => 0))), (u 9 4, .inl (k 0, 12, .inl (fun _ => 0))), (u 9 5, .inl (k 0, 12, .inl (fun _ => 0))), (u 9 6, .inl (k 0, 12, .inl (fun _ => 0))), (u 9 7, .inl (k 0, 12, .inl (fun _ => 0))), (u 9 8, .inr (6, [.int 0, .int 0, .int (-1), .int 0, .int 0, .int 0, .ref (u 9 9), .ref (u 9 10), .ref (u 9 11), .ref (u 9 12), .ref (u 9 13), .ref (u 9 14), .ref (u 9 15), .ref (u 9 16), .ref (u 9 17)])), (u 9 9, .inl (k 0, 6, .inl (fun _ => 0))), (u 9 10, .inl (k 0, 9, .inl (fun _ => 0))), (u 9 11, .inl (k 0, 12, .inl (fun _ => 0))), (u 9 12, .inl (k 0, 12, .inl (fun _ => 0))), (u 9 13, .inl (k 0, 12, .inl (fun _ => 0))), (u 9 14, .inl (k 0, 12, .inl (fun _ => 0))), (u 9 15, .inl (k 0, 12, .inl (fun _ => 0))), (u 9 16, .inl (k 0, 12, .inl (fun _ => 0))), (u 9 17, .inl (k 0, 72, .inl (fun _ => 0))), (u 9 18, .inr (0, [.int 0, .int 0, .ref (u 9 19), .ref (u 9 20), .int 0, .ref (u 9 21), .int 0, .ref (u 9 22), .ref (u 9 23), .ref (u 9 24), .ref (u 9 25), .int 0, .ref (u 9 26), .ref (u 9 27), .ref (u 9 28), .ref (u 9 29), .ref (u 9 30)])), (u 9 19, .inl (k 0, 6, .inl (fun _ => 0))), (u 9 20, .inl (k 0, 36, .inl (fun _ => 0))), (u 9 21, .inl (k 0, 20, .inl (fun _ => 0))), (u 9 22, .inl (k 0, 20, .inl (fun _ => 0))), (u 9 23, .inl (k 0, 20, .inl (fun _ => 0))), (u 9 24, .inl (k 0, 20, .inl (fun _ => 0))), (u 9 25, .inl (k 0, 20, .inl (fun _ => 0))), (u 9 26, .inl (k 0, 12, .inl (fun _ => 0))), (u 9 27, .inl (k 0, 12, .inl (fun _ => 0))), (u 9 28, .inl (k 0, 12, .inl (fun _ => 0))), (u 9 29, .inl (k 0, 12, .inl (fun _ => 0))), (u 9 30, .inl (k 0, 360, .inl (fun _ => 0))), (y, .inr (10, [.int 0, .ref (v 1), .ref (v 2), .ref (v 3), .ref (v 4), .ref (v 5), .ref (v 6), .ref (v 7), .ref (v 8), .ref (v 9), .ref (v 10), .ref (v 11), .ref (v 12), .ref (v 13), .ref (v 14), .ref (v 15), .ref (v 16), .ref (v 17), .ref (v 18), .ref (v 19), .ref (v 20), .ref (v 21), .ref (v 22), .ref (v 23), .ref (v 24), .ref (v 25), .ref (v 26), .ref (v 27), .ref (v 28), .ref (v 29), .ref (v 30), .ref (v 31), .ref (v 32), .ref (v 33), .ref (v 34), .ref (v 35), .ref (v 36), .int 0, .int 0, .int 0, .int 0, .int 0, .int 0, .int 0, .int 0, .int 0, .int 13, .int 0, .ref (v 48), .ref (v 49), .ref (v 50), .ref (v 51), .ref (v 52), .ref (v 53), .ref (v 54), .ref (v 55), .ref (v 56), .ref (v 57), .ref (v 58), .ref (v 59), .ref (v 60), .int 0, .int 0, .int 0, .int 0, .int 0, .int 0, .int 0, .ref (v 68), .ref (v 69), .ref (v 70), .ref (v 71), .ref (v 72), .int 0, .int 0, .ref (v 75), .ref (v 76), .ref (v 77), .int 0, .int 0])), (v 1, .inl (k 0, 17, .inl (scal0))), (v 2, .inl (k 0, 9, .inl (fun _ => 0))), (v 3, .inl (k 0, 9, .inl (fun _ => 0))), (v 4, .inl (k 0, 4, .inl (fun _ => 0))), (v 5, .inl (k 0, 6, .inl (fun _ => 0))), (v 6, .inl (k 0, 6, .inl (fun _ => 0))), (v 7, .inl (k 0, 6, .inl (fun _ => 0))), (v 8, .inl (k 0, 36, .inl (fun _ => 0))), (v 9, .inl (k 0, 12, .inl (fun _ => 0))), (v 10, .inl (k 0, 12, .inl (fun _ => 0))), (v 11, .inl (k 0, 12, .inl (fun _ => 0))), (v 12, .inl (k 0, 12, .inl (fun _ => 0))), (v 13, .inl (k 0, 12, .inl (fun _ => 0))), (v 14, .inl (k 0, 12, .inl (fun _ => 0))), (v 15, .inl (k 0, 12, .inl (fun _ => 0))), (v 16, .inl (k 0, 12, .inl (fun _ => 0))), (v 17, .inl (k 0, 12, .inl (fun _ => 0))), (v 18, .inl (k 0, 72, .inl (fun _ => 0))), (v 19, .inl (k 0, 20, .inl (fun _ => 0))), (v 20, .inl (k 0, 20, .inl (fun _ => 0))), (v 21, .inl (k 0, 20, .inl (fun _ => 0))), (v 22, .inl (k 0, 20, .inl (fun _ => 0))), (v 23, .inl (k 0, 20, .inl (fun _ => 0))), (v 24, .inl (k 0, 12, .inl (fun _ => 0))), (v 25, .inl (k 0, 12, .inl (fun _ => 0))), (v 26, .inl (k 0, 12, .inl (fun _ => 0))), (v 27, .inl (k 0, 12, .inl (fun _ => 0))), (v 28, .inl (k 0, 360, .inl (fun _ => 0))), (v 76, .inl (k 0, 4500, .inl (fun _ => 0))), (v 77, .inl (k 2, 4, .inl (fun _ => 0)))]
set_option maxRecDepth 100000 in
theorem sub_6 (k : Nat → ClassId) (x : Nat) (u : Nat → Nat → Nat) (y : Nat) (v : Nat → Nat) : List.Sublist (SW6 k x u y v) (G9n k x u ++ G10 k y v) := by
  have h : List.Sublist ((([(x, .inr (9, [.ref (u 0 0), .ref (u 0 1), .ref (u 0 2), .ref (u 0 3), .int 0, .ref (u 0 4), .ref (u 0 17), .ref (u 0 6), .ref (u 0 18), .ref (u 0 19), .ref (u 0 20), .ref (u 0 21)])), (u 0 6, .inl (k 4, 4, .inr (.inr (.inr (.inr (va_up (va_up (va_up (va_up (fun _ => none) 0 (some (u 0 13))) 1 (some (u 0 14))) 2 (some (u 0 15))) 3 (some (u 0 16))))))))] ++ (((((((((((((((((((([] : va_W) ++ ([] : va_W)) ++ ([] : va_W)) ++ ([] : va_W)) ++ ([] : va_W)) ++ ([] : va_W)) ++ ([] : va_W)) ++ ([] : va_W)) ++ ([] : va_W)) ++ ([] : va_W)) ++ [(u 0 5, .inr (2, [.int 0, .int 0, .int 0, .int 0, .int 0, .ref (u 6 0), .ref (u 6 1), .ref (u 6 2), .ref (u 6 3), .ref (u 6 4), .ref (u 6 5), .ref (u 6 6)])), (u 6 0, .inl (k 0, 6, .inl (fun _ => 0))), (u 6 1, .inl (k 0, 9, .inl (fun _ => 0))), (u 6 2, .inl (k 0, 4, .inl (fun _ => 0))), (u 6 3, .inl (k 0, 12, .inl (fun _ => 0))), (u 6 4, .inl (k 0, 12, .inl (fun _ => 0))), (u 6 5, .inl (k 0, 12, .inl (fun _ => 0))), (u 6 6, .inl (k 0, 12, .inl (fun _ => 0)))]) ++ [(u 0 4, .inr (8, [.ref (u 0 5), .ref (u 5 0), .ref (u 5 10), .ref (u 5 23), .ref (u 0 3), .ref (u 5 24), .ref (u 5 25), .ref (u 5 26), .int 0])), (u 5 0, .inr (6, [.int 0, .int 0, .int (-1), .int 0, .int 0, .int 0, .ref (u 5 1), .ref (u 5 2), .ref (u 5 3), .ref (u 5 4), .ref (u 5 5), .ref (u 5 6), .ref (u 5 7), .ref (u 5 8), .ref (u 5 9)])), (u 5 1, .inl (k 0, 6, .inl (fun _ => 0))), (u 5 2, .inl (k 0, 9, .inl (fun _ => 0))), (u 5 3, .inl (k 0, 12, .inl (fun _ => 0))), (u 5 4, .inl (k 0, 12, .inl (fun _ => 0))), (u 5 5, .inl (k 0, 12, .inl (fun _ => 0))), (u 5 6, .inl (k 0, 12, .inl (fun _ => 0))), (u 5 7, .inl (k 0, 12, .inl (fun _ => 0))), (u 5 8, .inl (k 0, 12, .inl (fun _ => 0))), (u 5 9, .inl (k 0, 72, .inl (fun _ => 0))), (u 5 10, .inr (0, [.int 0, .int 0, .ref (u 5 11), .ref (u 5 12), .int 0, .ref (u 5 13), .int 0, .ref (u 5 14), .ref (u 5 15), .ref (u 5 16), .ref (u 5 17), .int 0, .ref (u 5 18), .ref (u 5 19), .ref (u 5 20), .ref (u 5 21), .ref (u 5 22)])), (u 5 11, .inl (k 0, 6, .inl (fun _ => 0))), (u 5 12, .inl (k 0, 36, .inl (fun _ => 0))), (u 5 13, .inl (k 0, 20, .inl (fun _ => 0))), (u 5 14, .inl (k 0, 20, .inl (fun _ => 0))), (u 5 15, .inl (k 0, 20, .inl (fun _ => 0))), (u 5 16, .inl (k 0, 20, .inl (fun _ => 0))), (u 5 17, .inl (k 0, 20, .inl (fun _ => 0))), (u 5 18, .inl (k 0, 12, .inl (fun _ => 0))), (u 5 19, .inl (k 0, 12, .inl (fun _ => 0))), (u 5 20, .inl (k 0, 12, .inl (fun _ => 0))), (u 5 21, .inl (k 0, 12, .inl (fun _ => 0))), (u 5 22, .inl (k 0, 360, .inl (fun _ => 0)))]) ++ ([] : va_W)) ++ ([] : va_W)) ++ [(u 0 15, .inr (1, [.int 0, .ref (u 9 0), .ref (u 9 8), .ref (u 9 18)])), (u 9 0, .inr (2, [.int 0, .int 0, .int 0, .int 0, .int 0, .ref (u 9 1), .ref (u 9 2), .ref (u 9 3), .ref (u 9 4), .ref (u 9 5), .ref (u 9 6), .ref (u 9 7)])), (u 9 1, .inl (k 0, 6, .inl (fun _ => 0))), (u 9 2, .inl (k 0, 9, .inl (fun _ => 0))), (u 9 3, .inl (k 0, 4, .inl (fun _ => 0))), (u 9 4, .inl (k 0, 12, .inl (fun _ => 0))), (u 9 5, .inl (k 0, 12, .inl (fun _ => 0))), (u 9 6, .inl (k 0, 12, .inl (fun _ => 0))), (u 9 7, .inl (k 0, 12, .inl (fun _ => 0))), (u 9 8, .inr (6, [.int 0, .int 0, .int (-1), .int 0, .int 0, .int 0, .ref (u 9 9), .ref (u 9 10), .ref (u 9 11), .ref (u 9 12), .ref (u 9 13), .ref (u 9 14), .ref (u 9 15), .ref (u 9 16), .ref (u 9 17)])), (u 9 9, .inl (k 0, 6, .inl (fun _ => 0))), (u 9 10, .inl (k 0, 9, .inl (fun _ => 0))), (u 9 11, .inl (k 0, 12, .inl (fun _ => 0))), (u 9 12, .inl (k 0, 12, .inl (fun _ => 0))), (u 9 13, .inl (k 0, 12, .inl (fun _ => 0))), (u 9 14, .inl (k 0, 12, .inl (fun _ => 0))), (u 9 15, .inl (k 0, 12, .inl (fun _ => 0))), (u 9 16, .inl (k 0, 12, .inl (fun _ => 0))), (u 9 17, .inl (k 0, 72, .inl (fun _ => 0))), (u 9 18, .inr (0, [.int 0, .int 0, .ref (u 9 19), .ref (u 9 20), .int 0, .ref (u 9 21), .int 0, .ref (u 9 22), .ref (u 9 23), .ref (u 9 24), .ref (u 9 25), .int 0, .ref (u 9 26), .ref (u 9 27), .ref (u 9 28), .ref (u 9 29), .ref (u 9 30)])), (u 9 19, .inl (k 0, 6, .inl (fun _ => 0))), (u 9 20, .inl (k 0, 36, .inl (fun _ => 0))), (u 9 21, .inl (k 0, 20, .inl (fun _ => 0))), (u 9 22, .inl (k 0, 20, .inl (fun _ => 0))), (u 9 23, .inl (k 0, 20, .inl (fun _ => 0))), (u 9 24, .inl (k 0, 20, .inl (fun _ => 0))), (u 9 25, .inl (k 0, 20, .inl (fun _ => 0))), (u 9 26, .inl (k 0, 12, .inl (fun _ => 0))), (u 9 27, .inl (k 0, 12, .inl (fun _ => 0))), (u 9 28, .inl (k 0, 12, .inl (fun _ => 0))), (u 9 29, .inl (k 0, 12, .inl (fun _ => 0))), (u 9 30, .inl (k 0, 360, .inl (fun _ => 0)))]) ++ ([] : va_W)) ++ ([] : va_W)) ++ ([] : va_W)) ++ ([] : va_W)) ++ ([] : va_W))) ++ [(y, .inr (10, [.int 0, .ref (v 1), .ref (v 2), .ref (v 3), .ref (v 4), .ref (v 5), .ref (v 6), .ref (v 7), .ref (v 8), .ref (v 9), .ref (v 10), .ref (v 11), .ref (v 12), .ref (v 13), .ref (v 14), .ref (v 15), .ref (v 16), .ref (v 17), .ref (v 18), .ref (v 19), .ref (v 20), .ref (v 21), .ref (v 22), .ref (v 23), .ref (v 24), .ref (v 25), .ref (v 26), .ref (v 27), .ref (v 28), .ref (v 29), .ref (v 30), .ref (v 31), .ref (v 32), .ref (v 33), .ref (v 34), .ref (v 35), .ref (v 36), .int 0, .int 0, .int 0, .int 0, .int 0, .int 0, .int 0, .int 0, .int 0, .int 13, .int 0, .ref (v 48), .ref (v 49), .ref (v 50), .ref (v 51), .ref (v 52), .ref (v 53), .ref (v 54), .ref (v 55), .ref (v 56), .ref (v 57), .ref (v 58), .ref (v 59), .ref (v 60), .int 0, .int 0, .int 0, .int 0, .int 0, .int 0, .int 0, .ref (v 68), .ref (v 69), .ref (v 70), .ref (v 71), .ref (v 72), .int 0, .int 0, .ref (v 75), .ref (v 76), .ref (v 77), .int 0, .int 0])), (v 1, .inl (k 0, 17, .inl (scal0))), (v 2, .inl (k 0, 9, .inl (fun _ => 0))), (v 3, .inl (k 0, 9, .inl (fun _ => 0))), (v 4, .inl (k 0, 4, .inl (fun _ => 0))), (v 5, .inl (k 0, 6, .inl (fun _ => 0))), (v 6, .inl (k 0, 6, .inl (fun _ => 0))), (v 7, .inl (k 0, 6, .inl (fun _ => 0))), (v 8, .inl (k 0, 36, .inl (fun _ => 0))), (v 9, .inl (k 0, 12, .inl (fun _ => 0))), (v 10, .inl (k 0, 12, .inl (fun _ => 0))), (v 11, .inl (k 0, 12, .inl (fun _ => 0))), (v 12, .inl (k 0, 12, .inl (fun _ => 0))), (v 13, .inl (k 0, 12, .inl (fun _ => 0))), (v 14, .inl (k 0, 12, .inl (fun _ => 0))), (v 15, .inl (k 0, 12, .inl (fun _ => 0))), (v 16, .inl (k 0, 12, .inl (fun _ => 0))), (v 17, .inl (k 0, 12, .inl (fun _ => 0))), (v 18, .inl (k 0, 72, .inl (fun _ => 0))), (v 19, .inl (k 0, 20, .inl (fun _ => 0))), (v 20, .inl (k 0, 20, .inl (fun _ => 0))), (v 21, .inl (k 0, 20, .inl (fun _ => 0))), (v 22, .inl (k 0, 20, .inl (fun _ => 0))), (v 23, .inl (k 0, 20, .inl (fun _ => 0))), (v 24, .inl (k 0, 12, .inl (fun _ => 0))), (v 25, .inl (k 0, 12, .inl (fun _ => 0))), (v 26, .inl (k 0, 12, .inl (fun _ => 0))), (v 27, .inl (k 0, 12, .inl (fun _ => 0))), (v 28, .inl (k 0, 360, .inl (fun _ => 0))), (v 76, .inl (k 0, 4500, .inl (fun _ => 0))), (v 77, .inl (k 2, 4, .inl (fun _ => 0)))]) : va_W) (G9n k x u ++ G10 k y v) := List.Sublist.append (List.Sublist.append (List.Sublist.cons₂ _ (List.Sublist.cons _ (List.Sublist.cons₂ _ (List.nil_sublist _)))) (List.Sublist.append (List.Sublist.append (List.Sublist.append (List.Sublist.append (List.Sublist.append (List.Sublist.append (List.Sublist.append (List.Sublist.append (List.Sublist.append (List.Sublist.append (List.Sublist.append (List.Sublist.append (List.Sublist.append (List.Sublist.append (List.Sublist.append (List.Sublist.append (List.Sublist.append (List.Sublist.append (List.Sublist.append (List.Sublist.refl ([] : va_W)) (List.nil_sublist _)) (List.nil_sublist _)) (List.nil_sublist _)) (List.nil_sublist _)) (List.nil_sublist _)) (List.nil_sublist _)) (List.nil_sublist _)) (List.nil_sublist _)) (List.nil_sublist _)) (List.Sublist.refl _)) (List.Sublist.cons₂ _ (List.Sublist.cons₂ _ (List.Sublist.cons₂ _ (List.Sublist.cons₂ _ (List.Sublist.cons₂ _ (List.Sublist.cons₂ _ (List.Sublist.cons₂ _ (List.Sublist.cons₂ _ (List.Sublist.cons₂ _ (List.Sublist.cons₂ _ (List.Sublist.cons₂ _ (List.Sublist.cons₂ _ (List.Sublist.cons₂ _ (List.Sublist.cons₂ _ (List.Sublist.cons₂ _ (List.Sublist.cons₂ _ (List.Sublist.cons₂ _ (List.Sublist.cons₂ _ (List.Sublist.cons₂ _ (List.Sublist.cons₂ _ (List.Sublist.cons₂ _ (List.Sublist.cons₂ _ (List.Sublist.cons₂ _ (List.Sublist.cons₂ _ (List.nil_sublist _)))))))))))))))))))))))))) (List.nil_sublist _)) (List.nil_sublist _)) (List.Sublist.refl _)) (List.nil_sublist _)) (List.nil_sublist _)) (List.nil_sublist _)) (List.nil_sublist _)) (List.nil_sublist _))) (List.Sublist.cons₂ _ (List.Sublist.cons₂ _ (List.Sublist.cons₂ _ (List.Sublist.cons₂ _ (List.Sublist.cons₂ _ (List.Sublist.cons₂ _ (List.Sublist.cons₂ _ (List.Sublist.cons₂ _ (List.Sublist.cons₂ _ (List.Sublist.cons₂ _ (List.Sublist.cons₂ _ (List.Sublist.cons₂ _ (List.Sublist.cons₂ _ (List.Sublist.cons₂ _ (List.Sublist.cons₂ _ (List.Sublist.cons₂ _ (List.Sublist.cons₂ _ (List.Sublist.cons₂ _ (List.Sublist.cons₂ _ (List.Sublist.cons₂ _ (List.Sublist.cons₂ _ (List.Sublist.cons₂ _ (List.Sublist.cons₂ _ (List.Sublist.cons₂ _ (List.Sublist.cons₂ _ (List.Sublist.cons₂ _ (List.Sublist.cons₂ _ (List.Sublist.cons₂ _ (List.Sublist.cons₂ _ (List.Sublist.cons _ (List.Sublist.cons _ (List.Sublist.cons _ (List.Sublist.cons _ (List.Sublist.cons _ (List.Sublist.cons _ (List.Sublist.cons _ (List.Sublist.cons _ (List.Sublist.cons _ (List.Sublist.cons _ (List.Sublist.cons _ (List.Sublist.cons _ (List.Sublist.cons _ (List.Sublist.cons _ (List.Sublist.cons _ (List.Sublist.cons _ (List.Sublist.cons _ (List.Sublist.cons _ (List.Sublist.cons _ (List.Sublist.cons _ (List.Sublist.cons _ (List.Sublist.cons _ (List.Sublist.cons _ (List.Sublist.cons _ (List.Sublist.cons _ (List.Sublist.cons _ (List.Sublist.cons _ (List.Sublist.cons₂ _ (List.Sublist.cons₂ _ (List.nil_sublist _)))))))))))))))))))))))))))))))))))))))))))))))))))))))))))
  have e : SW6 k x u y v = ((([(x, .inr (9, [.ref (u 0 0), .ref (u 0 1), .ref (u 0 2), .ref (u 0 3), .int 0, .ref (u 0 4), .ref (u 0 17), .ref (u 0 6), .ref (u 0 18), .ref (u 0 19), .ref (u 0 20), .ref (u 0 21)])), (u 0 6, .inl (k 4, 4, .inr (.inr (.inr (.inr (va_up (va_up (va_up (va_up (fun _ => none) 0 (some (u 0 13))) 1 (some (u 0 14))) 2 (some (u 0 15))) 3 (some (u 0 16))))))))] ++ (((((((((((((((((((([] : va_W) ++ ([] : va_W)) ++ ([] : va_W)) ++ ([] : va_W)) ++ ([] : va_W)) ++ ([] : va_W)) ++ ([] : va_W)) ++ ([] : va_W)) ++ ([] : va_W)) ++ ([] : va_W)) ++ [(u 0 5, .inr (2, [.int 0, .int 0, .int 0, .int 0, .int 0, .ref (u 6 0), .ref (u 6 1), .ref (u 6 2), .ref (u 6 3), .ref (u 6 4), .ref (u 6 5), .ref (u 6 6)])), (u 6 0, .inl (k 0, 6, .inl (fun _ => 0))), (u 6 1, .inl (k 0, 9, .inl (fun _ => 0))), (u 6 2, .inl (k 0, 4, .inl (fun _ => 0))), (u 6 3, .inl (k 0, 12, .inl (fun _ => 0))), (u 6 4, .inl (k 0, 12, .inl (fun _ => 0))), (u 6 5, .inl (k 0, 12, .inl (fun _ => 0))), (u 6 6, .inl (k 0, 12, .inl (fun _ => 0)))]) ++ [(u 0 4, .inr (8, [.ref (u 0 5), .ref (u 5 0), .ref (u 5 10), .ref (u 5 23), .ref (u 0 3), .ref (u 5 24), .ref (u 5 25), .ref (u 5 26), .int 0])), (u 5 0, .inr (6, [.int 0, .int 0, .int (-1), .int 0, .int 0, .int 0, .ref (u 5 1), .ref (u 5 2), .ref (u 5 3), .ref (u 5 4), .ref (u 5 5), .ref (u 5 6), .ref (u 5 7), .ref (u 5 8), .ref (u 5 9)])), (u 5 1, .inl (k 0, 6, .inl (fun _ => 0))), (u 5 2, .inl (k 0, 9, .inl (fun _ => 0))), (u 5 3, .inl (k 0, 12, .inl (fun _ => 0))), (u 5 4, .inl (k 0, 12, .inl (fun _ => 0))), (u 5 5, .inl (k 0, 12, .inl (fun _ => 0))), (u 5 6, .inl (k 0, 12, .inl (fun _ => 0))), (u 5 7, .inl (k 0, 12, .inl (fun _ => 0))), (u 5 8, .inl (k 0, 12, .inl (fun _ => 0))), (u 5 9, .inl (k 0, 72, .inl (fun _ => 0))), (u 5 10, .inr (0, [.int 0, .int 0, .ref (u 5 11), .ref (u 5 12), .int 0, .ref (u 5 13), .int 0, .ref (u 5 14), .ref (u 5 15), .ref (u 5 16), .ref (u 5 17), .int 0, .ref (u 5 18), .ref (u 5 19), .ref (u 5 20), .ref (u 5 21), .ref (u 5 22)])), (u 5 11, .inl (k 0, 6, .inl (fun _ => 0))), (u 5 12, .inl (k 0, 36, .inl (fun _ => 0))), (u 5 13, .inl (k 0, 20, .inl (fun _ => 0))), (u 5 14, .inl (k 0, 20, .inl (fun _ => 0))), (u 5 15, .inl (k 0, 20, .inl (fun _ => 0))), (u 5 16, .inl (k 0, 20, .inl (fun _ => 0))), (u 5 17, .inl (k 0, 20, .inl (fun _ => 0))), (u 5 18, .inl (k 0, 12, .inl (fun _ => 0))), (u 5 19, .inl (k 0, 12, .inl (fun _ => 0))), (u 5 20, .inl (k 0, 12, .inl (fun _ => 0))), (u 5 21, .inl (k 0, 12, .inl (fun _ => 0))), (u 5 22, .inl (k 0, 360, .inl (fun _ => 0)))]) ++ ([] : va_W)) ++ ([] : va_W)) ++ [(u 0 15, .inr (1, [.int 0, .ref (u 9 0), .ref (u 9 8), .ref (u 9 18)])), (u 9 0, .inr (2, [.int 0, .int 0, .int 0, .int 0, .int 0, .ref (u 9 1), .ref (u 9 2), .ref (u 9 3), .ref (u 9 4), .ref (u 9 5), .ref (u 9 6), .ref (u 9 7)])), (u 9 1, .inl (k 0, 6, .inl (fun _ => 0))), (u 9 2, .inl (k 0, 9, .inl (fun _ => 0))), (u 9 3, .inl (k 0, 4, .inl (fun _ => 0))), (u 9 4, .inl (k 0, 12, .inl (fun _ => 0))), (u 9 5, .inl (k 0, 12, .inl (fun _ => 0))), (u 9 6, .inl (k 0, 12, .inl (fun _ => 0))), (u 9 7, .inl (k 0, 12, .inl (fun _ => 0))), (u 9 8, .inr (6, [.int 0, .int 0, .int (-1), .int 0, .int 0, .int 0, .ref (u 9 9), .ref (u 9 10), .ref (u 9 11), .ref (u 9 12), .ref (u 9 13), .ref (u 9 14), .ref (u 9 15), .ref (u 9 16), .ref (u 9 17)])), (u 9 9, .inl (k 0, 6, .inl (fun _ => 0))), (u 9 10, .inl (k 0, 9, .inl (fun _ => 0))), (u 9 11, .inl (k 0, 12, .inl (fun _ => 0))), (u 9 12, .inl (k 0, 12, .inl (fun _ => 0))), (u 9 13, .inl (k 0, 12, .inl (fun _ => 0))), (u 9 14, .inl (k 0, 12, .inl (fun _ => 0))), (u 9 15, .inl (k 0, 12, .inl (fun _ => 0))), (u 9 16, .inl (k 0, 12, .inl (fun _ => 0))), (u 9 17, .inl (k 0, 72, .inl (fun _ => 0))), (u 9 18, .inr (0, [.int 0, .int 0, .ref (u 9 19), .ref (u 9 20), .int 0, .ref (u 9 21), .int 0, .ref (u 9 22), .ref (u 9 23), .ref (u 9 24), .ref (u 9 25), .int 0, .ref (u 9 26), .ref (u 9 27), .ref (u 9 28), .ref (u 9 29), .ref (u 9 30)])), (u 9 19, .inl (k 0, 6, .inl (fun _ => 0))), (u 9 20, .inl (k 0, 36, .inl (fun _ => 0))), (u 9 21, .inl (k 0, 20, .inl (fun _ => 0))), (u 9 22, .inl (k 0, 20, .inl (fun _ => 0))), (u 9 23, .inl (k 0, 20, .inl (fun _ => 0))), (u 9 24, .inl (k 0, 20, .inl (fun _ => 0))), (u 9 25, .inl (k 0, 20, .inl (fun _ => 0))), (u 9 26, .inl (k 0, 12, .inl (fun _ => 0))), (u 9 27, .inl (k 0, 12, .inl (fun _ => 0))), (u 9 28, .inl (k 0, 12, .inl (fun _ => 0))), (u 9 29, .inl (k 0, 12, .inl (fun _ => 0))), (u 9 30, .inl (k 0, 360, .inl (fun _ => 0)))]) ++ ([] : va_W)) ++ ([] : va_W)) ++ ([] : va_W)) ++ ([] : va_W)) ++ ([] : va_W))) ++ [(y, .inr (10, [.int 0, .ref (v 1), .ref (v 2), .ref (v 3), .ref (v 4), .ref (v 5), .ref (v 6), .ref (v 7), .ref (v 8), .ref (v 9), .ref (v 10), .ref (v 11), .ref (v 12), .ref (v 13), .ref (v 14), .ref (v 15), .ref (v 16), .ref (v 17), .ref (v 18), .ref (v 19), .ref (v 20), .ref (v 21), .ref (v 22), .ref (v 23), .ref (v 24), .ref (v 25), .ref (v 26), .ref (v 27), .ref (v 28), .ref (v 29), .ref (v 30), .ref (v 31), .ref (v 32), .ref (v 33), .ref (v 34), .ref (v 35), .ref (v 36), .int 0, .int 0, .int 0, .int 0, .int 0, .int 0, .int 0, .int 0, .int 0, .int 13, .int 0, .ref (v 48), .ref (v 49), .ref (v 50), .ref (v 51), .ref (v 52), .ref (v 53), .ref (v 54), .ref (v 55), .ref (v 56), .ref (v 57), .ref (v 58), .ref (v 59), .ref (v 60), .int 0, .int 0, .int 0, .int 0, .int 0, .int 0, .int 0, .ref (v 68), .ref (v 69), .ref (v 70), .ref (v 71), .ref (v 72), .int 0, .int 0, .ref (v 75), .ref (v 76), .ref (v 77), .int 0, .int 0])), (v 1, .inl (k 0, 17, .inl (scal0))), (v 2, .inl (k 0, 9, .inl (fun _ => 0))), (v 3, .inl (k 0, 9, .inl (fun _ => 0))), (v 4, .inl (k 0, 4, .inl (fun _ => 0))), (v 5, .inl (k 0, 6, .inl (fun _ => 0))), (v 6, .inl (k 0, 6, .inl (fun _ => 0))), (v 7, .inl (k 0, 6, .inl (fun _ => 0))), (v 8, .inl (k 0, 36, .inl (fun _ => 0))), (v 9, .inl (k 0, 12, .inl (fun _ => 0))), (v 10, .inl (k 0, 12, .inl (fun _ => 0))), (v 11, .inl (k 0, 12, .inl (fun _ => 0))), (v 12, .inl (k 0, 12, .inl (fun _ => 0))), (v 13, .inl (k 0, 12, .inl (fun _ => 0))), (v 14, .inl (k 0, 12, .inl (fun _ => 0))), (v 15, .inl (k 0, 12, .inl (fun _ => 0))), (v 16, .inl (k 0, 12, .inl (fun _ => 0))), (v 17, .inl (k 0, 12, .inl (fun _ => 0))), (v 18, .inl (k 0, 72, .inl (fun _ => 0))), (v 19, .inl (k 0, 20, .inl (fun _ => 0))), (v 20, .inl (k 0, 20, .inl (fun _ => 0))), (v 21, .inl (k 0, 20, .inl (fun _ => 0))), (v 22, .inl (k 0, 20, .inl (fun _ => 0))), (v 23, .inl (k 0, 20, .inl (fun _ => 0))), (v 24, .inl (k 0, 12, .inl (fun _ => 0))), (v 25, .inl (k 0, 12, .inl (fun _ => 0))), (v 26, .inl (k 0, 12, .inl (fun _ => 0))), (v 27, .inl (k 0, 12, .inl (fun _ => 0))), (v 28, .inl (k 0, 360, .inl (fun _ => 0))), (v 76, .inl (k 0, 4500, .inl (fun _ => 0))), (v 77, .inl (k 2, 4, .inl (fun _ => 0)))]) : va_W) := by simp only [SW6, List.nil_append, List.append_nil, List.cons_append]
  rw [e]
  exact h
set_option maxHeartbeats 4000000 in
set_option maxRecDepth 100000 in
/-- image -/
theorem lawm_image_2 {p : Program} {l : Launch} {e : Env} {s : State} {m : MethodId} {below : List Frame} {meth : Method} {c : Code} {D : va_G} {k : Nat → ClassId} {sd : Nat → Nat} {A : Nat → Prop} {b : Nat} {xs : Nat → Int32} {x y : Nat} {u : Nat → Nat → Nat} {v : Nat → Nat} {H : Heap} {locs : List Loc} {ls : Array Slot} (C : LC p s m meth c D k sd A b xs) (hP : va_P D vwCl (SW6 k x u y v) H) (hD : va_D A (SW6 k x u y v)) (hS : va_S A s.heap H locs) (hl : lv_has ls 4 [(0, .ref b), (1, .ref x), (2, .ref y), (3, .int 0)]) (hq : xs 1 = 2) : W p l e room_1 s m #[Value.ref b] below meth c H locs 287 18933 (lw_Z below #[Value.ref b] s) (F0 m 1520 ls []) := by
  obtain ⟨hx, hb, hr, hml, hown, hw, hXs, hbl, hlocks, hK, hE, hX, hA, hAr, hbA⟩ := id C
  refine lv_aload_n hx hb dL_law_1520 rfl (lv_at hl 1 rfl) ?_
  refine lv_aload_n hx hb dL_law_1521 rfl (lv_at hl 0 rfl) ?_
  refine lv_iload_n hx hb dL_law_1522 rfl (lv_at hl 3 rfl) ?_
  refine lv_iconst (v := 1) hx hb dL_law_1523 (by decide) ?_
  refine lv_iadd hx hb dL_law_1524 ?_
  refine x_top (v := 1) (by decide) ?_
  refine va_sld hx hb hXs hbl hbA hS (i := 1) (by unfold vp_in; decide) dL_law_1525 ?_
  refine x_top (v := 2) hq ?_
  refine x_i (wr := [(y, .inr (10, [.int 0, .ref (v 1), .ref (v 2), .ref (v 3), .ref (v 4), .ref (v 5), .ref (v 6), .ref (v 7), .ref (v 8), .ref (v 9), .ref (v 10), .ref (v 11), .ref (v 12), .ref (v 13), .ref (v 14), .ref (v 15), .ref (v 16), .ref (v 17), .ref (v 18), .ref (v 19), .ref (v 20), .ref (v 21), .ref (v 22), .ref (v 23), .ref (v 24), .ref (v 25), .ref (v 26), .ref (v 27), .ref (v 28), .ref (v 29), .ref (v 30), .ref (v 31), .ref (v 32), .ref (v 33), .ref (v 34), .ref (v 35), .ref (v 36), .int 0, .int 0, .int 0, .int 0, .int 0, .int 0, .int 0, .int 0, .int 0, .int 13, .int 0, .ref (v 48), .ref (v 49), .ref (v 50), .ref (v 51), .ref (v 52), .ref (v 53), .ref (v 54), .ref (v 55), .ref (v 56), .ref (v 57), .ref (v 58), .ref (v 59), .ref (v 60), .int 0, .int 0, .int 0, .int 0, .int 0, .int 0, .int 0, .ref (v 68), .ref (v 69), .ref (v 70), .ref (v 71), .ref (v 72), .int 0, .int 0, .ref (v 75), .ref (v 76), .ref (v 77), .int 0, .int 0])), (v 1, .inl (k 0, 17, .inl (scal0))), (v 2, .inl (k 0, 9, .inl (fun _ => 0))), (v 3, .inl (k 0, 9, .inl (fun _ => 0))), (v 4, .inl (k 0, 4, .inl (fun _ => 0))), (v 5, .inl (k 0, 6, .inl (fun _ => 0))), (v 6, .inl (k 0, 6, .inl (fun _ => 0))), (v 7, .inl (k 0, 6, .inl (fun _ => 0))), (v 8, .inl (k 0, 36, .inl (fun _ => 0))), (v 9, .inl (k 0, 12, .inl (fun _ => 0))), (v 10, .inl (k 0, 12, .inl (fun _ => 0))), (v 11, .inl (k 0, 12, .inl (fun _ => 0))), (v 12, .inl (k 0, 12, .inl (fun _ => 0))), (v 13, .inl (k 0, 12, .inl (fun _ => 0))), (v 14, .inl (k 0, 12, .inl (fun _ => 0))), (v 15, .inl (k 0, 12, .inl (fun _ => 0))), (v 16, .inl (k 0, 12, .inl (fun _ => 0))), (v 17, .inl (k 0, 12, .inl (fun _ => 0))), (v 18, .inl (k 0, 72, .inl (fun _ => 0))), (v 19, .inl (k 0, 20, .inl (fun _ => 0))), (v 20, .inl (k 0, 20, .inl (fun _ => 0))), (v 21, .inl (k 0, 20, .inl (fun _ => 0))), (v 22, .inl (k 0, 20, .inl (fun _ => 0))), (v 23, .inl (k 0, 20, .inl (fun _ => 0))), (v 24, .inl (k 0, 12, .inl (fun _ => 0))), (v 25, .inl (k 0, 12, .inl (fun _ => 0))), (v 26, .inl (k 0, 12, .inl (fun _ => 0))), (v 27, .inl (k 0, 12, .inl (fun _ => 0))), (v 28, .inl (k 0, 360, .inl (fun _ => 0))), (v 76, .inl (k 0, 4500, .inl (fun _ => 0))), (v 77, .inl (k 2, 4, .inl (fun _ => 0)))]) (va_runV (As := [.int 2]) (rest := []) ⟨hx, hb, hml, hown, hw⟩ (kX9_image_2 l D k sd x (u 0 0) (u 0 1) (u 0 2) (u 0 3) (u 0 4) (u 0 17) (u 0 6) (u 0 18) (u 0 19) (u 0 20) (u 0 21) (u 0 13) (u 0 14) (u 0 15) (u 0 16) (u 9 0) (u 9 8) (u 9 18) (u 0 5) (u 5 0) (u 5 10) (u 5 23) (u 0 3) (u 5 24) (u 5 25) (u 5 26) (u 9 1) (u 9 2) (u 9 3) (u 9 4) (u 9 5) (u 9 6) (u 9 7) (u 9 9) (u 9 10) (u 9 11) (u 9 12) (u 9 13) (u 9 14) (u 9 15) (u 9 16) (u 9 17) (u 9 19) (u 9 20) (u 9 21) (u 9 22) (u 9 23) (u 9 24) (u 9 25) (u 9 26) (u 9 27) (u 9 28) (u 9 29) (u 9 30) (u 6 0) (u 6 1) (u 6 2) (u 6 3) (u 6 4) (u 6 5) (u 6 6) (u 5 1) (u 5 2) (u 5 3) (u 5 4) (u 5 5) (u 5 6) (u 5 7) (u 5 8) (u 5 9) (u 5 11) (u 5 12) (u 5 13) (u 5 14) (u 5 15) (u 5 16) (u 5 17) (u 5 18) (u 5 19) (u 5 20) (u 5 21) (u 5 22) H.size) (cwV 1 hw (gV wd_1107 wd_1108 wd_1109 wd_1 wd_1110) rfl rfl rfl (by decide +kernel) ⟨Nat.le_of_ble_eq_true rfl, Nat.le_of_ble_eq_true rfl⟩) (pre_V (ci := 9) (r := (RX9, TX9, 12)) hK hE hX hP hD hS hA [0, 1, 34, 10, 35, 36, 37, 38, 39, 40, 41, 42, 43, 44, 45, 46, 47, 48, 49, 50, 51, 52, 53, 54, 55, 56, 57, 58, 59, 60, 61, 62, 63, 64, 65, 2, 3, 4, 5, 6, 7, 8, 9, 11, 12, 13, 14, 15, 16, 17, 18, 19, 20, 21, 22, 23, 24, 25, 26, 27, 28, 29, 30, 31, 32, 33] (by decide) rfl rfl (q0 := 0) rfl) rfl rfl hl.1 rfl (lv_room (Nat.le_of_ble_eq_true rfl)) dL_law_1526 ⟨Nat.le_of_ble_eq_true rfl, Nat.le_of_ble_eq_true rfl⟩) hP hD hS hA [0, 1, 34, 10, 35, 36, 37, 38, 39, 40, 41, 42, 43, 44, 45, 46, 47, 48, 49, 50, 51, 52, 53, 54, 55, 56, 57, 58, 59, 60, 61, 62, 63, 64, 65, 2, 3, 4, 5, 6, 7, 8, 9, 11, 12, 13, 14, 15, 16, 17, 18, 19, 20, 21, 22, 23, 24, 25, 26, 27, 28, 29, 30, 31, 32, 33] [66, 67, 68, 69, 70, 71, 72, 73, 74, 75, 76, 77, 78, 79, 80, 81, 82, 83, 84, 85, 86, 87, 88, 89, 90, 91, 92, 93, 94, 95, 96] rfl rfl (by decide) (by decide) (fun r_3 u_1 H locs hp_2 hP hD hS => ?_)
  subst hp_2
  have hP : va_P D vwCl ([(y, .inr (10, [.int 0, .ref (v 1), .ref (v 2), .ref (v 3), .ref (v 4), .ref (v 5), .ref (v 6), .ref (v 7), .ref (v 8), .ref (v 9), .ref (v 10), .ref (v 11), .ref (v 12), .ref (v 13), .ref (v 14), .ref (v 15), .ref (v 16), .ref (v 17), .ref (v 18), .ref (v 19), .ref (v 20), .ref (v 21), .ref (v 22), .ref (v 23), .ref (v 24), .ref (v 25), .ref (v 26), .ref (v 27), .ref (v 28), .ref (v 29), .ref (v 30), .ref (v 31), .ref (v 32), .ref (v 33), .ref (v 34), .ref (v 35), .ref (v 36), .int 0, .int 0, .int 0, .int 0, .int 0, .int 0, .int 0, .int 0, .int 0, .int 13, .int 0, .ref (v 48), .ref (v 49), .ref (v 50), .ref (v 51), .ref (v 52), .ref (v 53), .ref (v 54), .ref (v 55), .ref (v 56), .ref (v 57), .ref (v 58), .ref (v 59), .ref (v 60), .int 0, .int 0, .int 0, .int 0, .int 0, .int 0, .int 0, .ref (v 68), .ref (v 69), .ref (v 70), .ref (v 71), .ref (v 72), .int 0, .int 0, .ref (v 75), .ref (v 76), .ref (v 77), .int 0, .int 0])), (v 1, .inl (k 0, 17, .inl (scal0))), (v 2, .inl (k 0, 9, .inl (fun _ => 0))), (v 3, .inl (k 0, 9, .inl (fun _ => 0))), (v 4, .inl (k 0, 4, .inl (fun _ => 0))), (v 5, .inl (k 0, 6, .inl (fun _ => 0))), (v 6, .inl (k 0, 6, .inl (fun _ => 0))), (v 7, .inl (k 0, 6, .inl (fun _ => 0))), (v 8, .inl (k 0, 36, .inl (fun _ => 0))), (v 9, .inl (k 0, 12, .inl (fun _ => 0))), (v 10, .inl (k 0, 12, .inl (fun _ => 0))), (v 11, .inl (k 0, 12, .inl (fun _ => 0))), (v 12, .inl (k 0, 12, .inl (fun _ => 0))), (v 13, .inl (k 0, 12, .inl (fun _ => 0))), (v 14, .inl (k 0, 12, .inl (fun _ => 0))), (v 15, .inl (k 0, 12, .inl (fun _ => 0))), (v 16, .inl (k 0, 12, .inl (fun _ => 0))), (v 17, .inl (k 0, 12, .inl (fun _ => 0))), (v 18, .inl (k 0, 72, .inl (fun _ => 0))), (v 19, .inl (k 0, 20, .inl (fun _ => 0))), (v 20, .inl (k 0, 20, .inl (fun _ => 0))), (v 21, .inl (k 0, 20, .inl (fun _ => 0))), (v 22, .inl (k 0, 20, .inl (fun _ => 0))), (v 23, .inl (k 0, 20, .inl (fun _ => 0))), (v 24, .inl (k 0, 12, .inl (fun _ => 0))), (v 25, .inl (k 0, 12, .inl (fun _ => 0))), (v 26, .inl (k 0, 12, .inl (fun _ => 0))), (v 27, .inl (k 0, 12, .inl (fun _ => 0))), (v 28, .inl (k 0, 360, .inl (fun _ => 0))), (v 76, .inl (k 0, 4500, .inl (fun _ => 0))), (v 77, .inl (k 2, 4, .inl (fun _ => 0)))]) H := hP
  have hD : va_D A ([(y, .inr (10, [.int 0, .ref (v 1), .ref (v 2), .ref (v 3), .ref (v 4), .ref (v 5), .ref (v 6), .ref (v 7), .ref (v 8), .ref (v 9), .ref (v 10), .ref (v 11), .ref (v 12), .ref (v 13), .ref (v 14), .ref (v 15), .ref (v 16), .ref (v 17), .ref (v 18), .ref (v 19), .ref (v 20), .ref (v 21), .ref (v 22), .ref (v 23), .ref (v 24), .ref (v 25), .ref (v 26), .ref (v 27), .ref (v 28), .ref (v 29), .ref (v 30), .ref (v 31), .ref (v 32), .ref (v 33), .ref (v 34), .ref (v 35), .ref (v 36), .int 0, .int 0, .int 0, .int 0, .int 0, .int 0, .int 0, .int 0, .int 0, .int 13, .int 0, .ref (v 48), .ref (v 49), .ref (v 50), .ref (v 51), .ref (v 52), .ref (v 53), .ref (v 54), .ref (v 55), .ref (v 56), .ref (v 57), .ref (v 58), .ref (v 59), .ref (v 60), .int 0, .int 0, .int 0, .int 0, .int 0, .int 0, .int 0, .ref (v 68), .ref (v 69), .ref (v 70), .ref (v 71), .ref (v 72), .int 0, .int 0, .ref (v 75), .ref (v 76), .ref (v 77), .int 0, .int 0])), (v 1, .inl (k 0, 17, .inl (scal0))), (v 2, .inl (k 0, 9, .inl (fun _ => 0))), (v 3, .inl (k 0, 9, .inl (fun _ => 0))), (v 4, .inl (k 0, 4, .inl (fun _ => 0))), (v 5, .inl (k 0, 6, .inl (fun _ => 0))), (v 6, .inl (k 0, 6, .inl (fun _ => 0))), (v 7, .inl (k 0, 6, .inl (fun _ => 0))), (v 8, .inl (k 0, 36, .inl (fun _ => 0))), (v 9, .inl (k 0, 12, .inl (fun _ => 0))), (v 10, .inl (k 0, 12, .inl (fun _ => 0))), (v 11, .inl (k 0, 12, .inl (fun _ => 0))), (v 12, .inl (k 0, 12, .inl (fun _ => 0))), (v 13, .inl (k 0, 12, .inl (fun _ => 0))), (v 14, .inl (k 0, 12, .inl (fun _ => 0))), (v 15, .inl (k 0, 12, .inl (fun _ => 0))), (v 16, .inl (k 0, 12, .inl (fun _ => 0))), (v 17, .inl (k 0, 12, .inl (fun _ => 0))), (v 18, .inl (k 0, 72, .inl (fun _ => 0))), (v 19, .inl (k 0, 20, .inl (fun _ => 0))), (v 20, .inl (k 0, 20, .inl (fun _ => 0))), (v 21, .inl (k 0, 20, .inl (fun _ => 0))), (v 22, .inl (k 0, 20, .inl (fun _ => 0))), (v 23, .inl (k 0, 20, .inl (fun _ => 0))), (v 24, .inl (k 0, 12, .inl (fun _ => 0))), (v 25, .inl (k 0, 12, .inl (fun _ => 0))), (v 26, .inl (k 0, 12, .inl (fun _ => 0))), (v 27, .inl (k 0, 12, .inl (fun _ => 0))), (v 28, .inl (k 0, 360, .inl (fun _ => 0))), (v 76, .inl (k 0, 4500, .inl (fun _ => 0))), (v 77, .inl (k 2, 4, .inl (fun _ => 0)))]) := hD
  refine lv_aload_n hx hb dL_law_1529 rfl (lv_at hl 2 rfl) ?_
  refine lv_aload_n hx hb dL_law_1530 rfl (lv_at hl 0 rfl) ?_
  refine lv_iload_n hx hb dL_law_1531 rfl (lv_at hl 3 rfl) ?_
  refine lv_iconst (v := 1) hx hb dL_law_1532 (by decide) ?_
  refine lv_iadd hx hb dL_law_1533 ?_
  refine x_top (v := 1) (by decide) ?_
  refine va_sld hx hb hXs hbl hbA hS (i := 1) (by unfold vp_in; decide) dL_law_1534 ?_
  refine x_top (v := 2) hq ?_
  refine x_i (wr := ([] : va_W)) (va_runV (As := [.int 2]) (rest := [.int 0]) ⟨hx, hb, hml, hown, hw⟩ (kX10_image_2 l D k sd y v  H.size) (cwV 1 hw (gV wd_1966 wd_1967 wd_1968 wd_11 wd_1969) rfl rfl rfl (by decide +kernel) ⟨Nat.le_of_ble_eq_true rfl, Nat.le_of_ble_eq_true rfl⟩) (pre_V (ci := 10) (r := (RX10, TX10, 80)) hK hE hX hP hD hS hA [0, 1, 2, 3, 4, 5, 6, 7, 8, 9, 10, 11, 12, 13, 14, 15, 16, 17, 18, 19, 20, 21, 22, 23, 24, 25, 26, 27, 28, 29, 30] (by decide) rfl rfl (q0 := 0) rfl) rfl rfl hl.1 rfl (lv_room (Nat.le_of_ble_eq_true rfl)) dL_law_1535 ⟨Nat.le_of_ble_eq_true rfl, Nat.le_of_ble_eq_true rfl⟩) hP hD hS hA [0, 1, 2, 3, 4, 5, 6, 7, 8, 9, 10, 11, 12, 13, 14, 15, 16, 17, 18, 19, 20, 21, 22, 23, 24, 25, 26, 27, 28, 29, 30] [] rfl rfl (by decide) (by decide) (fun r_6 u_4 H locs hp_5 hP hD hS => ?_)
  subst hp_5
  have hP : va_P D vwCl (([] : va_W)) H := hP
  have hD : va_D A (([] : va_W)) := hD
  refine lv_icmp_eq (tgt := 1566) hx hb dL_law_1538 (by decide) (fun _ => ?_) (fun h => absurd (by decide) h)
  exact law_end C hS (lv_sub hl [0, 1, 2, 3] rfl)
def SW7 (k : Nat → ClassId) (x : Nat) (u : Nat → Nat → Nat) (y : Nat) (v : Nat → Nat) : va_W := [(x, .inr (9, [.ref (u 0 0), .ref (u 0 1), .ref (u 0 2), .ref (u 0 3), .int 0, .ref (u 0 4), .ref (u 0 17), .ref (u 0 6), .ref (u 0 18), .ref (u 0 19), .ref (u 0 20), .ref (u 0 21)])), (u 0 6, .inl (k 4, 4, .inr (.inr (.inr (.inr (va_up (va_up (va_up (va_up (fun _ => none) 0 (some (u 0 13))) 1 (some (u 0 14))) 2 (some (u 0 15))) 3 (some (u 0 16)))))))), (u 0 5, .inr (2, [.int 0, .int 0, .int 0, .int 0, .int 0, .ref (u 6 0), .ref (u 6 1), .ref (u 6 2), .ref (u 6 3), .ref (u 6 4), .ref (u 6 5), .ref (u 6 6)])), (u 6 0, .inl (k 0, 6, .inl (fun _ => 0))), (u 6 1, .inl (k 0, 9, .inl (fun _ => 0))), (u 6 2, .inl (k 0, 4, .inl (fun _ => 0))), (u 6 3, .inl (k 0, 12, .inl (fun _ => 0))), (u 6 4, .inl (k 0, 12, .inl (fun _ => 0))), (u 6 5, .inl (k 0, 12, .inl (fun _ => 0))), (u 6 6, .inl (k 0, 12, .inl (fun _ => 0))), (u 0 4, .inr (8, [.ref (u 0 5), .ref (u 5 0), .ref (u 5 10), .ref (u 5 23), .ref (u 0 3), .ref (u 5 24), .ref (u 5 25), .ref (u 5 26), .int 0])), (u 5 0, .inr (6, [.int 0, .int 0, .int (-1), .int 0, .int 0, .int 0, .ref (u 5 1), .ref (u 5 2), .ref (u 5 3), .ref (u 5 4), .ref (u 5 5), .ref (u 5 6), .ref (u 5 7), .ref (u 5 8), .ref (u 5 9)])), (u 5 1, .inl (k 0, 6, .inl (fun _ => 0))), (u 5 2, .inl (k 0, 9, .inl (fun _ => 0))), (u 5 3, .inl (k 0, 12, .inl (fun _ => 0))), (u 5 4, .inl (k 0, 12, .inl (fun _ => 0))), (u 5 5, .inl (k 0, 12, .inl (fun _ => 0))), (u 5 6, .inl (k 0, 12, .inl (fun _ => 0))), (u 5 7, .inl (k 0, 12, .inl (fun _ => 0))), (u 5 8, .inl (k 0, 12, .inl (fun _ => 0))), (u 5 9, .inl (k 0, 72, .inl (fun _ => 0))), (u 5 10, .inr (0, [.int 0, .int 0, .ref (u 5 11), .ref (u 5 12), .int 0, .ref (u 5 13), .int 0, .ref (u 5 14), .ref (u 5 15), .ref (u 5 16), .ref (u 5 17), .int 0, .ref (u 5 18), .ref (u 5 19), .ref (u 5 20), .ref (u 5 21), .ref (u 5 22)])), (u 5 11, .inl (k 0, 6, .inl (fun _ => 0))), (u 5 12, .inl (k 0, 36, .inl (fun _ => 0))), (u 5 13, .inl (k 0, 20, .inl (fun _ => 0))), (u 5 14, .inl (k 0, 20, .inl (fun _ => 0))), (u 5 15, .inl (k 0, 20, .inl (fun _ => 0))), (u 5 16, .inl (k 0, 20, .inl (fun _ => 0))), (u 5 17, .inl (k 0, 20, .inl (fun _ => 0))), (u 5 18, .inl (k 0, 12, .inl (fun _ => 0))), (u 5 19, .inl (k 0, 12, .inl (fun _ => 0))), (u 5 20, .inl (k 0, 12, .inl (fun _ => 0))), (u 5 21, .inl (k 0, 12, .inl (fun _ => 0))), (u 5 22, .inl (k 0, 360, .inl (fun _ => 0))), (u 0 16, .inr (1, [.int 0, .ref (u 10 0), .ref (u 10 8), .ref (u 10 18)])), (u 10 0, .inr (2, [.int 0, .int 0, .int 0, .int 0, .int 0, .ref (u 10 1), .ref (u 10 2), .ref (u 10 3), .ref (u 10 4), .ref (u 10 5), .ref (u 10 6), .ref (u 10 7)])), (u 10 1, .inl (k 0, 6, .inl (fun _ => 0))), (u 10 2, .inl (k 0, 9, .inl (fun _ => 0))), (u 10 3, .inl (k 0, 4, .inl (fun _ => 0))), (u 10 4, .inl (k 0, 12, .inl (fun _ => 0))), (u 10 5, .inl (k 0, 12, .inl (fun _ => 0))), (u 10 6, .inl (k 0, 12, .inl (fun _ => 0))), (u 10 7, .inl (k 0, 12, .inl (fun _ => 0))), (u 10 8, .inr (6, [.int 0, .int 0, .int (-1), .int 0, .int 0, .int 0, .ref (u 10 9), .ref (u 10 10), .ref (u 10 11), .ref (u 10 12), .ref (u 10 13), .ref (u 10 14), .ref (u 10 15), .ref (u 10 16), .ref (u 10 17)])), (u 10 9, .inl (k 0, 6, .inl (fun _ => 0))), (u 10 10, .inl (k 0, 9, .inl (fun _ => 0))), (u 10 11, .inl (k 0, 12, .inl (fun _ => 0))), (u 10 12, .inl (k 0, 12, .inl (fun _ => 0))), (u 10 13, .inl (k 0, 12, .inl (fun _ => 0))), (u 10 14, .inl (k 0, 12, .inl (fun _ => 0))), (u 10 15, .inl (k 0, 12, .inl (fun _ => 0))), (u 10 16, .inl (k 0, 12, .inl (fun _ => 0))), (u 10 17, .inl (k 0, 72, .inl (fun _ => 0))), (u 10 18, .inr (0, [.int 0, .int 0, .ref (u 10 19), .ref (u 10 20), .int 0, .ref (u 10 21), .int 0, .ref (u 10 22), .ref (u 10 23), .ref (u 10 24), .ref (u 10 25), .int 0, .ref (u 10 26), .ref (u 10 27), .ref (u 10 28), .ref (u 10 29), .ref (u 10 30)])), (u 10 19, .inl (k 0, 6, .inl (fun _ => 0))), (u 10 20, .inl (k 0, 36, .inl (fun _ => 0))), (u 10 21, .inl (k 0, 20, .inl (fun _ => 0))), (u 10 22, .inl (k 0, 20, .inl (fun _ => 0))), (u 10 23, .inl (k 0, 20, .inl (fun _ => 0))), (u 10 24, .inl (k 0, 20, .inl (fun _ => 0))), (u 10 25, .inl (k 0, 20, .inl (fun _ => 0))), (u 10 26, .inl (k 0, 12, .inl (fun _ => 0))), (u 10 27, .inl (k 0, 12, .inl (fun _ => 0))), (u 10 28, .inl (k 0, 12, .inl (fun _ => 0))), (u 10 29, .inl (k 0, 12, .inl (fun _ => 0))), (u 10 30, .inl (k 0, 360, .inl (fun _ => 0))), (y, .inr (10, [.int 0, .ref (v 1), .ref (v 2), .ref (v 3), .ref (v 4), .ref (v 5), .ref (v 6), .ref (v 7), .ref (v 8), .ref (v 9), .ref (v 10), .ref (v 11), .ref (v 12), .ref (v 13), .ref (v 14), .ref (v 15), .ref (v 16), .ref (v 17), .ref (v 18), .ref (v 19), .ref (v 20), .ref (v 21), .ref (v 22), .ref (v 23), .ref (v 24), .ref (v 25), .ref (v 26), .ref (v 27), .ref (v 28), .ref (v 29), .ref (v 30), .ref (v 31), .ref (v 32), .ref (v 33), .ref (v 34), .ref (v 35), .ref (v 36), .int 0, .int 0, .int 0, .int 0, .int 0, .int 0, .int 0, .int 0, .int 0, .int 13, .int 0, .ref (v 48), .ref (v 49), .ref (v 50), .ref (v 51), .ref (v 52), .ref (v 53), .ref (v 54), .ref (v 55), .ref (v 56), .ref (v 57), .ref (v 58), .ref (v 59), .ref (v 60), .int 0, .int 0, .int 0, .int 0, .int 0, .int 0, .int 0, .ref (v 68), .ref (v 69), .ref (v 70), .ref (v 71), .ref (v 72), .int 0, .int 0, .ref (v 75), .ref (v 76), .ref (v 77), .int 0, .int 0])), (v 1, .inl (k 0, 17, .inl (scal0))), (v 2, .inl (k 0, 9, .inl (fun _ => 0))), (v 3, .inl (k 0, 9, .inl (fun _ => 0))), (v 4, .inl (k 0, 4, .inl (fun _ => 0))), (v 5, .inl (k 0, 6, .inl (fun _ => 0))), (v 6, .inl (k 0, 6, .inl (fun _ => 0))), (v 7, .inl (k 0, 6, .inl (fun _ => 0))), (v 8, .inl (k 0, 36, .inl (fun _ => 0))), (v 9, .inl (k 0, 12, .inl (fun _ => 0))), (v 10, .inl (k 0, 12, .inl (fun _ => 0))), (v 11, .inl (k 0, 12, .inl (fun _ => 0))), (v 12, .inl (k 0, 12, .inl (fun _ => 0))), (v 13, .inl (k 0, 12, .inl (fun _ => 0))), (v 14, .inl (k 0, 12, .inl (fun _ => 0))), (v 15, .inl (k 0, 12, .inl (fun _ => 0))), (v 16, .inl (k 0, 12, .inl (fun _ => 0))), (v 17, .inl (k 0, 12, .inl (fun _ => 0))), (v 18, .inl (k 0, 72, .inl (fun _ => 0))), (v 19, .inl (k 0, 20, .inl (fun _ => 0))), (v 20, .inl (k 0, 20, .inl (fun _ => 0))), (v 21, .inl (k 0, 20, .inl (fun _ => 0))), (v 22, .inl (k 0, 20, .inl (fun _ => 0))), (v 23, .inl (k 0, 20, .inl (fun _ => 0))), (v 24, .inl (k 0, 12, .inl (fun _ => 0))), (v 25, .inl (k 0, 12, .inl (fun _ => 0))), (v 26, .inl (k 0, 12, .inl (fun _ => 0))), (v 27, .inl (k 0, 12, .inl (fun _ => 0))), (v 28, .inl (k 0, 360, .inl (fun _ => 0))), (v 76, .inl (k 0, 4500, .inl (fun _ => 0))), (v 77, .inl (k 2, 4, .inl (fun _ => 0)))]
set_option maxRecDepth 100000 in
theorem sub_7 (k : Nat → ClassId) (x : Nat) (u : Nat → Nat → Nat) (y : Nat) (v : Nat → Nat) : List.Sublist (SW7 k x u y v) (G9n k x u ++ G10 k y v) := by
  have h : List.Sublist ((([(x, .inr (9, [.ref (u 0 0), .ref (u 0 1), .ref (u 0 2), .ref (u 0 3), .int 0, .ref (u 0 4), .ref (u 0 17), .ref (u 0 6), .ref (u 0 18), .ref (u 0 19), .ref (u 0 20), .ref (u 0 21)])), (u 0 6, .inl (k 4, 4, .inr (.inr (.inr (.inr (va_up (va_up (va_up (va_up (fun _ => none) 0 (some (u 0 13))) 1 (some (u 0 14))) 2 (some (u 0 15))) 3 (some (u 0 16))))))))] ++ (((((((((((((((((((([] : va_W) ++ ([] : va_W)) ++ ([] : va_W)) ++ ([] : va_W)) ++ ([] : va_W)) ++ ([] : va_W)) ++ ([] : va_W)) ++ ([] : va_W)) ++ ([] : va_W)) ++ ([] : va_W)) ++ [(u 0 5, .inr (2, [.int 0, .int 0, .int 0, .int 0, .int 0, .ref (u 6 0), .ref (u 6 1), .ref (u 6 2), .ref (u 6 3), .ref (u 6 4), .ref (u 6 5), .ref (u 6 6)])), (u 6 0, .inl (k 0, 6, .inl (fun _ => 0))), (u 6 1, .inl (k 0, 9, .inl (fun _ => 0))), (u 6 2, .inl (k 0, 4, .inl (fun _ => 0))), (u 6 3, .inl (k 0, 12, .inl (fun _ => 0))), (u 6 4, .inl (k 0, 12, .inl (fun _ => 0))), (u 6 5, .inl (k 0, 12, .inl (fun _ => 0))), (u 6 6, .inl (k 0, 12, .inl (fun _ => 0)))]) ++ [(u 0 4, .inr (8, [.ref (u 0 5), .ref (u 5 0), .ref (u 5 10), .ref (u 5 23), .ref (u 0 3), .ref (u 5 24), .ref (u 5 25), .ref (u 5 26), .int 0])), (u 5 0, .inr (6, [.int 0, .int 0, .int (-1), .int 0, .int 0, .int 0, .ref (u 5 1), .ref (u 5 2), .ref (u 5 3), .ref (u 5 4), .ref (u 5 5), .ref (u 5 6), .ref (u 5 7), .ref (u 5 8), .ref (u 5 9)])), (u 5 1, .inl (k 0, 6, .inl (fun _ => 0))), (u 5 2, .inl (k 0, 9, .inl (fun _ => 0))), (u 5 3, .inl (k 0, 12, .inl (fun _ => 0))), (u 5 4, .inl (k 0, 12, .inl (fun _ => 0))), (u 5 5, .inl (k 0, 12, .inl (fun _ => 0))), (u 5 6, .inl (k 0, 12, .inl (fun _ => 0))), (u 5 7, .inl (k 0, 12, .inl (fun _ => 0))), (u 5 8, .inl (k 0, 12, .inl (fun _ => 0))), (u 5 9, .inl (k 0, 72, .inl (fun _ => 0))), (u 5 10, .inr (0, [.int 0, .int 0, .ref (u 5 11), .ref (u 5 12), .int 0, .ref (u 5 13), .int 0, .ref (u 5 14), .ref (u 5 15), .ref (u 5 16), .ref (u 5 17), .int 0, .ref (u 5 18), .ref (u 5 19), .ref (u 5 20), .ref (u 5 21), .ref (u 5 22)])), (u 5 11, .inl (k 0, 6, .inl (fun _ => 0))), (u 5 12, .inl (k 0, 36, .inl (fun _ => 0))), (u 5 13, .inl (k 0, 20, .inl (fun _ => 0))), (u 5 14, .inl (k 0, 20, .inl (fun _ => 0))), (u 5 15, .inl (k 0, 20, .inl (fun _ => 0))), (u 5 16, .inl (k 0, 20, .inl (fun _ => 0))), (u 5 17, .inl (k 0, 20, .inl (fun _ => 0))), (u 5 18, .inl (k 0, 12, .inl (fun _ => 0))), (u 5 19, .inl (k 0, 12, .inl (fun _ => 0))), (u 5 20, .inl (k 0, 12, .inl (fun _ => 0))), (u 5 21, .inl (k 0, 12, .inl (fun _ => 0))), (u 5 22, .inl (k 0, 360, .inl (fun _ => 0)))]) ++ ([] : va_W)) ++ ([] : va_W)) ++ ([] : va_W)) ++ [(u 0 16, .inr (1, [.int 0, .ref (u 10 0), .ref (u 10 8), .ref (u 10 18)])), (u 10 0, .inr (2, [.int 0, .int 0, .int 0, .int 0, .int 0, .ref (u 10 1), .ref (u 10 2), .ref (u 10 3), .ref (u 10 4), .ref (u 10 5), .ref (u 10 6), .ref (u 10 7)])), (u 10 1, .inl (k 0, 6, .inl (fun _ => 0))), (u 10 2, .inl (k 0, 9, .inl (fun _ => 0))), (u 10 3, .inl (k 0, 4, .inl (fun _ => 0))), (u 10 4, .inl (k 0, 12, .inl (fun _ => 0))), (u 10 5, .inl (k 0, 12, .inl (fun _ => 0))), (u 10 6, .inl (k 0, 12, .inl (fun _ => 0))), (u 10 7, .inl (k 0, 12, .inl (fun _ => 0))), (u 10 8, .inr (6, [.int 0, .int 0, .int (-1), .int 0, .int 0, .int 0, .ref (u 10 9), .ref (u 10 10), .ref (u 10 11), .ref (u 10 12), .ref (u 10 13), .ref (u 10 14), .ref (u 10 15), .ref (u 10 16), .ref (u 10 17)])), (u 10 9, .inl (k 0, 6, .inl (fun _ => 0))), (u 10 10, .inl (k 0, 9, .inl (fun _ => 0))), (u 10 11, .inl (k 0, 12, .inl (fun _ => 0))), (u 10 12, .inl (k 0, 12, .inl (fun _ => 0))), (u 10 13, .inl (k 0, 12, .inl (fun _ => 0))), (u 10 14, .inl (k 0, 12, .inl (fun _ => 0))), (u 10 15, .inl (k 0, 12, .inl (fun _ => 0))), (u 10 16, .inl (k 0, 12, .inl (fun _ => 0))), (u 10 17, .inl (k 0, 72, .inl (fun _ => 0))), (u 10 18, .inr (0, [.int 0, .int 0, .ref (u 10 19), .ref (u 10 20), .int 0, .ref (u 10 21), .int 0, .ref (u 10 22), .ref (u 10 23), .ref (u 10 24), .ref (u 10 25), .int 0, .ref (u 10 26), .ref (u 10 27), .ref (u 10 28), .ref (u 10 29), .ref (u 10 30)])), (u 10 19, .inl (k 0, 6, .inl (fun _ => 0))), (u 10 20, .inl (k 0, 36, .inl (fun _ => 0))), (u 10 21, .inl (k 0, 20, .inl (fun _ => 0))), (u 10 22, .inl (k 0, 20, .inl (fun _ => 0))), (u 10 23, .inl (k 0, 20, .inl (fun _ => 0))), (u 10 24, .inl (k 0, 20, .inl (fun _ => 0))), (u 10 25, .inl (k 0, 20, .inl (fun _ => 0))), (u 10 26, .inl (k 0, 12, .inl (fun _ => 0))), (u 10 27, .inl (k 0, 12, .inl (fun _ => 0))), (u 10 28, .inl (k 0, 12, .inl (fun _ => 0))), (u 10 29, .inl (k 0, 12, .inl (fun _ => 0))), (u 10 30, .inl (k 0, 360, .inl (fun _ => 0)))]) ++ ([] : va_W)) ++ ([] : va_W)) ++ ([] : va_W)) ++ ([] : va_W))) ++ [(y, .inr (10, [.int 0, .ref (v 1), .ref (v 2), .ref (v 3), .ref (v 4), .ref (v 5), .ref (v 6), .ref (v 7), .ref (v 8), .ref (v 9), .ref (v 10), .ref (v 11), .ref (v 12), .ref (v 13), .ref (v 14), .ref (v 15), .ref (v 16), .ref (v 17), .ref (v 18), .ref (v 19), .ref (v 20), .ref (v 21), .ref (v 22), .ref (v 23), .ref (v 24), .ref (v 25), .ref (v 26), .ref (v 27), .ref (v 28), .ref (v 29), .ref (v 30), .ref (v 31), .ref (v 32), .ref (v 33), .ref (v 34), .ref (v 35), .ref (v 36), .int 0, .int 0, .int 0, .int 0, .int 0, .int 0, .int 0, .int 0, .int 0, .int 13, .int 0, .ref (v 48), .ref (v 49), .ref (v 50), .ref (v 51), .ref (v 52), .ref (v 53), .ref (v 54), .ref (v 55), .ref (v 56), .ref (v 57), .ref (v 58), .ref (v 59), .ref (v 60), .int 0, .int 0, .int 0, .int 0, .int 0, .int 0, .int 0, .ref (v 68), .ref (v 69), .ref (v 70), .ref (v 71), .ref (v 72), .int 0, .int 0, .ref (v 75), .ref (v 76), .ref (v 77), .int 0, .int 0])), (v 1, .inl (k 0, 17, .inl (scal0))), (v 2, .inl (k 0, 9, .inl (fun _ => 0))), (v 3, .inl (k 0, 9, .inl (fun _ => 0))), (v 4, .inl (k 0, 4, .inl (fun _ => 0))), (v 5, .inl (k 0, 6, .inl (fun _ => 0))), (v 6, .inl (k 0, 6, .inl (fun _ => 0))), (v 7, .inl (k 0, 6, .inl (fun _ => 0))), (v 8, .inl (k 0, 36, .inl (fun _ => 0))), (v 9, .inl (k 0, 12, .inl (fun _ => 0))), (v 10, .inl (k 0, 12, .inl (fun _ => 0))), (v 11, .inl (k 0, 12, .inl (fun _ => 0))), (v 12, .inl (k 0, 12, .inl (fun _ => 0))), (v 13, .inl (k 0, 12, .inl (fun _ => 0))), (v 14, .inl (k 0, 12, .inl (fun _ => 0))), (v 15, .inl (k 0, 12, .inl (fun _ => 0))), (v 16, .inl (k 0, 12, .inl (fun _ => 0))), (v 17, .inl (k 0, 12, .inl (fun _ => 0))), (v 18, .inl (k 0, 72, .inl (fun _ => 0))), (v 19, .inl (k 0, 20, .inl (fun _ => 0))), (v 20, .inl (k 0, 20, .inl (fun _ => 0))), (v 21, .inl (k 0, 20, .inl (fun _ => 0))), (v 22, .inl (k 0, 20, .inl (fun _ => 0))), (v 23, .inl (k 0, 20, .inl (fun _ => 0))), (v 24, .inl (k 0, 12, .inl (fun _ => 0))), (v 25, .inl (k 0, 12, .inl (fun _ => 0))), (v 26, .inl (k 0, 12, .inl (fun _ => 0))), (v 27, .inl (k 0, 12, .inl (fun _ => 0))), (v 28, .inl (k 0, 360, .inl (fun _ => 0))), (v 76, .inl (k 0, 4500, .inl (fun _ => 0))), (v 77, .inl (k 2, 4, .inl (fun _ => 0)))]) : va_W) (G9n k x u ++ G10 k y v) := List.Sublist.append (List.Sublist.append (List.Sublist.cons₂ _ (List.Sublist.cons _ (List.Sublist.cons₂ _ (List.nil_sublist _)))) (List.Sublist.append (List.Sublist.append (List.Sublist.append (List.Sublist.append (List.Sublist.append (List.Sublist.append (List.Sublist.append (List.Sublist.append (List.Sublist.append (List.Sublist.append (List.Sublist.append (List.Sublist.append (List.Sublist.append (List.Sublist.append (List.Sublist.append (List.Sublist.append (List.Sublist.append (List.Sublist.append (List.Sublist.append (List.Sublist.refl ([] : va_W)) (List.nil_sublist _)) (List.nil_sublist _)) (List.nil_sublist _)) (List.nil_sublist _)) (List.nil_sublist _)) (List.nil_sublist _)) (List.nil_sublist _)) (List.nil_sublist _)) (List.nil_sublist _)) (List.Sublist.refl _)) (List.Sublist.cons₂ _ (List.Sublist.cons₂ _ (List.Sublist.cons₂ _ (List.Sublist.cons₂ _ (List.Sublist.cons₂ _ (List.Sublist.cons₂ _ (List.Sublist.cons₂ _ (List.Sublist.cons₂ _ (List.Sublist.cons₂ _ (List.Sublist.cons₂ _ (List.Sublist.cons₂ _ (List.Sublist.cons₂ _ (List.Sublist.cons₂ _ (List.Sublist.cons₂ _ (List.Sublist.cons₂ _ (List.Sublist.cons₂ _ (List.Sublist.cons₂ _ (List.Sublist.cons₂ _ (List.Sublist.cons₂ _ (List.Sublist.cons₂ _ (List.Sublist.cons₂ _ (List.Sublist.cons₂ _ (List.Sublist.cons₂ _ (List.Sublist.cons₂ _ (List.nil_sublist _)))))))))))))))))))))))))) (List.nil_sublist _)) (List.nil_sublist _)) (List.nil_sublist _)) (List.Sublist.refl _)) (List.nil_sublist _)) (List.nil_sublist _)) (List.nil_sublist _)) (List.nil_sublist _))) (List.Sublist.cons₂ _ (List.Sublist.cons₂ _ (List.Sublist.cons₂ _ (List.Sublist.cons₂ _ (List.Sublist.cons₂ _ (List.Sublist.cons₂ _ (List.Sublist.cons₂ _ (List.Sublist.cons₂ _ (List.Sublist.cons₂ _ (List.Sublist.cons₂ _ (List.Sublist.cons₂ _ (List.Sublist.cons₂ _ (List.Sublist.cons₂ _ (List.Sublist.cons₂ _ (List.Sublist.cons₂ _ (List.Sublist.cons₂ _ (List.Sublist.cons₂ _ (List.Sublist.cons₂ _ (List.Sublist.cons₂ _ (List.Sublist.cons₂ _ (List.Sublist.cons₂ _ (List.Sublist.cons₂ _ (List.Sublist.cons₂ _ (List.Sublist.cons₂ _ (List.Sublist.cons₂ _ (List.Sublist.cons₂ _ (List.Sublist.cons₂ _ (List.Sublist.cons₂ _ (List.Sublist.cons₂ _ (List.Sublist.cons _ (List.Sublist.cons _ (List.Sublist.cons _ (List.Sublist.cons _ (List.Sublist.cons _ (List.Sublist.cons _ (List.Sublist.cons _ (List.Sublist.cons _ (List.Sublist.cons _ (List.Sublist.cons _ (List.Sublist.cons _ (List.Sublist.cons _ (List.Sublist.cons _ (List.Sublist.cons _ (List.Sublist.cons _ (List.Sublist.cons _ (List.Sublist.cons _ (List.Sublist.cons _ (List.Sublist.cons _ (List.Sublist.cons _ (List.Sublist.cons _ (List.Sublist.cons _ (List.Sublist.cons _ (List.Sublist.cons _ (List.Sublist.cons _ (List.Sublist.cons _ (List.Sublist.cons _ (List.Sublist.cons₂ _ (List.Sublist.cons₂ _ (List.nil_sublist _)))))))))))))))))))))))))))))))))))))))))))))))))))))))))))
  have e : SW7 k x u y v = ((([(x, .inr (9, [.ref (u 0 0), .ref (u 0 1), .ref (u 0 2), .ref (u 0 3), .int 0, .ref (u 0 4), .ref (u 0 17), .ref (u 0 6), .ref (u 0 18), .ref (u 0 19), .ref (u 0 20), .ref (u 0 21)])), (u 0 6, .inl (k 4, 4, .inr (.inr (.inr (.inr (va_up (va_up (va_up (va_up (fun _ => none) 0 (some (u 0 13))) 1 (some (u 0 14))) 2 (some (u 0 15))) 3 (some (u 0 16))))))))] ++ (((((((((((((((((((([] : va_W) ++ ([] : va_W)) ++ ([] : va_W)) ++ ([] : va_W)) ++ ([] : va_W)) ++ ([] : va_W)) ++ ([] : va_W)) ++ ([] : va_W)) ++ ([] : va_W)) ++ ([] : va_W)) ++ [(u 0 5, .inr (2, [.int 0, .int 0, .int 0, .int 0, .int 0, .ref (u 6 0), .ref (u 6 1), .ref (u 6 2), .ref (u 6 3), .ref (u 6 4), .ref (u 6 5), .ref (u 6 6)])), (u 6 0, .inl (k 0, 6, .inl (fun _ => 0))), (u 6 1, .inl (k 0, 9, .inl (fun _ => 0))), (u 6 2, .inl (k 0, 4, .inl (fun _ => 0))), (u 6 3, .inl (k 0, 12, .inl (fun _ => 0))), (u 6 4, .inl (k 0, 12, .inl (fun _ => 0))), (u 6 5, .inl (k 0, 12, .inl (fun _ => 0))), (u 6 6, .inl (k 0, 12, .inl (fun _ => 0)))]) ++ [(u 0 4, .inr (8, [.ref (u 0 5), .ref (u 5 0), .ref (u 5 10), .ref (u 5 23), .ref (u 0 3), .ref (u 5 24), .ref (u 5 25), .ref (u 5 26), .int 0])), (u 5 0, .inr (6, [.int 0, .int 0, .int (-1), .int 0, .int 0, .int 0, .ref (u 5 1), .ref (u 5 2), .ref (u 5 3), .ref (u 5 4), .ref (u 5 5), .ref (u 5 6), .ref (u 5 7), .ref (u 5 8), .ref (u 5 9)])), (u 5 1, .inl (k 0, 6, .inl (fun _ => 0))), (u 5 2, .inl (k 0, 9, .inl (fun _ => 0))), (u 5 3, .inl (k 0, 12, .inl (fun _ => 0))), (u 5 4, .inl (k 0, 12, .inl (fun _ => 0))), (u 5 5, .inl (k 0, 12, .inl (fun _ => 0))), (u 5 6, .inl (k 0, 12, .inl (fun _ => 0))), (u 5 7, .inl (k 0, 12, .inl (fun _ => 0))), (u 5 8, .inl (k 0, 12, .inl (fun _ => 0))), (u 5 9, .inl (k 0, 72, .inl (fun _ => 0))), (u 5 10, .inr (0, [.int 0, .int 0, .ref (u 5 11), .ref (u 5 12), .int 0, .ref (u 5 13), .int 0, .ref (u 5 14), .ref (u 5 15), .ref (u 5 16), .ref (u 5 17), .int 0, .ref (u 5 18), .ref (u 5 19), .ref (u 5 20), .ref (u 5 21), .ref (u 5 22)])), (u 5 11, .inl (k 0, 6, .inl (fun _ => 0))), (u 5 12, .inl (k 0, 36, .inl (fun _ => 0))), (u 5 13, .inl (k 0, 20, .inl (fun _ => 0))), (u 5 14, .inl (k 0, 20, .inl (fun _ => 0))), (u 5 15, .inl (k 0, 20, .inl (fun _ => 0))), (u 5 16, .inl (k 0, 20, .inl (fun _ => 0))), (u 5 17, .inl (k 0, 20, .inl (fun _ => 0))), (u 5 18, .inl (k 0, 12, .inl (fun _ => 0))), (u 5 19, .inl (k 0, 12, .inl (fun _ => 0))), (u 5 20, .inl (k 0, 12, .inl (fun _ => 0))), (u 5 21, .inl (k 0, 12, .inl (fun _ => 0))), (u 5 22, .inl (k 0, 360, .inl (fun _ => 0)))]) ++ ([] : va_W)) ++ ([] : va_W)) ++ ([] : va_W)) ++ [(u 0 16, .inr (1, [.int 0, .ref (u 10 0), .ref (u 10 8), .ref (u 10 18)])), (u 10 0, .inr (2, [.int 0, .int 0, .int 0, .int 0, .int 0, .ref (u 10 1), .ref (u 10 2), .ref (u 10 3), .ref (u 10 4), .ref (u 10 5), .ref (u 10 6), .ref (u 10 7)])), (u 10 1, .inl (k 0, 6, .inl (fun _ => 0))), (u 10 2, .inl (k 0, 9, .inl (fun _ => 0))), (u 10 3, .inl (k 0, 4, .inl (fun _ => 0))), (u 10 4, .inl (k 0, 12, .inl (fun _ => 0))), (u 10 5, .inl (k 0, 12, .inl (fun _ => 0))), (u 10 6, .inl (k 0, 12, .inl (fun _ => 0))), (u 10 7, .inl (k 0, 12, .inl (fun _ => 0))), (u 10 8, .inr (6, [.int 0, .int 0, .int (-1), .int 0, .int 0, .int 0, .ref (u 10 9), .ref (u 10 10), .ref (u 10 11), .ref (u 10 12), .ref (u 10 13), .ref (u 10 14), .ref (u 10 15), .ref (u 10 16), .ref (u 10 17)])), (u 10 9, .inl (k 0, 6, .inl (fun _ => 0))), (u 10 10, .inl (k 0, 9, .inl (fun _ => 0))), (u 10 11, .inl (k 0, 12, .inl (fun _ => 0))), (u 10 12, .inl (k 0, 12, .inl (fun _ => 0))), (u 10 13, .inl (k 0, 12, .inl (fun _ => 0))), (u 10 14, .inl (k 0, 12, .inl (fun _ => 0))), (u 10 15, .inl (k 0, 12, .inl (fun _ => 0))), (u 10 16, .inl (k 0, 12, .inl (fun _ => 0))), (u 10 17, .inl (k 0, 72, .inl (fun _ => 0))), (u 10 18, .inr (0, [.int 0, .int 0, .ref (u 10 19), .ref (u 10 20), .int 0, .ref (u 10 21), .int 0, .ref (u 10 22), .ref (u 10 23), .ref (u 10 24), .ref (u 10 25), .int 0, .ref (u 10 26), .ref (u 10 27), .ref (u 10 28), .ref (u 10 29), .ref (u 10 30)])), (u 10 19, .inl (k 0, 6, .inl (fun _ => 0))), (u 10 20, .inl (k 0, 36, .inl (fun _ => 0))), (u 10 21, .inl (k 0, 20, .inl (fun _ => 0))), (u 10 22, .inl (k 0, 20, .inl (fun _ => 0))), (u 10 23, .inl (k 0, 20, .inl (fun _ => 0))), (u 10 24, .inl (k 0, 20, .inl (fun _ => 0))), (u 10 25, .inl (k 0, 20, .inl (fun _ => 0))), (u 10 26, .inl (k 0, 12, .inl (fun _ => 0))), (u 10 27, .inl (k 0, 12, .inl (fun _ => 0))), (u 10 28, .inl (k 0, 12, .inl (fun _ => 0))), (u 10 29, .inl (k 0, 12, .inl (fun _ => 0))), (u 10 30, .inl (k 0, 360, .inl (fun _ => 0)))]) ++ ([] : va_W)) ++ ([] : va_W)) ++ ([] : va_W)) ++ ([] : va_W))) ++ [(y, .inr (10, [.int 0, .ref (v 1), .ref (v 2), .ref (v 3), .ref (v 4), .ref (v 5), .ref (v 6), .ref (v 7), .ref (v 8), .ref (v 9), .ref (v 10), .ref (v 11), .ref (v 12), .ref (v 13), .ref (v 14), .ref (v 15), .ref (v 16), .ref (v 17), .ref (v 18), .ref (v 19), .ref (v 20), .ref (v 21), .ref (v 22), .ref (v 23), .ref (v 24), .ref (v 25), .ref (v 26), .ref (v 27), .ref (v 28), .ref (v 29), .ref (v 30), .ref (v 31), .ref (v 32), .ref (v 33), .ref (v 34), .ref (v 35), .ref (v 36), .int 0, .int 0, .int 0, .int 0, .int 0, .int 0, .int 0, .int 0, .int 0, .int 13, .int 0, .ref (v 48), .ref (v 49), .ref (v 50), .ref (v 51), .ref (v 52), .ref (v 53), .ref (v 54), .ref (v 55), .ref (v 56), .ref (v 57), .ref (v 58), .ref (v 59), .ref (v 60), .int 0, .int 0, .int 0, .int 0, .int 0, .int 0, .int 0, .ref (v 68), .ref (v 69), .ref (v 70), .ref (v 71), .ref (v 72), .int 0, .int 0, .ref (v 75), .ref (v 76), .ref (v 77), .int 0, .int 0])), (v 1, .inl (k 0, 17, .inl (scal0))), (v 2, .inl (k 0, 9, .inl (fun _ => 0))), (v 3, .inl (k 0, 9, .inl (fun _ => 0))), (v 4, .inl (k 0, 4, .inl (fun _ => 0))), (v 5, .inl (k 0, 6, .inl (fun _ => 0))), (v 6, .inl (k 0, 6, .inl (fun _ => 0))), (v 7, .inl (k 0, 6, .inl (fun _ => 0))), (v 8, .inl (k 0, 36, .inl (fun _ => 0))), (v 9, .inl (k 0, 12, .inl (fun _ => 0))), (v 10, .inl (k 0, 12, .inl (fun _ => 0))), (v 11, .inl (k 0, 12, .inl (fun _ => 0))), (v 12, .inl (k 0, 12, .inl (fun _ => 0))), (v 13, .inl (k 0, 12, .inl (fun _ => 0))), (v 14, .inl (k 0, 12, .inl (fun _ => 0))), (v 15, .inl (k 0, 12, .inl (fun _ => 0))), (v 16, .inl (k 0, 12, .inl (fun _ => 0))), (v 17, .inl (k 0, 12, .inl (fun _ => 0))), (v 18, .inl (k 0, 72, .inl (fun _ => 0))), (v 19, .inl (k 0, 20, .inl (fun _ => 0))), (v 20, .inl (k 0, 20, .inl (fun _ => 0))), (v 21, .inl (k 0, 20, .inl (fun _ => 0))), (v 22, .inl (k 0, 20, .inl (fun _ => 0))), (v 23, .inl (k 0, 20, .inl (fun _ => 0))), (v 24, .inl (k 0, 12, .inl (fun _ => 0))), (v 25, .inl (k 0, 12, .inl (fun _ => 0))), (v 26, .inl (k 0, 12, .inl (fun _ => 0))), (v 27, .inl (k 0, 12, .inl (fun _ => 0))), (v 28, .inl (k 0, 360, .inl (fun _ => 0))), (v 76, .inl (k 0, 4500, .inl (fun _ => 0))), (v 77, .inl (k 2, 4, .inl (fun _ => 0)))]) : va_W) := by simp only [SW7, List.nil_append, List.append_nil, List.cons_append]
  rw [e]
  exact h
set_option maxHeartbeats 4000000 in
set_option maxRecDepth 100000 in
/-- image -/
theorem lawm_image_3 {p : Program} {l : Launch} {e : Env} {s : State} {m : MethodId} {below : List Frame} {meth : Method} {c : Code} {D : va_G} {k : Nat → ClassId} {sd : Nat → Nat} {A : Nat → Prop} {b : Nat} {xs : Nat → Int32} {x y : Nat} {u : Nat → Nat → Nat} {v : Nat → Nat} {H : Heap} {locs : List Loc} {ls : Array Slot} (C : LC p s m meth c D k sd A b xs) (hP : va_P D vwCl (SW7 k x u y v) H) (hD : va_D A (SW7 k x u y v)) (hS : va_S A s.heap H locs) (hl : lv_has ls 4 [(0, .ref b), (1, .ref x), (2, .ref y), (3, .int 0)]) (hq : xs 1 = 3) : W p l e room_1 s m #[Value.ref b] below meth c H locs 287 18933 (lw_Z below #[Value.ref b] s) (F0 m 1520 ls []) := by
  obtain ⟨hx, hb, hr, hml, hown, hw, hXs, hbl, hlocks, hK, hE, hX, hA, hAr, hbA⟩ := id C
  refine lv_aload_n hx hb dL_law_1520 rfl (lv_at hl 1 rfl) ?_
  refine lv_aload_n hx hb dL_law_1521 rfl (lv_at hl 0 rfl) ?_
  refine lv_iload_n hx hb dL_law_1522 rfl (lv_at hl 3 rfl) ?_
  refine lv_iconst (v := 1) hx hb dL_law_1523 (by decide) ?_
  refine lv_iadd hx hb dL_law_1524 ?_
  refine x_top (v := 1) (by decide) ?_
  refine va_sld hx hb hXs hbl hbA hS (i := 1) (by unfold vp_in; decide) dL_law_1525 ?_
  refine x_top (v := 3) hq ?_
  refine x_i (wr := [(y, .inr (10, [.int 0, .ref (v 1), .ref (v 2), .ref (v 3), .ref (v 4), .ref (v 5), .ref (v 6), .ref (v 7), .ref (v 8), .ref (v 9), .ref (v 10), .ref (v 11), .ref (v 12), .ref (v 13), .ref (v 14), .ref (v 15), .ref (v 16), .ref (v 17), .ref (v 18), .ref (v 19), .ref (v 20), .ref (v 21), .ref (v 22), .ref (v 23), .ref (v 24), .ref (v 25), .ref (v 26), .ref (v 27), .ref (v 28), .ref (v 29), .ref (v 30), .ref (v 31), .ref (v 32), .ref (v 33), .ref (v 34), .ref (v 35), .ref (v 36), .int 0, .int 0, .int 0, .int 0, .int 0, .int 0, .int 0, .int 0, .int 0, .int 13, .int 0, .ref (v 48), .ref (v 49), .ref (v 50), .ref (v 51), .ref (v 52), .ref (v 53), .ref (v 54), .ref (v 55), .ref (v 56), .ref (v 57), .ref (v 58), .ref (v 59), .ref (v 60), .int 0, .int 0, .int 0, .int 0, .int 0, .int 0, .int 0, .ref (v 68), .ref (v 69), .ref (v 70), .ref (v 71), .ref (v 72), .int 0, .int 0, .ref (v 75), .ref (v 76), .ref (v 77), .int 0, .int 0])), (v 1, .inl (k 0, 17, .inl (scal0))), (v 2, .inl (k 0, 9, .inl (fun _ => 0))), (v 3, .inl (k 0, 9, .inl (fun _ => 0))), (v 4, .inl (k 0, 4, .inl (fun _ => 0))), (v 5, .inl (k 0, 6, .inl (fun _ => 0))), (v 6, .inl (k 0, 6, .inl (fun _ => 0))), (v 7, .inl (k 0, 6, .inl (fun _ => 0))), (v 8, .inl (k 0, 36, .inl (fun _ => 0))), (v 9, .inl (k 0, 12, .inl (fun _ => 0))), (v 10, .inl (k 0, 12, .inl (fun _ => 0))), (v 11, .inl (k 0, 12, .inl (fun _ => 0))), (v 12, .inl (k 0, 12, .inl (fun _ => 0))), (v 13, .inl (k 0, 12, .inl (fun _ => 0))), (v 14, .inl (k 0, 12, .inl (fun _ => 0))), (v 15, .inl (k 0, 12, .inl (fun _ => 0))), (v 16, .inl (k 0, 12, .inl (fun _ => 0))), (v 17, .inl (k 0, 12, .inl (fun _ => 0))), (v 18, .inl (k 0, 72, .inl (fun _ => 0))), (v 19, .inl (k 0, 20, .inl (fun _ => 0))), (v 20, .inl (k 0, 20, .inl (fun _ => 0))), (v 21, .inl (k 0, 20, .inl (fun _ => 0))), (v 22, .inl (k 0, 20, .inl (fun _ => 0))), (v 23, .inl (k 0, 20, .inl (fun _ => 0))), (v 24, .inl (k 0, 12, .inl (fun _ => 0))), (v 25, .inl (k 0, 12, .inl (fun _ => 0))), (v 26, .inl (k 0, 12, .inl (fun _ => 0))), (v 27, .inl (k 0, 12, .inl (fun _ => 0))), (v 28, .inl (k 0, 360, .inl (fun _ => 0))), (v 76, .inl (k 0, 4500, .inl (fun _ => 0))), (v 77, .inl (k 2, 4, .inl (fun _ => 0)))]) (va_runV (As := [.int 3]) (rest := []) ⟨hx, hb, hml, hown, hw⟩ (kX9_image_3 l D k sd x (u 0 0) (u 0 1) (u 0 2) (u 0 3) (u 0 4) (u 0 17) (u 0 6) (u 0 18) (u 0 19) (u 0 20) (u 0 21) (u 0 13) (u 0 14) (u 0 15) (u 0 16) (u 10 0) (u 10 8) (u 10 18) (u 0 5) (u 5 0) (u 5 10) (u 5 23) (u 0 3) (u 5 24) (u 5 25) (u 5 26) (u 10 1) (u 10 2) (u 10 3) (u 10 4) (u 10 5) (u 10 6) (u 10 7) (u 10 9) (u 10 10) (u 10 11) (u 10 12) (u 10 13) (u 10 14) (u 10 15) (u 10 16) (u 10 17) (u 10 19) (u 10 20) (u 10 21) (u 10 22) (u 10 23) (u 10 24) (u 10 25) (u 10 26) (u 10 27) (u 10 28) (u 10 29) (u 10 30) (u 6 0) (u 6 1) (u 6 2) (u 6 3) (u 6 4) (u 6 5) (u 6 6) (u 5 1) (u 5 2) (u 5 3) (u 5 4) (u 5 5) (u 5 6) (u 5 7) (u 5 8) (u 5 9) (u 5 11) (u 5 12) (u 5 13) (u 5 14) (u 5 15) (u 5 16) (u 5 17) (u 5 18) (u 5 19) (u 5 20) (u 5 21) (u 5 22) H.size) (cwV 1 hw (gV wd_1107 wd_1108 wd_1109 wd_1 wd_1110) rfl rfl rfl (by decide +kernel) ⟨Nat.le_of_ble_eq_true rfl, Nat.le_of_ble_eq_true rfl⟩) (pre_V (ci := 9) (r := (RX9, TX9, 12)) hK hE hX hP hD hS hA [0, 1, 34, 10, 35, 36, 37, 38, 39, 40, 41, 42, 43, 44, 45, 46, 47, 48, 49, 50, 51, 52, 53, 54, 55, 56, 57, 58, 59, 60, 61, 62, 63, 64, 65, 2, 3, 4, 5, 6, 7, 8, 9, 11, 12, 13, 14, 15, 16, 17, 18, 19, 20, 21, 22, 23, 24, 25, 26, 27, 28, 29, 30, 31, 32, 33] (by decide) rfl rfl (q0 := 0) rfl) rfl rfl hl.1 rfl (lv_room (Nat.le_of_ble_eq_true rfl)) dL_law_1526 ⟨Nat.le_of_ble_eq_true rfl, Nat.le_of_ble_eq_true rfl⟩) hP hD hS hA [0, 1, 34, 10, 35, 36, 37, 38, 39, 40, 41, 42, 43, 44, 45, 46, 47, 48, 49, 50, 51, 52, 53, 54, 55, 56, 57, 58, 59, 60, 61, 62, 63, 64, 65, 2, 3, 4, 5, 6, 7, 8, 9, 11, 12, 13, 14, 15, 16, 17, 18, 19, 20, 21, 22, 23, 24, 25, 26, 27, 28, 29, 30, 31, 32, 33] [66, 67, 68, 69, 70, 71, 72, 73, 74, 75, 76, 77, 78, 79, 80, 81, 82, 83, 84, 85, 86, 87, 88, 89, 90, 91, 92, 93, 94, 95, 96] rfl rfl (by decide) (by decide) (fun r_3 u_1 H locs hp_2 hP hD hS => ?_)
  subst hp_2
  have hP : va_P D vwCl ([(y, .inr (10, [.int 0, .ref (v 1), .ref (v 2), .ref (v 3), .ref (v 4), .ref (v 5), .ref (v 6), .ref (v 7), .ref (v 8), .ref (v 9), .ref (v 10), .ref (v 11), .ref (v 12), .ref (v 13), .ref (v 14), .ref (v 15), .ref (v 16), .ref (v 17), .ref (v 18), .ref (v 19), .ref (v 20), .ref (v 21), .ref (v 22), .ref (v 23), .ref (v 24), .ref (v 25), .ref (v 26), .ref (v 27), .ref (v 28), .ref (v 29), .ref (v 30), .ref (v 31), .ref (v 32), .ref (v 33), .ref (v 34), .ref (v 35), .ref (v 36), .int 0, .int 0, .int 0, .int 0, .int 0, .int 0, .int 0, .int 0, .int 0, .int 13, .int 0, .ref (v 48), .ref (v 49), .ref (v 50), .ref (v 51), .ref (v 52), .ref (v 53), .ref (v 54), .ref (v 55), .ref (v 56), .ref (v 57), .ref (v 58), .ref (v 59), .ref (v 60), .int 0, .int 0, .int 0, .int 0, .int 0, .int 0, .int 0, .ref (v 68), .ref (v 69), .ref (v 70), .ref (v 71), .ref (v 72), .int 0, .int 0, .ref (v 75), .ref (v 76), .ref (v 77), .int 0, .int 0])), (v 1, .inl (k 0, 17, .inl (scal0))), (v 2, .inl (k 0, 9, .inl (fun _ => 0))), (v 3, .inl (k 0, 9, .inl (fun _ => 0))), (v 4, .inl (k 0, 4, .inl (fun _ => 0))), (v 5, .inl (k 0, 6, .inl (fun _ => 0))), (v 6, .inl (k 0, 6, .inl (fun _ => 0))), (v 7, .inl (k 0, 6, .inl (fun _ => 0))), (v 8, .inl (k 0, 36, .inl (fun _ => 0))), (v 9, .inl (k 0, 12, .inl (fun _ => 0))), (v 10, .inl (k 0, 12, .inl (fun _ => 0))), (v 11, .inl (k 0, 12, .inl (fun _ => 0))), (v 12, .inl (k 0, 12, .inl (fun _ => 0))), (v 13, .inl (k 0, 12, .inl (fun _ => 0))), (v 14, .inl (k 0, 12, .inl (fun _ => 0))), (v 15, .inl (k 0, 12, .inl (fun _ => 0))), (v 16, .inl (k 0, 12, .inl (fun _ => 0))), (v 17, .inl (k 0, 12, .inl (fun _ => 0))), (v 18, .inl (k 0, 72, .inl (fun _ => 0))), (v 19, .inl (k 0, 20, .inl (fun _ => 0))), (v 20, .inl (k 0, 20, .inl (fun _ => 0))), (v 21, .inl (k 0, 20, .inl (fun _ => 0))), (v 22, .inl (k 0, 20, .inl (fun _ => 0))), (v 23, .inl (k 0, 20, .inl (fun _ => 0))), (v 24, .inl (k 0, 12, .inl (fun _ => 0))), (v 25, .inl (k 0, 12, .inl (fun _ => 0))), (v 26, .inl (k 0, 12, .inl (fun _ => 0))), (v 27, .inl (k 0, 12, .inl (fun _ => 0))), (v 28, .inl (k 0, 360, .inl (fun _ => 0))), (v 76, .inl (k 0, 4500, .inl (fun _ => 0))), (v 77, .inl (k 2, 4, .inl (fun _ => 0)))]) H := hP
  have hD : va_D A ([(y, .inr (10, [.int 0, .ref (v 1), .ref (v 2), .ref (v 3), .ref (v 4), .ref (v 5), .ref (v 6), .ref (v 7), .ref (v 8), .ref (v 9), .ref (v 10), .ref (v 11), .ref (v 12), .ref (v 13), .ref (v 14), .ref (v 15), .ref (v 16), .ref (v 17), .ref (v 18), .ref (v 19), .ref (v 20), .ref (v 21), .ref (v 22), .ref (v 23), .ref (v 24), .ref (v 25), .ref (v 26), .ref (v 27), .ref (v 28), .ref (v 29), .ref (v 30), .ref (v 31), .ref (v 32), .ref (v 33), .ref (v 34), .ref (v 35), .ref (v 36), .int 0, .int 0, .int 0, .int 0, .int 0, .int 0, .int 0, .int 0, .int 0, .int 13, .int 0, .ref (v 48), .ref (v 49), .ref (v 50), .ref (v 51), .ref (v 52), .ref (v 53), .ref (v 54), .ref (v 55), .ref (v 56), .ref (v 57), .ref (v 58), .ref (v 59), .ref (v 60), .int 0, .int 0, .int 0, .int 0, .int 0, .int 0, .int 0, .ref (v 68), .ref (v 69), .ref (v 70), .ref (v 71), .ref (v 72), .int 0, .int 0, .ref (v 75), .ref (v 76), .ref (v 77), .int 0, .int 0])), (v 1, .inl (k 0, 17, .inl (scal0))), (v 2, .inl (k 0, 9, .inl (fun _ => 0))), (v 3, .inl (k 0, 9, .inl (fun _ => 0))), (v 4, .inl (k 0, 4, .inl (fun _ => 0))), (v 5, .inl (k 0, 6, .inl (fun _ => 0))), (v 6, .inl (k 0, 6, .inl (fun _ => 0))), (v 7, .inl (k 0, 6, .inl (fun _ => 0))), (v 8, .inl (k 0, 36, .inl (fun _ => 0))), (v 9, .inl (k 0, 12, .inl (fun _ => 0))), (v 10, .inl (k 0, 12, .inl (fun _ => 0))), (v 11, .inl (k 0, 12, .inl (fun _ => 0))), (v 12, .inl (k 0, 12, .inl (fun _ => 0))), (v 13, .inl (k 0, 12, .inl (fun _ => 0))), (v 14, .inl (k 0, 12, .inl (fun _ => 0))), (v 15, .inl (k 0, 12, .inl (fun _ => 0))), (v 16, .inl (k 0, 12, .inl (fun _ => 0))), (v 17, .inl (k 0, 12, .inl (fun _ => 0))), (v 18, .inl (k 0, 72, .inl (fun _ => 0))), (v 19, .inl (k 0, 20, .inl (fun _ => 0))), (v 20, .inl (k 0, 20, .inl (fun _ => 0))), (v 21, .inl (k 0, 20, .inl (fun _ => 0))), (v 22, .inl (k 0, 20, .inl (fun _ => 0))), (v 23, .inl (k 0, 20, .inl (fun _ => 0))), (v 24, .inl (k 0, 12, .inl (fun _ => 0))), (v 25, .inl (k 0, 12, .inl (fun _ => 0))), (v 26, .inl (k 0, 12, .inl (fun _ => 0))), (v 27, .inl (k 0, 12, .inl (fun _ => 0))), (v 28, .inl (k 0, 360, .inl (fun _ => 0))), (v 76, .inl (k 0, 4500, .inl (fun _ => 0))), (v 77, .inl (k 2, 4, .inl (fun _ => 0)))]) := hD
  refine lv_aload_n hx hb dL_law_1529 rfl (lv_at hl 2 rfl) ?_
  refine lv_aload_n hx hb dL_law_1530 rfl (lv_at hl 0 rfl) ?_
  refine lv_iload_n hx hb dL_law_1531 rfl (lv_at hl 3 rfl) ?_
  refine lv_iconst (v := 1) hx hb dL_law_1532 (by decide) ?_
  refine lv_iadd hx hb dL_law_1533 ?_
  refine x_top (v := 1) (by decide) ?_
  refine va_sld hx hb hXs hbl hbA hS (i := 1) (by unfold vp_in; decide) dL_law_1534 ?_
  refine x_top (v := 3) hq ?_
  refine x_i (wr := ([] : va_W)) (va_runV (As := [.int 3]) (rest := [.int 0]) ⟨hx, hb, hml, hown, hw⟩ (kX10_image_3 l D k sd y v  H.size) (cwV 1 hw (gV wd_1966 wd_1967 wd_1968 wd_11 wd_1969) rfl rfl rfl (by decide +kernel) ⟨Nat.le_of_ble_eq_true rfl, Nat.le_of_ble_eq_true rfl⟩) (pre_V (ci := 10) (r := (RX10, TX10, 80)) hK hE hX hP hD hS hA [0, 1, 2, 3, 4, 5, 6, 7, 8, 9, 10, 11, 12, 13, 14, 15, 16, 17, 18, 19, 20, 21, 22, 23, 24, 25, 26, 27, 28, 29, 30] (by decide) rfl rfl (q0 := 0) rfl) rfl rfl hl.1 rfl (lv_room (Nat.le_of_ble_eq_true rfl)) dL_law_1535 ⟨Nat.le_of_ble_eq_true rfl, Nat.le_of_ble_eq_true rfl⟩) hP hD hS hA [0, 1, 2, 3, 4, 5, 6, 7, 8, 9, 10, 11, 12, 13, 14, 15, 16, 17, 18, 19, 20, 21, 22, 23, 24, 25, 26, 27, 28, 29, 30] [] rfl rfl (by decide) (by decide) (fun r_6 u_4 H locs hp_5 hP hD hS => ?_)
  subst hp_5
  have hP : va_P D vwCl (([] : va_W)) H := hP
  have hD : va_D A (([] : va_W)) := hD
  refine lv_icmp_eq (tgt := 1566) hx hb dL_law_1538 (by decide) (fun _ => ?_) (fun h => absurd (by decide) h)
  exact law_end C hS (lv_sub hl [0, 1, 2, 3] rfl)
def SW8 (k : Nat → ClassId) (x : Nat) (u : Nat → Nat → Nat) (y : Nat) (v : Nat → Nat) : va_W := [(x, .inr (9, [.ref (u 0 0), .ref (u 0 1), .ref (u 0 2), .ref (u 0 3), .int 0, .ref (u 0 4), .ref (u 0 17), .ref (u 0 6), .ref (u 0 18), .ref (u 0 19), .ref (u 0 20), .ref (u 0 21)])), (y, .inr (10, [.int 0, .ref (v 1), .ref (v 2), .ref (v 3), .ref (v 4), .ref (v 5), .ref (v 6), .ref (v 7), .ref (v 8), .ref (v 9), .ref (v 10), .ref (v 11), .ref (v 12), .ref (v 13), .ref (v 14), .ref (v 15), .ref (v 16), .ref (v 17), .ref (v 18), .ref (v 19), .ref (v 20), .ref (v 21), .ref (v 22), .ref (v 23), .ref (v 24), .ref (v 25), .ref (v 26), .ref (v 27), .ref (v 28), .ref (v 29), .ref (v 30), .ref (v 31), .ref (v 32), .ref (v 33), .ref (v 34), .ref (v 35), .ref (v 36), .int 0, .int 0, .int 0, .int 0, .int 0, .int 0, .int 0, .int 0, .int 0, .int 13, .int 0, .ref (v 48), .ref (v 49), .ref (v 50), .ref (v 51), .ref (v 52), .ref (v 53), .ref (v 54), .ref (v 55), .ref (v 56), .ref (v 57), .ref (v 58), .ref (v 59), .ref (v 60), .int 0, .int 0, .int 0, .int 0, .int 0, .int 0, .int 0, .ref (v 68), .ref (v 69), .ref (v 70), .ref (v 71), .ref (v 72), .int 0, .int 0, .ref (v 75), .ref (v 76), .ref (v 77), .int 0, .int 0]))]
set_option maxRecDepth 100000 in
theorem sub_8 (k : Nat → ClassId) (x : Nat) (u : Nat → Nat → Nat) (y : Nat) (v : Nat → Nat) : List.Sublist (SW8 k x u y v) (G9n k x u ++ G10 k y v) := by
  have h : List.Sublist ((([(x, .inr (9, [.ref (u 0 0), .ref (u 0 1), .ref (u 0 2), .ref (u 0 3), .int 0, .ref (u 0 4), .ref (u 0 17), .ref (u 0 6), .ref (u 0 18), .ref (u 0 19), .ref (u 0 20), .ref (u 0 21)]))] ++ (((((((((((((((((((([] : va_W) ++ ([] : va_W)) ++ ([] : va_W)) ++ ([] : va_W)) ++ ([] : va_W)) ++ ([] : va_W)) ++ ([] : va_W)) ++ ([] : va_W)) ++ ([] : va_W)) ++ ([] : va_W)) ++ ([] : va_W)) ++ ([] : va_W)) ++ ([] : va_W)) ++ ([] : va_W)) ++ ([] : va_W)) ++ ([] : va_W)) ++ ([] : va_W)) ++ ([] : va_W)) ++ ([] : va_W)) ++ ([] : va_W))) ++ [(y, .inr (10, [.int 0, .ref (v 1), .ref (v 2), .ref (v 3), .ref (v 4), .ref (v 5), .ref (v 6), .ref (v 7), .ref (v 8), .ref (v 9), .ref (v 10), .ref (v 11), .ref (v 12), .ref (v 13), .ref (v 14), .ref (v 15), .ref (v 16), .ref (v 17), .ref (v 18), .ref (v 19), .ref (v 20), .ref (v 21), .ref (v 22), .ref (v 23), .ref (v 24), .ref (v 25), .ref (v 26), .ref (v 27), .ref (v 28), .ref (v 29), .ref (v 30), .ref (v 31), .ref (v 32), .ref (v 33), .ref (v 34), .ref (v 35), .ref (v 36), .int 0, .int 0, .int 0, .int 0, .int 0, .int 0, .int 0, .int 0, .int 0, .int 13, .int 0, .ref (v 48), .ref (v 49), .ref (v 50), .ref (v 51), .ref (v 52), .ref (v 53), .ref (v 54), .ref (v 55), .ref (v 56), .ref (v 57), .ref (v 58), .ref (v 59), .ref (v 60), .int 0, .int 0, .int 0, .int 0, .int 0, .int 0, .int 0, .ref (v 68), .ref (v 69), .ref (v 70), .ref (v 71), .ref (v 72), .int 0, .int 0, .ref (v 75), .ref (v 76), .ref (v 77), .int 0, .int 0]))]) : va_W) (G9n k x u ++ G10 k y v) := List.Sublist.append (List.Sublist.append (List.Sublist.cons₂ _ (List.nil_sublist _)) (List.Sublist.append (List.Sublist.append (List.Sublist.append (List.Sublist.append (List.Sublist.append (List.Sublist.append (List.Sublist.append (List.Sublist.append (List.Sublist.append (List.Sublist.append (List.Sublist.append (List.Sublist.append (List.Sublist.append (List.Sublist.append (List.Sublist.append (List.Sublist.append (List.Sublist.append (List.Sublist.append (List.Sublist.append (List.Sublist.refl ([] : va_W)) (List.nil_sublist _)) (List.nil_sublist _)) (List.nil_sublist _)) (List.nil_sublist _)) (List.nil_sublist _)) (List.nil_sublist _)) (List.nil_sublist _)) (List.nil_sublist _)) (List.nil_sublist _)) (List.nil_sublist _)) (List.nil_sublist _)) (List.nil_sublist _)) (List.nil_sublist _)) (List.nil_sublist _)) (List.nil_sublist _)) (List.nil_sublist _)) (List.nil_sublist _)) (List.nil_sublist _)) (List.nil_sublist _))) (List.Sublist.cons₂ _ (List.nil_sublist _))
  have e : SW8 k x u y v = ((([(x, .inr (9, [.ref (u 0 0), .ref (u 0 1), .ref (u 0 2), .ref (u 0 3), .int 0, .ref (u 0 4), .ref (u 0 17), .ref (u 0 6), .ref (u 0 18), .ref (u 0 19), .ref (u 0 20), .ref (u 0 21)]))] ++ (((((((((((((((((((([] : va_W) ++ ([] : va_W)) ++ ([] : va_W)) ++ ([] : va_W)) ++ ([] : va_W)) ++ ([] : va_W)) ++ ([] : va_W)) ++ ([] : va_W)) ++ ([] : va_W)) ++ ([] : va_W)) ++ ([] : va_W)) ++ ([] : va_W)) ++ ([] : va_W)) ++ ([] : va_W)) ++ ([] : va_W)) ++ ([] : va_W)) ++ ([] : va_W)) ++ ([] : va_W)) ++ ([] : va_W)) ++ ([] : va_W))) ++ [(y, .inr (10, [.int 0, .ref (v 1), .ref (v 2), .ref (v 3), .ref (v 4), .ref (v 5), .ref (v 6), .ref (v 7), .ref (v 8), .ref (v 9), .ref (v 10), .ref (v 11), .ref (v 12), .ref (v 13), .ref (v 14), .ref (v 15), .ref (v 16), .ref (v 17), .ref (v 18), .ref (v 19), .ref (v 20), .ref (v 21), .ref (v 22), .ref (v 23), .ref (v 24), .ref (v 25), .ref (v 26), .ref (v 27), .ref (v 28), .ref (v 29), .ref (v 30), .ref (v 31), .ref (v 32), .ref (v 33), .ref (v 34), .ref (v 35), .ref (v 36), .int 0, .int 0, .int 0, .int 0, .int 0, .int 0, .int 0, .int 0, .int 0, .int 13, .int 0, .ref (v 48), .ref (v 49), .ref (v 50), .ref (v 51), .ref (v 52), .ref (v 53), .ref (v 54), .ref (v 55), .ref (v 56), .ref (v 57), .ref (v 58), .ref (v 59), .ref (v 60), .int 0, .int 0, .int 0, .int 0, .int 0, .int 0, .int 0, .ref (v 68), .ref (v 69), .ref (v 70), .ref (v 71), .ref (v 72), .int 0, .int 0, .ref (v 75), .ref (v 76), .ref (v 77), .int 0, .int 0]))]) : va_W) := by simp only [SW8, List.nil_append, List.append_nil, List.cons_append]
  rw [e]
  exact h
set_option maxHeartbeats 4000000 in
set_option maxRecDepth 100000 in
/-- image -/
theorem lawm_image_n {p : Program} {l : Launch} {e : Env} {s : State} {m : MethodId} {below : List Frame} {meth : Method} {c : Code} {D : va_G} {k : Nat → ClassId} {sd : Nat → Nat} {A : Nat → Prop} {b : Nat} {xs : Nat → Int32} {x y : Nat} {u : Nat → Nat → Nat} {v : Nat → Nat} {H : Heap} {locs : List Loc} {ls : Array Slot} (C : LC p s m meth c D k sd A b xs) (hP : va_P D vwCl (SW8 k x u y v) H) (hD : va_D A (SW8 k x u y v)) (hS : va_S A s.heap H locs) (hl : lv_has ls 4 [(0, .ref b), (1, .ref x), (2, .ref y), (3, .int 0)]) (hq : xs 1 < 0 ∨ 4 ≤ xs 1) : W p l e room_1 s m #[Value.ref b] below meth c H locs 287 18933 (lw_Z below #[Value.ref b] s) (F0 m 1520 ls []) := by
  obtain ⟨hx, hb, hr, hml, hown, hw, hXs, hbl, hlocks, hK, hE, hX, hA, hAr, hbA⟩ := id C
  refine lv_aload_n hx hb dL_law_1520 rfl (lv_at hl 1 rfl) ?_
  refine lv_aload_n hx hb dL_law_1521 rfl (lv_at hl 0 rfl) ?_
  refine lv_iload_n hx hb dL_law_1522 rfl (lv_at hl 3 rfl) ?_
  refine lv_iconst (v := 1) hx hb dL_law_1523 (by decide) ?_
  refine lv_iadd hx hb dL_law_1524 ?_
  refine x_top (v := 1) (by decide) ?_
  refine va_sld hx hb hXs hbl hbA hS (i := 1) (by unfold vp_in; decide) dL_law_1525 ?_
  refine x_top (v := xs 1) rfl ?_
  refine x_i (wr := [(y, .inr (10, [.int 0, .ref (v 1), .ref (v 2), .ref (v 3), .ref (v 4), .ref (v 5), .ref (v 6), .ref (v 7), .ref (v 8), .ref (v 9), .ref (v 10), .ref (v 11), .ref (v 12), .ref (v 13), .ref (v 14), .ref (v 15), .ref (v 16), .ref (v 17), .ref (v 18), .ref (v 19), .ref (v 20), .ref (v 21), .ref (v 22), .ref (v 23), .ref (v 24), .ref (v 25), .ref (v 26), .ref (v 27), .ref (v 28), .ref (v 29), .ref (v 30), .ref (v 31), .ref (v 32), .ref (v 33), .ref (v 34), .ref (v 35), .ref (v 36), .int 0, .int 0, .int 0, .int 0, .int 0, .int 0, .int 0, .int 0, .int 0, .int 13, .int 0, .ref (v 48), .ref (v 49), .ref (v 50), .ref (v 51), .ref (v 52), .ref (v 53), .ref (v 54), .ref (v 55), .ref (v 56), .ref (v 57), .ref (v 58), .ref (v 59), .ref (v 60), .int 0, .int 0, .int 0, .int 0, .int 0, .int 0, .int 0, .ref (v 68), .ref (v 69), .ref (v 70), .ref (v 71), .ref (v 72), .int 0, .int 0, .ref (v 75), .ref (v 76), .ref (v 77), .int 0, .int 0]))]) (va_runV (As := [.int (xs 1)]) (rest := []) ⟨hx, hb, hml, hown, hw⟩ (kX9_image_n l D k sd x (u 0 0) (u 0 1) (u 0 2) (u 0 3) (u 0 4) (u 0 17) (u 0 6) (u 0 18) (u 0 19) (u 0 20) (u 0 21) (xs 1) hq H.size) (cwV 1 hw (gV wd_1107 wd_1108 wd_1109 wd_1 wd_1110) rfl rfl rfl (by decide +kernel) ⟨Nat.le_of_ble_eq_true rfl, Nat.le_of_ble_eq_true rfl⟩) (pre_V (ci := 9) (r := (RX9, TX9, 12)) hK hE hX hP hD hS hA [0] (by decide) rfl rfl (q0 := 0) rfl) rfl rfl hl.1 rfl (lv_room (Nat.le_of_ble_eq_true rfl)) dL_law_1526 ⟨Nat.le_of_ble_eq_true rfl, Nat.le_of_ble_eq_true rfl⟩) hP hD hS hA [0] [1] rfl rfl (by decide) (by decide) (fun r_3 u_1 H locs hp_2 hP hD hS => ?_)
  subst hp_2
  have hP : va_P D vwCl ([(y, .inr (10, [.int 0, .ref (v 1), .ref (v 2), .ref (v 3), .ref (v 4), .ref (v 5), .ref (v 6), .ref (v 7), .ref (v 8), .ref (v 9), .ref (v 10), .ref (v 11), .ref (v 12), .ref (v 13), .ref (v 14), .ref (v 15), .ref (v 16), .ref (v 17), .ref (v 18), .ref (v 19), .ref (v 20), .ref (v 21), .ref (v 22), .ref (v 23), .ref (v 24), .ref (v 25), .ref (v 26), .ref (v 27), .ref (v 28), .ref (v 29), .ref (v 30), .ref (v 31), .ref (v 32), .ref (v 33), .ref (v 34), .ref (v 35), .ref (v 36), .int 0, .int 0, .int 0, .int 0, .int 0, .int 0, .int 0, .int 0, .int 0, .int 13, .int 0, .ref (v 48), .ref (v 49), .ref (v 50), .ref (v 51), .ref (v 52), .ref (v 53), .ref (v 54), .ref (v 55), .ref (v 56), .ref (v 57), .ref (v 58), .ref (v 59), .ref (v 60), .int 0, .int 0, .int 0, .int 0, .int 0, .int 0, .int 0, .ref (v 68), .ref (v 69), .ref (v 70), .ref (v 71), .ref (v 72), .int 0, .int 0, .ref (v 75), .ref (v 76), .ref (v 77), .int 0, .int 0]))]) H := hP
  have hD : va_D A ([(y, .inr (10, [.int 0, .ref (v 1), .ref (v 2), .ref (v 3), .ref (v 4), .ref (v 5), .ref (v 6), .ref (v 7), .ref (v 8), .ref (v 9), .ref (v 10), .ref (v 11), .ref (v 12), .ref (v 13), .ref (v 14), .ref (v 15), .ref (v 16), .ref (v 17), .ref (v 18), .ref (v 19), .ref (v 20), .ref (v 21), .ref (v 22), .ref (v 23), .ref (v 24), .ref (v 25), .ref (v 26), .ref (v 27), .ref (v 28), .ref (v 29), .ref (v 30), .ref (v 31), .ref (v 32), .ref (v 33), .ref (v 34), .ref (v 35), .ref (v 36), .int 0, .int 0, .int 0, .int 0, .int 0, .int 0, .int 0, .int 0, .int 0, .int 13, .int 0, .ref (v 48), .ref (v 49), .ref (v 50), .ref (v 51), .ref (v 52), .ref (v 53), .ref (v 54), .ref (v 55), .ref (v 56), .ref (v 57), .ref (v 58), .ref (v 59), .ref (v 60), .int 0, .int 0, .int 0, .int 0, .int 0, .int 0, .int 0, .ref (v 68), .ref (v 69), .ref (v 70), .ref (v 71), .ref (v 72), .int 0, .int 0, .ref (v 75), .ref (v 76), .ref (v 77), .int 0, .int 0]))]) := hD
  refine lv_aload_n hx hb dL_law_1529 rfl (lv_at hl 2 rfl) ?_
  refine lv_aload_n hx hb dL_law_1530 rfl (lv_at hl 0 rfl) ?_
  refine lv_iload_n hx hb dL_law_1531 rfl (lv_at hl 3 rfl) ?_
  refine lv_iconst (v := 1) hx hb dL_law_1532 (by decide) ?_
  refine lv_iadd hx hb dL_law_1533 ?_
  refine x_top (v := 1) (by decide) ?_
  refine va_sld hx hb hXs hbl hbA hS (i := 1) (by unfold vp_in; decide) dL_law_1534 ?_
  refine x_top (v := xs 1) rfl ?_
  refine x_i (wr := ([] : va_W)) (va_runV (As := [.int (xs 1)]) (rest := [.int (-1)]) ⟨hx, hb, hml, hown, hw⟩ (kX10_image_n l D k sd y v (xs 1) hq H.size) (cwV 1 hw (gV wd_1966 wd_1967 wd_1968 wd_11 wd_1969) rfl rfl rfl (by decide +kernel) ⟨Nat.le_of_ble_eq_true rfl, Nat.le_of_ble_eq_true rfl⟩) (pre_V (ci := 10) (r := (RX10, TX10, 80)) hK hE hX hP hD hS hA [0] (by decide) rfl rfl (q0 := 0) rfl) rfl rfl hl.1 rfl (lv_room (Nat.le_of_ble_eq_true rfl)) dL_law_1535 ⟨Nat.le_of_ble_eq_true rfl, Nat.le_of_ble_eq_true rfl⟩) hP hD hS hA [0] [] rfl rfl (by decide) (by decide) (fun r_6 u_4 H locs hp_5 hP hD hS => ?_)
  subst hp_5
  have hP : va_P D vwCl (([] : va_W)) H := hP
  have hD : va_D A (([] : va_W)) := hD
  refine lv_icmp_eq (tgt := 1566) hx hb dL_law_1538 (by decide) (fun _ => ?_) (fun h => absurd (by decide) h)
  exact law_end C hS (lv_sub hl [0, 1, 2, 3] rfl)
def SW9 (k : Nat → ClassId) (x : Nat) (u : Nat → Nat → Nat) (y : Nat) (v : Nat → Nat) : va_W := [(x, .inr (9, [.ref (u 0 0), .ref (u 0 1), .ref (u 0 2), .ref (u 0 3), .int 0, .ref (u 0 4), .ref (u 0 17), .ref (u 0 6), .ref (u 0 18), .ref (u 0 19), .ref (u 0 20), .ref (u 0 21)])), (u 0 6, .inl (k 4, 4, .inr (.inr (.inr (.inr (va_up (va_up (va_up (va_up (fun _ => none) 0 (some (u 0 13))) 1 (some (u 0 14))) 2 (some (u 0 15))) 3 (some (u 0 16)))))))), (u 0 13, .inr (1, [.int 0, .ref (u 7 0), .ref (u 7 8), .ref (u 7 18)])), (y, .inr (10, [.int 0, .ref (v 1), .ref (v 2), .ref (v 3), .ref (v 4), .ref (v 5), .ref (v 6), .ref (v 7), .ref (v 8), .ref (v 9), .ref (v 10), .ref (v 11), .ref (v 12), .ref (v 13), .ref (v 14), .ref (v 15), .ref (v 16), .ref (v 17), .ref (v 18), .ref (v 19), .ref (v 20), .ref (v 21), .ref (v 22), .ref (v 23), .ref (v 24), .ref (v 25), .ref (v 26), .ref (v 27), .ref (v 28), .ref (v 29), .ref (v 30), .ref (v 31), .ref (v 32), .ref (v 33), .ref (v 34), .ref (v 35), .ref (v 36), .int 0, .int 0, .int 0, .int 0, .int 0, .int 0, .int 0, .int 0, .int 0, .int 13, .int 0, .ref (v 48), .ref (v 49), .ref (v 50), .ref (v 51), .ref (v 52), .ref (v 53), .ref (v 54), .ref (v 55), .ref (v 56), .ref (v 57), .ref (v 58), .ref (v 59), .ref (v 60), .int 0, .int 0, .int 0, .int 0, .int 0, .int 0, .int 0, .ref (v 68), .ref (v 69), .ref (v 70), .ref (v 71), .ref (v 72), .int 0, .int 0, .ref (v 75), .ref (v 76), .ref (v 77), .int 0, .int 0])), (v 77, .inl (k 2, 4, .inl (fun _ => 0)))]
set_option maxRecDepth 100000 in
theorem sub_9 (k : Nat → ClassId) (x : Nat) (u : Nat → Nat → Nat) (y : Nat) (v : Nat → Nat) : List.Sublist (SW9 k x u y v) (G9n k x u ++ G10 k y v) := by
  have h : List.Sublist ((([(x, .inr (9, [.ref (u 0 0), .ref (u 0 1), .ref (u 0 2), .ref (u 0 3), .int 0, .ref (u 0 4), .ref (u 0 17), .ref (u 0 6), .ref (u 0 18), .ref (u 0 19), .ref (u 0 20), .ref (u 0 21)])), (u 0 6, .inl (k 4, 4, .inr (.inr (.inr (.inr (va_up (va_up (va_up (va_up (fun _ => none) 0 (some (u 0 13))) 1 (some (u 0 14))) 2 (some (u 0 15))) 3 (some (u 0 16))))))))] ++ (((((((((((((((((((([] : va_W) ++ ([] : va_W)) ++ ([] : va_W)) ++ ([] : va_W)) ++ ([] : va_W)) ++ ([] : va_W)) ++ ([] : va_W)) ++ ([] : va_W)) ++ ([] : va_W)) ++ ([] : va_W)) ++ ([] : va_W)) ++ ([] : va_W)) ++ [(u 0 13, .inr (1, [.int 0, .ref (u 7 0), .ref (u 7 8), .ref (u 7 18)]))]) ++ ([] : va_W)) ++ ([] : va_W)) ++ ([] : va_W)) ++ ([] : va_W)) ++ ([] : va_W)) ++ ([] : va_W)) ++ ([] : va_W))) ++ [(y, .inr (10, [.int 0, .ref (v 1), .ref (v 2), .ref (v 3), .ref (v 4), .ref (v 5), .ref (v 6), .ref (v 7), .ref (v 8), .ref (v 9), .ref (v 10), .ref (v 11), .ref (v 12), .ref (v 13), .ref (v 14), .ref (v 15), .ref (v 16), .ref (v 17), .ref (v 18), .ref (v 19), .ref (v 20), .ref (v 21), .ref (v 22), .ref (v 23), .ref (v 24), .ref (v 25), .ref (v 26), .ref (v 27), .ref (v 28), .ref (v 29), .ref (v 30), .ref (v 31), .ref (v 32), .ref (v 33), .ref (v 34), .ref (v 35), .ref (v 36), .int 0, .int 0, .int 0, .int 0, .int 0, .int 0, .int 0, .int 0, .int 0, .int 13, .int 0, .ref (v 48), .ref (v 49), .ref (v 50), .ref (v 51), .ref (v 52), .ref (v 53), .ref (v 54), .ref (v 55), .ref (v 56), .ref (v 57), .ref (v 58), .ref (v 59), .ref (v 60), .int 0, .int 0, .int 0, .int 0, .int 0, .int 0, .int 0, .ref (v 68), .ref (v 69), .ref (v 70), .ref (v 71), .ref (v 72), .int 0, .int 0, .ref (v 75), .ref (v 76), .ref (v 77), .int 0, .int 0])), (v 77, .inl (k 2, 4, .inl (fun _ => 0)))]) : va_W) (G9n k x u ++ G10 k y v) := List.Sublist.append (List.Sublist.append (List.Sublist.cons₂ _ (List.Sublist.cons _ (List.Sublist.cons₂ _ (List.nil_sublist _)))) (List.Sublist.append (List.Sublist.append (List.Sublist.append (List.Sublist.append (List.Sublist.append (List.Sublist.append (List.Sublist.append (List.Sublist.append (List.Sublist.append (List.Sublist.append (List.Sublist.append (List.Sublist.append (List.Sublist.append (List.Sublist.append (List.Sublist.append (List.Sublist.append (List.Sublist.append (List.Sublist.append (List.Sublist.append (List.Sublist.refl ([] : va_W)) (List.nil_sublist _)) (List.nil_sublist _)) (List.nil_sublist _)) (List.nil_sublist _)) (List.nil_sublist _)) (List.nil_sublist _)) (List.nil_sublist _)) (List.nil_sublist _)) (List.nil_sublist _)) (List.nil_sublist _)) (List.nil_sublist _)) (List.Sublist.cons₂ _ (List.nil_sublist _))) (List.nil_sublist _)) (List.nil_sublist _)) (List.nil_sublist _)) (List.nil_sublist _)) (List.nil_sublist _)) (List.nil_sublist _)) (List.nil_sublist _))) (List.Sublist.cons₂ _ (List.Sublist.cons _ (List.Sublist.cons _ (List.Sublist.cons _ (List.Sublist.cons _ (List.Sublist.cons _ (List.Sublist.cons _ (List.Sublist.cons _ (List.Sublist.cons _ (List.Sublist.cons _ (List.Sublist.cons _ (List.Sublist.cons _ (List.Sublist.cons _ (List.Sublist.cons _ (List.Sublist.cons _ (List.Sublist.cons _ (List.Sublist.cons _ (List.Sublist.cons _ (List.Sublist.cons _ (List.Sublist.cons _ (List.Sublist.cons _ (List.Sublist.cons _ (List.Sublist.cons _ (List.Sublist.cons _ (List.Sublist.cons _ (List.Sublist.cons _ (List.Sublist.cons _ (List.Sublist.cons _ (List.Sublist.cons _ (List.Sublist.cons _ (List.Sublist.cons _ (List.Sublist.cons _ (List.Sublist.cons _ (List.Sublist.cons _ (List.Sublist.cons _ (List.Sublist.cons _ (List.Sublist.cons _ (List.Sublist.cons _ (List.Sublist.cons _ (List.Sublist.cons _ (List.Sublist.cons _ (List.Sublist.cons _ (List.Sublist.cons _ (List.Sublist.cons _ (List.Sublist.cons _ (List.Sublist.cons _ (List.Sublist.cons _ (List.Sublist.cons _ (List.Sublist.cons _ (List.Sublist.cons _ (List.Sublist.cons _ (List.Sublist.cons _ (List.Sublist.cons _ (List.Sublist.cons _ (List.Sublist.cons _ (List.Sublist.cons _ (List.Sublist.cons _ (List.Sublist.cons₂ _ (List.nil_sublist _)))))))))))))))))))))))))))))))))))))))))))))))))))))))))))
  have e : SW9 k x u y v = ((([(x, .inr (9, [.ref (u 0 0), .ref (u 0 1), .ref (u 0 2), .ref (u 0 3), .int 0, .ref (u 0 4), .ref (u 0 17), .ref (u 0 6), .ref (u 0 18), .ref (u 0 19), .ref (u 0 20), .ref (u 0 21)])), (u 0 6, .inl (k 4, 4, .inr (.inr (.inr (.inr (va_up (va_up (va_up (va_up (fun _ => none) 0 (some (u 0 13))) 1 (some (u 0 14))) 2 (some (u 0 15))) 3 (some (u 0 16))))))))] ++ (((((((((((((((((((([] : va_W) ++ ([] : va_W)) ++ ([] : va_W)) ++ ([] : va_W)) ++ ([] : va_W)) ++ ([] : va_W)) ++ ([] : va_W)) ++ ([] : va_W)) ++ ([] : va_W)) ++ ([] : va_W)) ++ ([] : va_W)) ++ ([] : va_W)) ++ [(u 0 13, .inr (1, [.int 0, .ref (u 7 0), .ref (u 7 8), .ref (u 7 18)]))]) ++ ([] : va_W)) ++ ([] : va_W)) ++ ([] : va_W)) ++ ([] : va_W)) ++ ([] : va_W)) ++ ([] : va_W)) ++ ([] : va_W))) ++ [(y, .inr (10, [.int 0, .ref (v 1), .ref (v 2), .ref (v 3), .ref (v 4), .ref (v 5), .ref (v 6), .ref (v 7), .ref (v 8), .ref (v 9), .ref (v 10), .ref (v 11), .ref (v 12), .ref (v 13), .ref (v 14), .ref (v 15), .ref (v 16), .ref (v 17), .ref (v 18), .ref (v 19), .ref (v 20), .ref (v 21), .ref (v 22), .ref (v 23), .ref (v 24), .ref (v 25), .ref (v 26), .ref (v 27), .ref (v 28), .ref (v 29), .ref (v 30), .ref (v 31), .ref (v 32), .ref (v 33), .ref (v 34), .ref (v 35), .ref (v 36), .int 0, .int 0, .int 0, .int 0, .int 0, .int 0, .int 0, .int 0, .int 0, .int 13, .int 0, .ref (v 48), .ref (v 49), .ref (v 50), .ref (v 51), .ref (v 52), .ref (v 53), .ref (v 54), .ref (v 55), .ref (v 56), .ref (v 57), .ref (v 58), .ref (v 59), .ref (v 60), .int 0, .int 0, .int 0, .int 0, .int 0, .int 0, .int 0, .ref (v 68), .ref (v 69), .ref (v 70), .ref (v 71), .ref (v 72), .int 0, .int 0, .ref (v 75), .ref (v 76), .ref (v 77), .int 0, .int 0])), (v 77, .inl (k 2, 4, .inl (fun _ => 0)))]) : va_W) := by simp only [SW9, List.nil_append, List.append_nil, List.cons_append]
  rw [e]
  exact h
set_option maxHeartbeats 4000000 in
set_option maxRecDepth 100000 in
/-- back -/
theorem lawm_back_0 {p : Program} {l : Launch} {e : Env} {s : State} {m : MethodId} {below : List Frame} {meth : Method} {c : Code} {D : va_G} {k : Nat → ClassId} {sd : Nat → Nat} {A : Nat → Prop} {b : Nat} {xs : Nat → Int32} {x y : Nat} {u : Nat → Nat → Nat} {v : Nat → Nat} {H : Heap} {locs : List Loc} {ls : Array Slot} (C : LC p s m meth c D k sd A b xs) (hP : va_P D vwCl (SW9 k x u y v) H) (hD : va_D A (SW9 k x u y v)) (hS : va_S A s.heap H locs) (hl : lv_has ls 4 [(0, .ref b), (1, .ref x), (2, .ref y), (3, .int 0)]) (hq : xs 1 = 0) : W p l e room_1 s m #[Value.ref b] below meth c H locs 287 18933 (lw_Z below #[Value.ref b] s) (F0 m 1543 ls []) := by
  obtain ⟨hx, hb, hr, hml, hown, hw, hXs, hbl, hlocks, hK, hE, hX, hA, hAr, hbA⟩ := id C
  refine lv_aload_n hx hb dL_law_1543 rfl (lv_at hl 1 rfl) ?_
  refine lv_aload_n hx hb dL_law_1544 rfl (lv_at hl 0 rfl) ?_
  refine lv_iload_n hx hb dL_law_1545 rfl (lv_at hl 3 rfl) ?_
  refine lv_iconst (v := 1) hx hb dL_law_1546 (by decide) ?_
  refine lv_iadd hx hb dL_law_1547 ?_
  refine x_top (v := 1) (by decide) ?_
  refine va_sld hx hb hXs hbl hbA hS (i := 1) (by unfold vp_in; decide) dL_law_1548 ?_
  refine x_top (v := 0) hq ?_
  refine x_i (wr := [(y, .inr (10, [.int 0, .ref (v 1), .ref (v 2), .ref (v 3), .ref (v 4), .ref (v 5), .ref (v 6), .ref (v 7), .ref (v 8), .ref (v 9), .ref (v 10), .ref (v 11), .ref (v 12), .ref (v 13), .ref (v 14), .ref (v 15), .ref (v 16), .ref (v 17), .ref (v 18), .ref (v 19), .ref (v 20), .ref (v 21), .ref (v 22), .ref (v 23), .ref (v 24), .ref (v 25), .ref (v 26), .ref (v 27), .ref (v 28), .ref (v 29), .ref (v 30), .ref (v 31), .ref (v 32), .ref (v 33), .ref (v 34), .ref (v 35), .ref (v 36), .int 0, .int 0, .int 0, .int 0, .int 0, .int 0, .int 0, .int 0, .int 0, .int 13, .int 0, .ref (v 48), .ref (v 49), .ref (v 50), .ref (v 51), .ref (v 52), .ref (v 53), .ref (v 54), .ref (v 55), .ref (v 56), .ref (v 57), .ref (v 58), .ref (v 59), .ref (v 60), .int 0, .int 0, .int 0, .int 0, .int 0, .int 0, .int 0, .ref (v 68), .ref (v 69), .ref (v 70), .ref (v 71), .ref (v 72), .int 0, .int 0, .ref (v 75), .ref (v 76), .ref (v 77), .int 0, .int 0])), (v 77, .inl (k 2, 4, .inl (fun _ => 0)))]) (va_runV (As := [.int 0]) (rest := []) ⟨hx, hb, hml, hown, hw⟩ (kX9_back_0 l D k sd x (u 0 0) (u 0 1) (u 0 2) (u 0 3) (u 0 4) (u 0 17) (u 0 6) (u 0 18) (u 0 19) (u 0 20) (u 0 21) (u 0 13) (u 0 14) (u 0 15) (u 0 16) (u 7 0) (u 7 8) (u 7 18) H.size) (cwV 1 hw (gV wd_1122 wd_1123 wd_1124 wd_1 wd_1125) rfl rfl rfl (by decide +kernel) ⟨Nat.le_of_ble_eq_true rfl, Nat.le_of_ble_eq_true rfl⟩) (pre_V (ci := 9) (r := (RX9, TX9, 12)) hK hE hX hP hD hS hA [0, 1, 2] (by decide) rfl rfl (q0 := 0) rfl) rfl rfl hl.1 rfl (lv_room (Nat.le_of_ble_eq_true rfl)) dL_law_1549 ⟨Nat.le_of_ble_eq_true rfl, Nat.le_of_ble_eq_true rfl⟩) hP hD hS hA [0, 1, 2] [3, 4] rfl rfl (by decide) (by decide) (fun r_3 u_1 H locs hp_2 hP hD hS => ?_)
  subst hp_2
  have hP : va_P D vwCl ([(y, .inr (10, [.int 0, .ref (v 1), .ref (v 2), .ref (v 3), .ref (v 4), .ref (v 5), .ref (v 6), .ref (v 7), .ref (v 8), .ref (v 9), .ref (v 10), .ref (v 11), .ref (v 12), .ref (v 13), .ref (v 14), .ref (v 15), .ref (v 16), .ref (v 17), .ref (v 18), .ref (v 19), .ref (v 20), .ref (v 21), .ref (v 22), .ref (v 23), .ref (v 24), .ref (v 25), .ref (v 26), .ref (v 27), .ref (v 28), .ref (v 29), .ref (v 30), .ref (v 31), .ref (v 32), .ref (v 33), .ref (v 34), .ref (v 35), .ref (v 36), .int 0, .int 0, .int 0, .int 0, .int 0, .int 0, .int 0, .int 0, .int 0, .int 13, .int 0, .ref (v 48), .ref (v 49), .ref (v 50), .ref (v 51), .ref (v 52), .ref (v 53), .ref (v 54), .ref (v 55), .ref (v 56), .ref (v 57), .ref (v 58), .ref (v 59), .ref (v 60), .int 0, .int 0, .int 0, .int 0, .int 0, .int 0, .int 0, .ref (v 68), .ref (v 69), .ref (v 70), .ref (v 71), .ref (v 72), .int 0, .int 0, .ref (v 75), .ref (v 76), .ref (v 77), .int 0, .int 0])), (v 77, .inl (k 2, 4, .inl (fun _ => 0)))]) H := hP
  have hD : va_D A ([(y, .inr (10, [.int 0, .ref (v 1), .ref (v 2), .ref (v 3), .ref (v 4), .ref (v 5), .ref (v 6), .ref (v 7), .ref (v 8), .ref (v 9), .ref (v 10), .ref (v 11), .ref (v 12), .ref (v 13), .ref (v 14), .ref (v 15), .ref (v 16), .ref (v 17), .ref (v 18), .ref (v 19), .ref (v 20), .ref (v 21), .ref (v 22), .ref (v 23), .ref (v 24), .ref (v 25), .ref (v 26), .ref (v 27), .ref (v 28), .ref (v 29), .ref (v 30), .ref (v 31), .ref (v 32), .ref (v 33), .ref (v 34), .ref (v 35), .ref (v 36), .int 0, .int 0, .int 0, .int 0, .int 0, .int 0, .int 0, .int 0, .int 0, .int 13, .int 0, .ref (v 48), .ref (v 49), .ref (v 50), .ref (v 51), .ref (v 52), .ref (v 53), .ref (v 54), .ref (v 55), .ref (v 56), .ref (v 57), .ref (v 58), .ref (v 59), .ref (v 60), .int 0, .int 0, .int 0, .int 0, .int 0, .int 0, .int 0, .ref (v 68), .ref (v 69), .ref (v 70), .ref (v 71), .ref (v 72), .int 0, .int 0, .ref (v 75), .ref (v 76), .ref (v 77), .int 0, .int 0])), (v 77, .inl (k 2, 4, .inl (fun _ => 0)))]) := hD
  refine lv_aload_n hx hb dL_law_1552 rfl (lv_at hl 2 rfl) ?_
  refine lv_aload_n hx hb dL_law_1553 rfl (lv_at hl 0 rfl) ?_
  refine lv_iload_n hx hb dL_law_1554 rfl (lv_at hl 3 rfl) ?_
  refine lv_iconst (v := 1) hx hb dL_law_1555 (by decide) ?_
  refine lv_iadd hx hb dL_law_1556 ?_
  refine x_top (v := 1) (by decide) ?_
  refine va_sld hx hb hXs hbl hbA hS (i := 1) (by unfold vp_in; decide) dL_law_1557 ?_
  refine x_top (v := 0) hq ?_
  refine x_i (wr := ([] : va_W)) (va_runV (As := [.int 0]) (rest := [.int (-1)]) ⟨hx, hb, hml, hown, hw⟩ (kX10_back_0 l D k sd y v  H.size) (cwV 1 hw (gV wd_1970 wd_1971 wd_1972 wd_11 wd_1973) rfl rfl rfl (by decide +kernel) ⟨Nat.le_of_ble_eq_true rfl, Nat.le_of_ble_eq_true rfl⟩) (pre_V (ci := 10) (r := (RX10, TX10, 80)) hK hE hX hP hD hS hA [0, 1] (by decide) rfl rfl (q0 := 0) rfl) rfl rfl hl.1 rfl (lv_room (Nat.le_of_ble_eq_true rfl)) dL_law_1558 ⟨Nat.le_of_ble_eq_true rfl, Nat.le_of_ble_eq_true rfl⟩) hP hD hS hA [0, 1] [] rfl rfl (by decide) (by decide) (fun r_6 u_4 H locs hp_5 hP hD hS => ?_)
  subst hp_5
  have hP : va_P D vwCl (([] : va_W)) H := hP
  have hD : va_D A (([] : va_W)) := hD
  refine lv_icmp_eq (tgt := 1566) hx hb dL_law_1561 (by decide) (fun _ => ?_) (fun h => absurd (by decide) h)
  exact law_end C hS (lv_sub hl [0, 1, 2, 3] rfl)
def SW10 (k : Nat → ClassId) (x : Nat) (u : Nat → Nat → Nat) (y : Nat) (v : Nat → Nat) : va_W := [(x, .inr (9, [.ref (u 0 0), .ref (u 0 1), .ref (u 0 2), .ref (u 0 3), .int 0, .ref (u 0 4), .ref (u 0 17), .ref (u 0 6), .ref (u 0 18), .ref (u 0 19), .ref (u 0 20), .ref (u 0 21)])), (u 0 6, .inl (k 4, 4, .inr (.inr (.inr (.inr (va_up (va_up (va_up (va_up (fun _ => none) 0 (some (u 0 13))) 1 (some (u 0 14))) 2 (some (u 0 15))) 3 (some (u 0 16)))))))), (u 0 14, .inr (1, [.int 0, .ref (u 8 0), .ref (u 8 8), .ref (u 8 18)])), (y, .inr (10, [.int 0, .ref (v 1), .ref (v 2), .ref (v 3), .ref (v 4), .ref (v 5), .ref (v 6), .ref (v 7), .ref (v 8), .ref (v 9), .ref (v 10), .ref (v 11), .ref (v 12), .ref (v 13), .ref (v 14), .ref (v 15), .ref (v 16), .ref (v 17), .ref (v 18), .ref (v 19), .ref (v 20), .ref (v 21), .ref (v 22), .ref (v 23), .ref (v 24), .ref (v 25), .ref (v 26), .ref (v 27), .ref (v 28), .ref (v 29), .ref (v 30), .ref (v 31), .ref (v 32), .ref (v 33), .ref (v 34), .ref (v 35), .ref (v 36), .int 0, .int 0, .int 0, .int 0, .int 0, .int 0, .int 0, .int 0, .int 0, .int 13, .int 0, .ref (v 48), .ref (v 49), .ref (v 50), .ref (v 51), .ref (v 52), .ref (v 53), .ref (v 54), .ref (v 55), .ref (v 56), .ref (v 57), .ref (v 58), .ref (v 59), .ref (v 60), .int 0, .int 0, .int 0, .int 0, .int 0, .int 0, .int 0, .ref (v 68), .ref (v 69), .ref (v 70), .ref (v 71), .ref (v 72), .int 0, .int 0, .ref (v 75), .ref (v 76), .ref (v 77), .int 0, .int 0])), (v 77, .inl (k 2, 4, .inl (fun _ => 0)))]
set_option maxRecDepth 100000 in
theorem sub_10 (k : Nat → ClassId) (x : Nat) (u : Nat → Nat → Nat) (y : Nat) (v : Nat → Nat) : List.Sublist (SW10 k x u y v) (G9n k x u ++ G10 k y v) := by
  have h : List.Sublist ((([(x, .inr (9, [.ref (u 0 0), .ref (u 0 1), .ref (u 0 2), .ref (u 0 3), .int 0, .ref (u 0 4), .ref (u 0 17), .ref (u 0 6), .ref (u 0 18), .ref (u 0 19), .ref (u 0 20), .ref (u 0 21)])), (u 0 6, .inl (k 4, 4, .inr (.inr (.inr (.inr (va_up (va_up (va_up (va_up (fun _ => none) 0 (some (u 0 13))) 1 (some (u 0 14))) 2 (some (u 0 15))) 3 (some (u 0 16))))))))] ++ (((((((((((((((((((([] : va_W) ++ ([] : va_W)) ++ ([] : va_W)) ++ ([] : va_W)) ++ ([] : va_W)) ++ ([] : va_W)) ++ ([] : va_W)) ++ ([] : va_W)) ++ ([] : va_W)) ++ ([] : va_W)) ++ ([] : va_W)) ++ ([] : va_W)) ++ ([] : va_W)) ++ [(u 0 14, .inr (1, [.int 0, .ref (u 8 0), .ref (u 8 8), .ref (u 8 18)]))]) ++ ([] : va_W)) ++ ([] : va_W)) ++ ([] : va_W)) ++ ([] : va_W)) ++ ([] : va_W)) ++ ([] : va_W))) ++ [(y, .inr (10, [.int 0, .ref (v 1), .ref (v 2), .ref (v 3), .ref (v 4), .ref (v 5), .ref (v 6), .ref (v 7), .ref (v 8), .ref (v 9), .ref (v 10), .ref (v 11), .ref (v 12), .ref (v 13), .ref (v 14), .ref (v 15), .ref (v 16), .ref (v 17), .ref (v 18), .ref (v 19), .ref (v 20), .ref (v 21), .ref (v 22), .ref (v 23), .ref (v 24), .ref (v 25), .ref (v 26), .ref (v 27), .ref (v 28), .ref (v 29), .ref (v 30), .ref (v 31), .ref (v 32), .ref (v 33), .ref (v 34), .ref (v 35), .ref (v 36), .int 0, .int 0, .int 0, .int 0, .int 0, .int 0, .int 0, .int 0, .int 0, .int 13, .int 0, .ref (v 48), .ref (v 49), .ref (v 50), .ref (v 51), .ref (v 52), .ref (v 53), .ref (v 54), .ref (v 55), .ref (v 56), .ref (v 57), .ref (v 58), .ref (v 59), .ref (v 60), .int 0, .int 0, .int 0, .int 0, .int 0, .int 0, .int 0, .ref (v 68), .ref (v 69), .ref (v 70), .ref (v 71), .ref (v 72), .int 0, .int 0, .ref (v 75), .ref (v 76), .ref (v 77), .int 0, .int 0])), (v 77, .inl (k 2, 4, .inl (fun _ => 0)))]) : va_W) (G9n k x u ++ G10 k y v) := List.Sublist.append (List.Sublist.append (List.Sublist.cons₂ _ (List.Sublist.cons _ (List.Sublist.cons₂ _ (List.nil_sublist _)))) (List.Sublist.append (List.Sublist.append (List.Sublist.append (List.Sublist.append (List.Sublist.append (List.Sublist.append (List.Sublist.append (List.Sublist.append (List.Sublist.append (List.Sublist.append (List.Sublist.append (List.Sublist.append (List.Sublist.append (List.Sublist.append (List.Sublist.append (List.Sublist.append (List.Sublist.append (List.Sublist.append (List.Sublist.append (List.Sublist.refl ([] : va_W)) (List.nil_sublist _)) (List.nil_sublist _)) (List.nil_sublist _)) (List.nil_sublist _)) (List.nil_sublist _)) (List.nil_sublist _)) (List.nil_sublist _)) (List.nil_sublist _)) (List.nil_sublist _)) (List.nil_sublist _)) (List.nil_sublist _)) (List.nil_sublist _)) (List.Sublist.cons₂ _ (List.nil_sublist _))) (List.nil_sublist _)) (List.nil_sublist _)) (List.nil_sublist _)) (List.nil_sublist _)) (List.nil_sublist _)) (List.nil_sublist _))) (List.Sublist.cons₂ _ (List.Sublist.cons _ (List.Sublist.cons _ (List.Sublist.cons _ (List.Sublist.cons _ (List.Sublist.cons _ (List.Sublist.cons _ (List.Sublist.cons _ (List.Sublist.cons _ (List.Sublist.cons _ (List.Sublist.cons _ (List.Sublist.cons _ (List.Sublist.cons _ (List.Sublist.cons _ (List.Sublist.cons _ (List.Sublist.cons _ (List.Sublist.cons _ (List.Sublist.cons _ (List.Sublist.cons _ (List.Sublist.cons _ (List.Sublist.cons _ (List.Sublist.cons _ (List.Sublist.cons _ (List.Sublist.cons _ (List.Sublist.cons _ (List.Sublist.cons _ (List.Sublist.cons _ (List.Sublist.cons _ (List.Sublist.cons _ (List.Sublist.cons _ (List.Sublist.cons _ (List.Sublist.cons _ (List.Sublist.cons _ (List.Sublist.cons _ (List.Sublist.cons _ (List.Sublist.cons _ (List.Sublist.cons _ (List.Sublist.cons _ (List.Sublist.cons _ (List.Sublist.cons _ (List.Sublist.cons _ (List.Sublist.cons _ (List.Sublist.cons _ (List.Sublist.cons _ (List.Sublist.cons _ (List.Sublist.cons _ (List.Sublist.cons _ (List.Sublist.cons _ (List.Sublist.cons _ (List.Sublist.cons _ (List.Sublist.cons _ (List.Sublist.cons _ (List.Sublist.cons _ (List.Sublist.cons _ (List.Sublist.cons _ (List.Sublist.cons _ (List.Sublist.cons _ (List.Sublist.cons₂ _ (List.nil_sublist _)))))))))))))))))))))))))))))))))))))))))))))))))))))))))))
  have e : SW10 k x u y v = ((([(x, .inr (9, [.ref (u 0 0), .ref (u 0 1), .ref (u 0 2), .ref (u 0 3), .int 0, .ref (u 0 4), .ref (u 0 17), .ref (u 0 6), .ref (u 0 18), .ref (u 0 19), .ref (u 0 20), .ref (u 0 21)])), (u 0 6, .inl (k 4, 4, .inr (.inr (.inr (.inr (va_up (va_up (va_up (va_up (fun _ => none) 0 (some (u 0 13))) 1 (some (u 0 14))) 2 (some (u 0 15))) 3 (some (u 0 16))))))))] ++ (((((((((((((((((((([] : va_W) ++ ([] : va_W)) ++ ([] : va_W)) ++ ([] : va_W)) ++ ([] : va_W)) ++ ([] : va_W)) ++ ([] : va_W)) ++ ([] : va_W)) ++ ([] : va_W)) ++ ([] : va_W)) ++ ([] : va_W)) ++ ([] : va_W)) ++ ([] : va_W)) ++ [(u 0 14, .inr (1, [.int 0, .ref (u 8 0), .ref (u 8 8), .ref (u 8 18)]))]) ++ ([] : va_W)) ++ ([] : va_W)) ++ ([] : va_W)) ++ ([] : va_W)) ++ ([] : va_W)) ++ ([] : va_W))) ++ [(y, .inr (10, [.int 0, .ref (v 1), .ref (v 2), .ref (v 3), .ref (v 4), .ref (v 5), .ref (v 6), .ref (v 7), .ref (v 8), .ref (v 9), .ref (v 10), .ref (v 11), .ref (v 12), .ref (v 13), .ref (v 14), .ref (v 15), .ref (v 16), .ref (v 17), .ref (v 18), .ref (v 19), .ref (v 20), .ref (v 21), .ref (v 22), .ref (v 23), .ref (v 24), .ref (v 25), .ref (v 26), .ref (v 27), .ref (v 28), .ref (v 29), .ref (v 30), .ref (v 31), .ref (v 32), .ref (v 33), .ref (v 34), .ref (v 35), .ref (v 36), .int 0, .int 0, .int 0, .int 0, .int 0, .int 0, .int 0, .int 0, .int 0, .int 13, .int 0, .ref (v 48), .ref (v 49), .ref (v 50), .ref (v 51), .ref (v 52), .ref (v 53), .ref (v 54), .ref (v 55), .ref (v 56), .ref (v 57), .ref (v 58), .ref (v 59), .ref (v 60), .int 0, .int 0, .int 0, .int 0, .int 0, .int 0, .int 0, .ref (v 68), .ref (v 69), .ref (v 70), .ref (v 71), .ref (v 72), .int 0, .int 0, .ref (v 75), .ref (v 76), .ref (v 77), .int 0, .int 0])), (v 77, .inl (k 2, 4, .inl (fun _ => 0)))]) : va_W) := by simp only [SW10, List.nil_append, List.append_nil, List.cons_append]
  rw [e]
  exact h
set_option maxHeartbeats 4000000 in
set_option maxRecDepth 100000 in
/-- back -/
theorem lawm_back_1 {p : Program} {l : Launch} {e : Env} {s : State} {m : MethodId} {below : List Frame} {meth : Method} {c : Code} {D : va_G} {k : Nat → ClassId} {sd : Nat → Nat} {A : Nat → Prop} {b : Nat} {xs : Nat → Int32} {x y : Nat} {u : Nat → Nat → Nat} {v : Nat → Nat} {H : Heap} {locs : List Loc} {ls : Array Slot} (C : LC p s m meth c D k sd A b xs) (hP : va_P D vwCl (SW10 k x u y v) H) (hD : va_D A (SW10 k x u y v)) (hS : va_S A s.heap H locs) (hl : lv_has ls 4 [(0, .ref b), (1, .ref x), (2, .ref y), (3, .int 0)]) (hq : xs 1 = 1) : W p l e room_1 s m #[Value.ref b] below meth c H locs 287 18933 (lw_Z below #[Value.ref b] s) (F0 m 1543 ls []) := by
  obtain ⟨hx, hb, hr, hml, hown, hw, hXs, hbl, hlocks, hK, hE, hX, hA, hAr, hbA⟩ := id C
  refine lv_aload_n hx hb dL_law_1543 rfl (lv_at hl 1 rfl) ?_
  refine lv_aload_n hx hb dL_law_1544 rfl (lv_at hl 0 rfl) ?_
  refine lv_iload_n hx hb dL_law_1545 rfl (lv_at hl 3 rfl) ?_
  refine lv_iconst (v := 1) hx hb dL_law_1546 (by decide) ?_
  refine lv_iadd hx hb dL_law_1547 ?_
  refine x_top (v := 1) (by decide) ?_
  refine va_sld hx hb hXs hbl hbA hS (i := 1) (by unfold vp_in; decide) dL_law_1548 ?_
  refine x_top (v := 1) hq ?_
  refine x_i (wr := [(y, .inr (10, [.int 0, .ref (v 1), .ref (v 2), .ref (v 3), .ref (v 4), .ref (v 5), .ref (v 6), .ref (v 7), .ref (v 8), .ref (v 9), .ref (v 10), .ref (v 11), .ref (v 12), .ref (v 13), .ref (v 14), .ref (v 15), .ref (v 16), .ref (v 17), .ref (v 18), .ref (v 19), .ref (v 20), .ref (v 21), .ref (v 22), .ref (v 23), .ref (v 24), .ref (v 25), .ref (v 26), .ref (v 27), .ref (v 28), .ref (v 29), .ref (v 30), .ref (v 31), .ref (v 32), .ref (v 33), .ref (v 34), .ref (v 35), .ref (v 36), .int 0, .int 0, .int 0, .int 0, .int 0, .int 0, .int 0, .int 0, .int 0, .int 13, .int 0, .ref (v 48), .ref (v 49), .ref (v 50), .ref (v 51), .ref (v 52), .ref (v 53), .ref (v 54), .ref (v 55), .ref (v 56), .ref (v 57), .ref (v 58), .ref (v 59), .ref (v 60), .int 0, .int 0, .int 0, .int 0, .int 0, .int 0, .int 0, .ref (v 68), .ref (v 69), .ref (v 70), .ref (v 71), .ref (v 72), .int 0, .int 0, .ref (v 75), .ref (v 76), .ref (v 77), .int 0, .int 0])), (v 77, .inl (k 2, 4, .inl (fun _ => 0)))]) (va_runV (As := [.int 1]) (rest := []) ⟨hx, hb, hml, hown, hw⟩ (kX9_back_1 l D k sd x (u 0 0) (u 0 1) (u 0 2) (u 0 3) (u 0 4) (u 0 17) (u 0 6) (u 0 18) (u 0 19) (u 0 20) (u 0 21) (u 0 13) (u 0 14) (u 0 15) (u 0 16) (u 8 0) (u 8 8) (u 8 18) H.size) (cwV 1 hw (gV wd_1122 wd_1123 wd_1124 wd_1 wd_1125) rfl rfl rfl (by decide +kernel) ⟨Nat.le_of_ble_eq_true rfl, Nat.le_of_ble_eq_true rfl⟩) (pre_V (ci := 9) (r := (RX9, TX9, 12)) hK hE hX hP hD hS hA [0, 1, 2] (by decide) rfl rfl (q0 := 0) rfl) rfl rfl hl.1 rfl (lv_room (Nat.le_of_ble_eq_true rfl)) dL_law_1549 ⟨Nat.le_of_ble_eq_true rfl, Nat.le_of_ble_eq_true rfl⟩) hP hD hS hA [0, 1, 2] [3, 4] rfl rfl (by decide) (by decide) (fun r_3 u_1 H locs hp_2 hP hD hS => ?_)
  subst hp_2
  have hP : va_P D vwCl ([(y, .inr (10, [.int 0, .ref (v 1), .ref (v 2), .ref (v 3), .ref (v 4), .ref (v 5), .ref (v 6), .ref (v 7), .ref (v 8), .ref (v 9), .ref (v 10), .ref (v 11), .ref (v 12), .ref (v 13), .ref (v 14), .ref (v 15), .ref (v 16), .ref (v 17), .ref (v 18), .ref (v 19), .ref (v 20), .ref (v 21), .ref (v 22), .ref (v 23), .ref (v 24), .ref (v 25), .ref (v 26), .ref (v 27), .ref (v 28), .ref (v 29), .ref (v 30), .ref (v 31), .ref (v 32), .ref (v 33), .ref (v 34), .ref (v 35), .ref (v 36), .int 0, .int 0, .int 0, .int 0, .int 0, .int 0, .int 0, .int 0, .int 0, .int 13, .int 0, .ref (v 48), .ref (v 49), .ref (v 50), .ref (v 51), .ref (v 52), .ref (v 53), .ref (v 54), .ref (v 55), .ref (v 56), .ref (v 57), .ref (v 58), .ref (v 59), .ref (v 60), .int 0, .int 0, .int 0, .int 0, .int 0, .int 0, .int 0, .ref (v 68), .ref (v 69), .ref (v 70), .ref (v 71), .ref (v 72), .int 0, .int 0, .ref (v 75), .ref (v 76), .ref (v 77), .int 0, .int 0])), (v 77, .inl (k 2, 4, .inl (fun _ => 0)))]) H := hP
  have hD : va_D A ([(y, .inr (10, [.int 0, .ref (v 1), .ref (v 2), .ref (v 3), .ref (v 4), .ref (v 5), .ref (v 6), .ref (v 7), .ref (v 8), .ref (v 9), .ref (v 10), .ref (v 11), .ref (v 12), .ref (v 13), .ref (v 14), .ref (v 15), .ref (v 16), .ref (v 17), .ref (v 18), .ref (v 19), .ref (v 20), .ref (v 21), .ref (v 22), .ref (v 23), .ref (v 24), .ref (v 25), .ref (v 26), .ref (v 27), .ref (v 28), .ref (v 29), .ref (v 30), .ref (v 31), .ref (v 32), .ref (v 33), .ref (v 34), .ref (v 35), .ref (v 36), .int 0, .int 0, .int 0, .int 0, .int 0, .int 0, .int 0, .int 0, .int 0, .int 13, .int 0, .ref (v 48), .ref (v 49), .ref (v 50), .ref (v 51), .ref (v 52), .ref (v 53), .ref (v 54), .ref (v 55), .ref (v 56), .ref (v 57), .ref (v 58), .ref (v 59), .ref (v 60), .int 0, .int 0, .int 0, .int 0, .int 0, .int 0, .int 0, .ref (v 68), .ref (v 69), .ref (v 70), .ref (v 71), .ref (v 72), .int 0, .int 0, .ref (v 75), .ref (v 76), .ref (v 77), .int 0, .int 0])), (v 77, .inl (k 2, 4, .inl (fun _ => 0)))]) := hD
  refine lv_aload_n hx hb dL_law_1552 rfl (lv_at hl 2 rfl) ?_
  refine lv_aload_n hx hb dL_law_1553 rfl (lv_at hl 0 rfl) ?_
  refine lv_iload_n hx hb dL_law_1554 rfl (lv_at hl 3 rfl) ?_
  refine lv_iconst (v := 1) hx hb dL_law_1555 (by decide) ?_
  refine lv_iadd hx hb dL_law_1556 ?_
  refine x_top (v := 1) (by decide) ?_
  refine va_sld hx hb hXs hbl hbA hS (i := 1) (by unfold vp_in; decide) dL_law_1557 ?_
  refine x_top (v := 1) hq ?_
  refine x_i (wr := ([] : va_W)) (va_runV (As := [.int 1]) (rest := [.int (-1)]) ⟨hx, hb, hml, hown, hw⟩ (kX10_back_1 l D k sd y v  H.size) (cwV 1 hw (gV wd_1970 wd_1971 wd_1972 wd_11 wd_1973) rfl rfl rfl (by decide +kernel) ⟨Nat.le_of_ble_eq_true rfl, Nat.le_of_ble_eq_true rfl⟩) (pre_V (ci := 10) (r := (RX10, TX10, 80)) hK hE hX hP hD hS hA [0, 1] (by decide) rfl rfl (q0 := 0) rfl) rfl rfl hl.1 rfl (lv_room (Nat.le_of_ble_eq_true rfl)) dL_law_1558 ⟨Nat.le_of_ble_eq_true rfl, Nat.le_of_ble_eq_true rfl⟩) hP hD hS hA [0, 1] [] rfl rfl (by decide) (by decide) (fun r_6 u_4 H locs hp_5 hP hD hS => ?_)
  subst hp_5
  have hP : va_P D vwCl (([] : va_W)) H := hP
  have hD : va_D A (([] : va_W)) := hD
  refine lv_icmp_eq (tgt := 1566) hx hb dL_law_1561 (by decide) (fun _ => ?_) (fun h => absurd (by decide) h)
  exact law_end C hS (lv_sub hl [0, 1, 2, 3] rfl)
def SW11 (k : Nat → ClassId) (x : Nat) (u : Nat → Nat → Nat) (y : Nat) (v : Nat → Nat) : va_W := [(x, .inr (9, [.ref (u 0 0), .ref (u 0 1), .ref (u 0 2), .ref (u 0 3), .int 0, .ref (u 0 4), .ref (u 0 17), .ref (u 0 6), .ref (u 0 18), .ref (u 0 19), .ref (u 0 20), .ref (u 0 21)])), (u 0 6, .inl (k 4, 4, .inr (.inr (.inr (.inr (va_up (va_up (va_up (va_up (fun _ => none) 0 (some (u 0 13))) 1 (some (u 0 14))) 2 (some (u 0 15))) 3 (some (u 0 16)))))))), (u 0 15, .inr (1, [.int 0, .ref (u 9 0), .ref (u 9 8), .ref (u 9 18)])), (y, .inr (10, [.int 0, .ref (v 1), .ref (v 2), .ref (v 3), .ref (v 4), .ref (v 5), .ref (v 6), .ref (v 7), .ref (v 8), .ref (v 9), .ref (v 10), .ref (v 11), .ref (v 12), .ref (v 13), .ref (v 14), .ref (v 15), .ref (v 16), .ref (v 17), .ref (v 18), .ref (v 19), .ref (v 20), .ref (v 21), .ref (v 22), .ref (v 23), .ref (v 24), .ref (v 25), .ref (v 26), .ref (v 27), .ref (v 28), .ref (v 29), .ref (v 30), .ref (v 31), .ref (v 32), .ref (v 33), .ref (v 34), .ref (v 35), .ref (v 36), .int 0, .int 0, .int 0, .int 0, .int 0, .int 0, .int 0, .int 0, .int 0, .int 13, .int 0, .ref (v 48), .ref (v 49), .ref (v 50), .ref (v 51), .ref (v 52), .ref (v 53), .ref (v 54), .ref (v 55), .ref (v 56), .ref (v 57), .ref (v 58), .ref (v 59), .ref (v 60), .int 0, .int 0, .int 0, .int 0, .int 0, .int 0, .int 0, .ref (v 68), .ref (v 69), .ref (v 70), .ref (v 71), .ref (v 72), .int 0, .int 0, .ref (v 75), .ref (v 76), .ref (v 77), .int 0, .int 0])), (v 77, .inl (k 2, 4, .inl (fun _ => 0)))]
set_option maxRecDepth 100000 in
theorem sub_11 (k : Nat → ClassId) (x : Nat) (u : Nat → Nat → Nat) (y : Nat) (v : Nat → Nat) : List.Sublist (SW11 k x u y v) (G9n k x u ++ G10 k y v) := by
  have h : List.Sublist ((([(x, .inr (9, [.ref (u 0 0), .ref (u 0 1), .ref (u 0 2), .ref (u 0 3), .int 0, .ref (u 0 4), .ref (u 0 17), .ref (u 0 6), .ref (u 0 18), .ref (u 0 19), .ref (u 0 20), .ref (u 0 21)])), (u 0 6, .inl (k 4, 4, .inr (.inr (.inr (.inr (va_up (va_up (va_up (va_up (fun _ => none) 0 (some (u 0 13))) 1 (some (u 0 14))) 2 (some (u 0 15))) 3 (some (u 0 16))))))))] ++ (((((((((((((((((((([] : va_W) ++ ([] : va_W)) ++ ([] : va_W)) ++ ([] : va_W)) ++ ([] : va_W)) ++ ([] : va_W)) ++ ([] : va_W)) ++ ([] : va_W)) ++ ([] : va_W)) ++ ([] : va_W)) ++ ([] : va_W)) ++ ([] : va_W)) ++ ([] : va_W)) ++ ([] : va_W)) ++ [(u 0 15, .inr (1, [.int 0, .ref (u 9 0), .ref (u 9 8), .ref (u 9 18)]))]) ++ ([] : va_W)) ++ ([] : va_W)) ++ ([] : va_W)) ++ ([] : va_W)) ++ ([] : va_W))) ++ [(y, .inr (10, [.int 0, .ref (v 1), .ref (v 2), .ref (v 3), .ref (v 4), .ref (v 5), .ref (v 6), .ref (v 7), .ref (v 8), .ref (v 9), .ref (v 10), .ref (v 11), .ref (v 12), .ref (v 13), .ref (v 14), .ref (v 15), .ref (v 16), .ref (v 17), .ref (v 18), .ref (v 19), .ref (v 20), .ref (v 21), .ref (v 22), .ref (v 23), .ref (v 24), .ref (v 25), .ref (v 26), .ref (v 27), .ref (v 28), .ref (v 29), .ref (v 30), .ref (v 31), .ref (v 32), .ref (v 33), .ref (v 34), .ref (v 35), .ref (v 36), .int 0, .int 0, .int 0, .int 0, .int 0, .int 0, .int 0, .int 0, .int 0, .int 13, .int 0, .ref (v 48), .ref (v 49), .ref (v 50), .ref (v 51), .ref (v 52), .ref (v 53), .ref (v 54), .ref (v 55), .ref (v 56), .ref (v 57), .ref (v 58), .ref (v 59), .ref (v 60), .int 0, .int 0, .int 0, .int 0, .int 0, .int 0, .int 0, .ref (v 68), .ref (v 69), .ref (v 70), .ref (v 71), .ref (v 72), .int 0, .int 0, .ref (v 75), .ref (v 76), .ref (v 77), .int 0, .int 0])), (v 77, .inl (k 2, 4, .inl (fun _ => 0)))]) : va_W) (G9n k x u ++ G10 k y v) := List.Sublist.append (List.Sublist.append (List.Sublist.cons₂ _ (List.Sublist.cons _ (List.Sublist.cons₂ _ (List.nil_sublist _)))) (List.Sublist.append (List.Sublist.append (List.Sublist.append (List.Sublist.append (List.Sublist.append (List.Sublist.append (List.Sublist.append (List.Sublist.append (List.Sublist.append (List.Sublist.append (List.Sublist.append (List.Sublist.append (List.Sublist.append (List.Sublist.append (List.Sublist.append (List.Sublist.append (List.Sublist.append (List.Sublist.append (List.Sublist.append (List.Sublist.refl ([] : va_W)) (List.nil_sublist _)) (List.nil_sublist _)) (List.nil_sublist _)) (List.nil_sublist _)) (List.nil_sublist _)) (List.nil_sublist _)) (List.nil_sublist _)) (List.nil_sublist _)) (List.nil_sublist _)) (List.nil_sublist _)) (List.nil_sublist _)) (List.nil_sublist _)) (List.nil_sublist _)) (List.Sublist.cons₂ _ (List.nil_sublist _))) (List.nil_sublist _)) (List.nil_sublist _)) (List.nil_sublist _)) (List.nil_sublist _)) (List.nil_sublist _))) (List.Sublist.cons₂ _ (List.Sublist.cons _ (List.Sublist.cons _ (List.Sublist.cons _ (List.Sublist.cons _ (List.Sublist.cons _ (List.Sublist.cons _ (List.Sublist.cons _ (List.Sublist.cons _ (List.Sublist.cons _ (List.Sublist.cons _ (List.Sublist.cons _ (List.Sublist.cons _ (List.Sublist.cons _ (List.Sublist.cons _ (List.Sublist.cons _ (List.Sublist.cons _ (List.Sublist.cons _ (List.Sublist.cons _ (List.Sublist.cons _ (List.Sublist.cons _ (List.Sublist.cons _ (List.Sublist.cons _ (List.Sublist.cons _ (List.Sublist.cons _ (List.Sublist.cons _ (List.Sublist.cons _ (List.Sublist.cons _ (List.Sublist.cons _ (List.Sublist.cons _ (List.Sublist.cons _ (List.Sublist.cons _ (List.Sublist.cons _ (List.Sublist.cons _ (List.Sublist.cons _ (List.Sublist.cons _ (List.Sublist.cons _ (List.Sublist.cons _ (List.Sublist.cons _ (List.Sublist.cons _ (List.Sublist.cons _ (List.Sublist.cons _ (List.Sublist.cons _ (List.Sublist.cons _ (List.Sublist.cons _ (List.Sublist.cons _ (List.Sublist.cons _ (List.Sublist.cons _ (List.Sublist.cons _ (List.Sublist.cons _ (List.Sublist.cons _ (List.Sublist.cons _ (List.Sublist.cons _ (List.Sublist.cons _ (List.Sublist.cons _ (List.Sublist.cons _ (List.Sublist.cons _ (List.Sublist.cons₂ _ (List.nil_sublist _)))))))))))))))))))))))))))))))))))))))))))))))))))))))))))
  have e : SW11 k x u y v = ((([(x, .inr (9, [.ref (u 0 0), .ref (u 0 1), .ref (u 0 2), .ref (u 0 3), .int 0, .ref (u 0 4), .ref (u 0 17), .ref (u 0 6), .ref (u 0 18), .ref (u 0 19), .ref (u 0 20), .ref (u 0 21)])), (u 0 6, .inl (k 4, 4, .inr (.inr (.inr (.inr (va_up (va_up (va_up (va_up (fun _ => none) 0 (some (u 0 13))) 1 (some (u 0 14))) 2 (some (u 0 15))) 3 (some (u 0 16))))))))] ++ (((((((((((((((((((([] : va_W) ++ ([] : va_W)) ++ ([] : va_W)) ++ ([] : va_W)) ++ ([] : va_W)) ++ ([] : va_W)) ++ ([] : va_W)) ++ ([] : va_W)) ++ ([] : va_W)) ++ ([] : va_W)) ++ ([] : va_W)) ++ ([] : va_W)) ++ ([] : va_W)) ++ ([] : va_W)) ++ [(u 0 15, .inr (1, [.int 0, .ref (u 9 0), .ref (u 9 8), .ref (u 9 18)]))]) ++ ([] : va_W)) ++ ([] : va_W)) ++ ([] : va_W)) ++ ([] : va_W)) ++ ([] : va_W))) ++ [(y, .inr (10, [.int 0, .ref (v 1), .ref (v 2), .ref (v 3), .ref (v 4), .ref (v 5), .ref (v 6), .ref (v 7), .ref (v 8), .ref (v 9), .ref (v 10), .ref (v 11), .ref (v 12), .ref (v 13), .ref (v 14), .ref (v 15), .ref (v 16), .ref (v 17), .ref (v 18), .ref (v 19), .ref (v 20), .ref (v 21), .ref (v 22), .ref (v 23), .ref (v 24), .ref (v 25), .ref (v 26), .ref (v 27), .ref (v 28), .ref (v 29), .ref (v 30), .ref (v 31), .ref (v 32), .ref (v 33), .ref (v 34), .ref (v 35), .ref (v 36), .int 0, .int 0, .int 0, .int 0, .int 0, .int 0, .int 0, .int 0, .int 0, .int 13, .int 0, .ref (v 48), .ref (v 49), .ref (v 50), .ref (v 51), .ref (v 52), .ref (v 53), .ref (v 54), .ref (v 55), .ref (v 56), .ref (v 57), .ref (v 58), .ref (v 59), .ref (v 60), .int 0, .int 0, .int 0, .int 0, .int 0, .int 0, .int 0, .ref (v 68), .ref (v 69), .ref (v 70), .ref (v 71), .ref (v 72), .int 0, .int 0, .ref (v 75), .ref (v 76), .ref (v 77), .int 0, .int 0])), (v 77, .inl (k 2, 4, .inl (fun _ => 0)))]) : va_W) := by simp only [SW11, List.nil_append, List.append_nil, List.cons_append]
  rw [e]
  exact h
set_option maxHeartbeats 4000000 in
set_option maxRecDepth 100000 in
/-- back -/
theorem lawm_back_2 {p : Program} {l : Launch} {e : Env} {s : State} {m : MethodId} {below : List Frame} {meth : Method} {c : Code} {D : va_G} {k : Nat → ClassId} {sd : Nat → Nat} {A : Nat → Prop} {b : Nat} {xs : Nat → Int32} {x y : Nat} {u : Nat → Nat → Nat} {v : Nat → Nat} {H : Heap} {locs : List Loc} {ls : Array Slot} (C : LC p s m meth c D k sd A b xs) (hP : va_P D vwCl (SW11 k x u y v) H) (hD : va_D A (SW11 k x u y v)) (hS : va_S A s.heap H locs) (hl : lv_has ls 4 [(0, .ref b), (1, .ref x), (2, .ref y), (3, .int 0)]) (hq : xs 1 = 2) : W p l e room_1 s m #[Value.ref b] below meth c H locs 287 18933 (lw_Z below #[Value.ref b] s) (F0 m 1543 ls []) := by
  obtain ⟨hx, hb, hr, hml, hown, hw, hXs, hbl, hlocks, hK, hE, hX, hA, hAr, hbA⟩ := id C
  refine lv_aload_n hx hb dL_law_1543 rfl (lv_at hl 1 rfl) ?_
  refine lv_aload_n hx hb dL_law_1544 rfl (lv_at hl 0 rfl) ?_
  refine lv_iload_n hx hb dL_law_1545 rfl (lv_at hl 3 rfl) ?_
  refine lv_iconst (v := 1) hx hb dL_law_1546 (by decide) ?_
  refine lv_iadd hx hb dL_law_1547 ?_
  refine x_top (v := 1) (by decide) ?_
  refine va_sld hx hb hXs hbl hbA hS (i := 1) (by unfold vp_in; decide) dL_law_1548 ?_
  refine x_top (v := 2) hq ?_
  refine x_i (wr := [(y, .inr (10, [.int 0, .ref (v 1), .ref (v 2), .ref (v 3), .ref (v 4), .ref (v 5), .ref (v 6), .ref (v 7), .ref (v 8), .ref (v 9), .ref (v 10), .ref (v 11), .ref (v 12), .ref (v 13), .ref (v 14), .ref (v 15), .ref (v 16), .ref (v 17), .ref (v 18), .ref (v 19), .ref (v 20), .ref (v 21), .ref (v 22), .ref (v 23), .ref (v 24), .ref (v 25), .ref (v 26), .ref (v 27), .ref (v 28), .ref (v 29), .ref (v 30), .ref (v 31), .ref (v 32), .ref (v 33), .ref (v 34), .ref (v 35), .ref (v 36), .int 0, .int 0, .int 0, .int 0, .int 0, .int 0, .int 0, .int 0, .int 0, .int 13, .int 0, .ref (v 48), .ref (v 49), .ref (v 50), .ref (v 51), .ref (v 52), .ref (v 53), .ref (v 54), .ref (v 55), .ref (v 56), .ref (v 57), .ref (v 58), .ref (v 59), .ref (v 60), .int 0, .int 0, .int 0, .int 0, .int 0, .int 0, .int 0, .ref (v 68), .ref (v 69), .ref (v 70), .ref (v 71), .ref (v 72), .int 0, .int 0, .ref (v 75), .ref (v 76), .ref (v 77), .int 0, .int 0])), (v 77, .inl (k 2, 4, .inl (fun _ => 0)))]) (va_runV (As := [.int 2]) (rest := []) ⟨hx, hb, hml, hown, hw⟩ (kX9_back_2 l D k sd x (u 0 0) (u 0 1) (u 0 2) (u 0 3) (u 0 4) (u 0 17) (u 0 6) (u 0 18) (u 0 19) (u 0 20) (u 0 21) (u 0 13) (u 0 14) (u 0 15) (u 0 16) (u 9 0) (u 9 8) (u 9 18) H.size) (cwV 1 hw (gV wd_1122 wd_1123 wd_1124 wd_1 wd_1125) rfl rfl rfl (by decide +kernel) ⟨Nat.le_of_ble_eq_true rfl, Nat.le_of_ble_eq_true rfl⟩) (pre_V (ci := 9) (r := (RX9, TX9, 12)) hK hE hX hP hD hS hA [0, 1, 2] (by decide) rfl rfl (q0 := 0) rfl) rfl rfl hl.1 rfl (lv_room (Nat.le_of_ble_eq_true rfl)) dL_law_1549 ⟨Nat.le_of_ble_eq_true rfl, Nat.le_of_ble_eq_true rfl⟩) hP hD hS hA [0, 1, 2] [3, 4] rfl rfl (by decide) (by decide) (fun r_3 u_1 H locs hp_2 hP hD hS => ?_)
  subst hp_2
  have hP : va_P D vwCl ([(y, .inr (10, [.int 0, .ref (v 1), .ref (v 2), .ref (v 3), .ref (v 4), .ref (v 5), .ref (v 6), .ref (v 7), .ref (v 8), .ref (v 9), .ref (v 10), .ref (v 11), .ref (v 12), .ref (v 13), .ref (v 14), .ref (v 15), .ref (v 16), .ref (v 17), .ref (v 18), .ref (v 19), .ref (v 20), .ref (v 21), .ref (v 22), .ref (v 23), .ref (v 24), .ref (v 25), .ref (v 26), .ref (v 27), .ref (v 28), .ref (v 29), .ref (v 30), .ref (v 31), .ref (v 32), .ref (v 33), .ref (v 34), .ref (v 35), .ref (v 36), .int 0, .int 0, .int 0, .int 0, .int 0, .int 0, .int 0, .int 0, .int 0, .int 13, .int 0, .ref (v 48), .ref (v 49), .ref (v 50), .ref (v 51), .ref (v 52), .ref (v 53), .ref (v 54), .ref (v 55), .ref (v 56), .ref (v 57), .ref (v 58), .ref (v 59), .ref (v 60), .int 0, .int 0, .int 0, .int 0, .int 0, .int 0, .int 0, .ref (v 68), .ref (v 69), .ref (v 70), .ref (v 71), .ref (v 72), .int 0, .int 0, .ref (v 75), .ref (v 76), .ref (v 77), .int 0, .int 0])), (v 77, .inl (k 2, 4, .inl (fun _ => 0)))]) H := hP
  have hD : va_D A ([(y, .inr (10, [.int 0, .ref (v 1), .ref (v 2), .ref (v 3), .ref (v 4), .ref (v 5), .ref (v 6), .ref (v 7), .ref (v 8), .ref (v 9), .ref (v 10), .ref (v 11), .ref (v 12), .ref (v 13), .ref (v 14), .ref (v 15), .ref (v 16), .ref (v 17), .ref (v 18), .ref (v 19), .ref (v 20), .ref (v 21), .ref (v 22), .ref (v 23), .ref (v 24), .ref (v 25), .ref (v 26), .ref (v 27), .ref (v 28), .ref (v 29), .ref (v 30), .ref (v 31), .ref (v 32), .ref (v 33), .ref (v 34), .ref (v 35), .ref (v 36), .int 0, .int 0, .int 0, .int 0, .int 0, .int 0, .int 0, .int 0, .int 0, .int 13, .int 0, .ref (v 48), .ref (v 49), .ref (v 50), .ref (v 51), .ref (v 52), .ref (v 53), .ref (v 54), .ref (v 55), .ref (v 56), .ref (v 57), .ref (v 58), .ref (v 59), .ref (v 60), .int 0, .int 0, .int 0, .int 0, .int 0, .int 0, .int 0, .ref (v 68), .ref (v 69), .ref (v 70), .ref (v 71), .ref (v 72), .int 0, .int 0, .ref (v 75), .ref (v 76), .ref (v 77), .int 0, .int 0])), (v 77, .inl (k 2, 4, .inl (fun _ => 0)))]) := hD
  refine lv_aload_n hx hb dL_law_1552 rfl (lv_at hl 2 rfl) ?_
  refine lv_aload_n hx hb dL_law_1553 rfl (lv_at hl 0 rfl) ?_
  refine lv_iload_n hx hb dL_law_1554 rfl (lv_at hl 3 rfl) ?_
  refine lv_iconst (v := 1) hx hb dL_law_1555 (by decide) ?_
  refine lv_iadd hx hb dL_law_1556 ?_
  refine x_top (v := 1) (by decide) ?_
  refine va_sld hx hb hXs hbl hbA hS (i := 1) (by unfold vp_in; decide) dL_law_1557 ?_
  refine x_top (v := 2) hq ?_
  refine x_i (wr := ([] : va_W)) (va_runV (As := [.int 2]) (rest := [.int (-1)]) ⟨hx, hb, hml, hown, hw⟩ (kX10_back_2 l D k sd y v  H.size) (cwV 1 hw (gV wd_1970 wd_1971 wd_1972 wd_11 wd_1973) rfl rfl rfl (by decide +kernel) ⟨Nat.le_of_ble_eq_true rfl, Nat.le_of_ble_eq_true rfl⟩) (pre_V (ci := 10) (r := (RX10, TX10, 80)) hK hE hX hP hD hS hA [0, 1] (by decide) rfl rfl (q0 := 0) rfl) rfl rfl hl.1 rfl (lv_room (Nat.le_of_ble_eq_true rfl)) dL_law_1558 ⟨Nat.le_of_ble_eq_true rfl, Nat.le_of_ble_eq_true rfl⟩) hP hD hS hA [0, 1] [] rfl rfl (by decide) (by decide) (fun r_6 u_4 H locs hp_5 hP hD hS => ?_)
  subst hp_5
  have hP : va_P D vwCl (([] : va_W)) H := hP
  have hD : va_D A (([] : va_W)) := hD
  refine lv_icmp_eq (tgt := 1566) hx hb dL_law_1561 (by decide) (fun _ => ?_) (fun h => absurd (by decide) h)
  exact law_end C hS (lv_sub hl [0, 1, 2, 3] rfl)
def SW12 (k : Nat → ClassId) (x : Nat) (u : Nat → Nat → Nat) (y : Nat) (v : Nat → Nat) : va_W := [(x, .inr (9, [.ref (u 0 0), .ref (u 0 1), .ref (u 0 2), .ref (u 0 3), .int 0, .ref (u 0 4), .ref (u 0 17), .ref (u 0 6), .ref (u 0 18), .ref (u 0 19), .ref (u 0 20), .ref (u 0 21)])), (u 0 6, .inl (k 4, 4, .inr (.inr (.inr (.inr (va_up (va_up (va_up (va_up (fun _ => none) 0 (some (u 0 13))) 1 (some (u 0 14))) 2 (some (u 0 15))) 3 (some (u 0 16)))))))), (u 0 16, .inr (1, [.int 0, .ref (u 10 0), .ref (u 10 8), .ref (u 10 18)])), (y, .inr (10, [.int 0, .ref (v 1), .ref (v 2), .ref (v 3), .ref (v 4), .ref (v 5), .ref (v 6), .ref (v 7), .ref (v 8), .ref (v 9), .ref (v 10), .ref (v 11), .ref (v 12), .ref (v 13), .ref (v 14), .ref (v 15), .ref (v 16), .ref (v 17), .ref (v 18), .ref (v 19), .ref (v 20), .ref (v 21), .ref (v 22), .ref (v 23), .ref (v 24), .ref (v 25), .ref (v 26), .ref (v 27), .ref (v 28), .ref (v 29), .ref (v 30), .ref (v 31), .ref (v 32), .ref (v 33), .ref (v 34), .ref (v 35), .ref (v 36), .int 0, .int 0, .int 0, .int 0, .int 0, .int 0, .int 0, .int 0, .int 0, .int 13, .int 0, .ref (v 48), .ref (v 49), .ref (v 50), .ref (v 51), .ref (v 52), .ref (v 53), .ref (v 54), .ref (v 55), .ref (v 56), .ref (v 57), .ref (v 58), .ref (v 59), .ref (v 60), .int 0, .int 0, .int 0, .int 0, .int 0, .int 0, .int 0, .ref (v 68), .ref (v 69), .ref (v 70), .ref (v 71), .ref (v 72), .int 0, .int 0, .ref (v 75), .ref (v 76), .ref (v 77), .int 0, .int 0])), (v 77, .inl (k 2, 4, .inl (fun _ => 0)))]
set_option maxRecDepth 100000 in
theorem sub_12 (k : Nat → ClassId) (x : Nat) (u : Nat → Nat → Nat) (y : Nat) (v : Nat → Nat) : List.Sublist (SW12 k x u y v) (G9n k x u ++ G10 k y v) := by
  have h : List.Sublist ((([(x, .inr (9, [.ref (u 0 0), .ref (u 0 1), .ref (u 0 2), .ref (u 0 3), .int 0, .ref (u 0 4), .ref (u 0 17), .ref (u 0 6), .ref (u 0 18), .ref (u 0 19), .ref (u 0 20), .ref (u 0 21)])), (u 0 6, .inl (k 4, 4, .inr (.inr (.inr (.inr (va_up (va_up (va_up (va_up (fun _ => none) 0 (some (u 0 13))) 1 (some (u 0 14))) 2 (some (u 0 15))) 3 (some (u 0 16))))))))] ++ (((((((((((((((((((([] : va_W) ++ ([] : va_W)) ++ ([] : va_W)) ++ ([] : va_W)) ++ ([] : va_W)) ++ ([] : va_W)) ++ ([] : va_W)) ++ ([] : va_W)) ++ ([] : va_W)) ++ ([] : va_W)) ++ ([] : va_W)) ++ ([] : va_W)) ++ ([] : va_W)) ++ ([] : va_W)) ++ ([] : va_W)) ++ [(u 0 16, .inr (1, [.int 0, .ref (u 10 0), .ref (u 10 8), .ref (u 10 18)]))]) ++ ([] : va_W)) ++ ([] : va_W)) ++ ([] : va_W)) ++ ([] : va_W))) ++ [(y, .inr (10, [.int 0, .ref (v 1), .ref (v 2), .ref (v 3), .ref (v 4), .ref (v 5), .ref (v 6), .ref (v 7), .ref (v 8), .ref (v 9), .ref (v 10), .ref (v 11), .ref (v 12), .ref (v 13), .ref (v 14), .ref (v 15), .ref (v 16), .ref (v 17), .ref (v 18), .ref (v 19), .ref (v 20), .ref (v 21), .ref (v 22), .ref (v 23), .ref (v 24), .ref (v 25), .ref (v 26), .ref (v 27), .ref (v 28), .ref (v 29), .ref (v 30), .ref (v 31), .ref (v 32), .ref (v 33), .ref (v 34), .ref (v 35), .ref (v 36), .int 0, .int 0, .int 0, .int 0, .int 0, .int 0, .int 0, .int 0, .int 0, .int 13, .int 0, .ref (v 48), .ref (v 49), .ref (v 50), .ref (v 51), .ref (v 52), .ref (v 53), .ref (v 54), .ref (v 55), .ref (v 56), .ref (v 57), .ref (v 58), .ref (v 59), .ref (v 60), .int 0, .int 0, .int 0, .int 0, .int 0, .int 0, .int 0, .ref (v 68), .ref (v 69), .ref (v 70), .ref (v 71), .ref (v 72), .int 0, .int 0, .ref (v 75), .ref (v 76), .ref (v 77), .int 0, .int 0])), (v 77, .inl (k 2, 4, .inl (fun _ => 0)))]) : va_W) (G9n k x u ++ G10 k y v) := List.Sublist.append (List.Sublist.append (List.Sublist.cons₂ _ (List.Sublist.cons _ (List.Sublist.cons₂ _ (List.nil_sublist _)))) (List.Sublist.append (List.Sublist.append (List.Sublist.append (List.Sublist.append (List.Sublist.append (List.Sublist.append (List.Sublist.append (List.Sublist.append (List.Sublist.append (List.Sublist.append (List.Sublist.append (List.Sublist.append (List.Sublist.append (List.Sublist.append (List.Sublist.append (List.Sublist.append (List.Sublist.append (List.Sublist.append (List.Sublist.append (List.Sublist.refl ([] : va_W)) (List.nil_sublist _)) (List.nil_sublist _)) (List.nil_sublist _)) (List.nil_sublist _)) (List.nil_sublist _)) (List.nil_sublist _)) (List.nil_sublist _)) (List.nil_sublist _)) (List.nil_sublist _)) (List.nil_sublist _)) (List.nil_sublist _)) (List.nil_sublist _)) (List.nil_sublist _)) (List.nil_sublist _)) (List.Sublist.cons₂ _ (List.nil_sublist _))) (List.nil_sublist _)) (List.nil_sublist _)) (List.nil_sublist _)) (List.nil_sublist _))) (List.Sublist.cons₂ _ (List.Sublist.cons _ (List.Sublist.cons _ (List.Sublist.cons _ (List.Sublist.cons _ (List.Sublist.cons _ (List.Sublist.cons _ (List.Sublist.cons _ (List.Sublist.cons _ (List.Sublist.cons _ (List.Sublist.cons _ (List.Sublist.cons _ (List.Sublist.cons _ (List.Sublist.cons _ (List.Sublist.cons _ (List.Sublist.cons _ (List.Sublist.cons _ (List.Sublist.cons _ (List.Sublist.cons _ (List.Sublist.cons _ (List.Sublist.cons _ (List.Sublist.cons _ (List.Sublist.cons _ (List.Sublist.cons _ (List.Sublist.cons _ (List.Sublist.cons _ (List.Sublist.cons _ (List.Sublist.cons _ (List.Sublist.cons _ (List.Sublist.cons _ (List.Sublist.cons _ (List.Sublist.cons _ (List.Sublist.cons _ (List.Sublist.cons _ (List.Sublist.cons _ (List.Sublist.cons _ (List.Sublist.cons _ (List.Sublist.cons _ (List.Sublist.cons _ (List.Sublist.cons _ (List.Sublist.cons _ (List.Sublist.cons _ (List.Sublist.cons _ (List.Sublist.cons _ (List.Sublist.cons _ (List.Sublist.cons _ (List.Sublist.cons _ (List.Sublist.cons _ (List.Sublist.cons _ (List.Sublist.cons _ (List.Sublist.cons _ (List.Sublist.cons _ (List.Sublist.cons _ (List.Sublist.cons _ (List.Sublist.cons _ (List.Sublist.cons _ (List.Sublist.cons _ (List.Sublist.cons₂ _ (List.nil_sublist _)))))))))))))))))))))))))))))))))))))))))))))))))))))))))))
  have e : SW12 k x u y v = ((([(x, .inr (9, [.ref (u 0 0), .ref (u 0 1), .ref (u 0 2), .ref (u 0 3), .int 0, .ref (u 0 4), .ref (u 0 17), .ref (u 0 6), .ref (u 0 18), .ref (u 0 19), .ref (u 0 20), .ref (u 0 21)])), (u 0 6, .inl (k 4, 4, .inr (.inr (.inr (.inr (va_up (va_up (va_up (va_up (fun _ => none) 0 (some (u 0 13))) 1 (some (u 0 14))) 2 (some (u 0 15))) 3 (some (u 0 16))))))))] ++ (((((((((((((((((((([] : va_W) ++ ([] : va_W)) ++ ([] : va_W)) ++ ([] : va_W)) ++ ([] : va_W)) ++ ([] : va_W)) ++ ([] : va_W)) ++ ([] : va_W)) ++ ([] : va_W)) ++ ([] : va_W)) ++ ([] : va_W)) ++ ([] : va_W)) ++ ([] : va_W)) ++ ([] : va_W)) ++ ([] : va_W)) ++ [(u 0 16, .inr (1, [.int 0, .ref (u 10 0), .ref (u 10 8), .ref (u 10 18)]))]) ++ ([] : va_W)) ++ ([] : va_W)) ++ ([] : va_W)) ++ ([] : va_W))) ++ [(y, .inr (10, [.int 0, .ref (v 1), .ref (v 2), .ref (v 3), .ref (v 4), .ref (v 5), .ref (v 6), .ref (v 7), .ref (v 8), .ref (v 9), .ref (v 10), .ref (v 11), .ref (v 12), .ref (v 13), .ref (v 14), .ref (v 15), .ref (v 16), .ref (v 17), .ref (v 18), .ref (v 19), .ref (v 20), .ref (v 21), .ref (v 22), .ref (v 23), .ref (v 24), .ref (v 25), .ref (v 26), .ref (v 27), .ref (v 28), .ref (v 29), .ref (v 30), .ref (v 31), .ref (v 32), .ref (v 33), .ref (v 34), .ref (v 35), .ref (v 36), .int 0, .int 0, .int 0, .int 0, .int 0, .int 0, .int 0, .int 0, .int 0, .int 13, .int 0, .ref (v 48), .ref (v 49), .ref (v 50), .ref (v 51), .ref (v 52), .ref (v 53), .ref (v 54), .ref (v 55), .ref (v 56), .ref (v 57), .ref (v 58), .ref (v 59), .ref (v 60), .int 0, .int 0, .int 0, .int 0, .int 0, .int 0, .int 0, .ref (v 68), .ref (v 69), .ref (v 70), .ref (v 71), .ref (v 72), .int 0, .int 0, .ref (v 75), .ref (v 76), .ref (v 77), .int 0, .int 0])), (v 77, .inl (k 2, 4, .inl (fun _ => 0)))]) : va_W) := by simp only [SW12, List.nil_append, List.append_nil, List.cons_append]
  rw [e]
  exact h
set_option maxHeartbeats 4000000 in
set_option maxRecDepth 100000 in
/-- back -/
theorem lawm_back_3 {p : Program} {l : Launch} {e : Env} {s : State} {m : MethodId} {below : List Frame} {meth : Method} {c : Code} {D : va_G} {k : Nat → ClassId} {sd : Nat → Nat} {A : Nat → Prop} {b : Nat} {xs : Nat → Int32} {x y : Nat} {u : Nat → Nat → Nat} {v : Nat → Nat} {H : Heap} {locs : List Loc} {ls : Array Slot} (C : LC p s m meth c D k sd A b xs) (hP : va_P D vwCl (SW12 k x u y v) H) (hD : va_D A (SW12 k x u y v)) (hS : va_S A s.heap H locs) (hl : lv_has ls 4 [(0, .ref b), (1, .ref x), (2, .ref y), (3, .int 0)]) (hq : xs 1 = 3) : W p l e room_1 s m #[Value.ref b] below meth c H locs 287 18933 (lw_Z below #[Value.ref b] s) (F0 m 1543 ls []) := by
  obtain ⟨hx, hb, hr, hml, hown, hw, hXs, hbl, hlocks, hK, hE, hX, hA, hAr, hbA⟩ := id C
  refine lv_aload_n hx hb dL_law_1543 rfl (lv_at hl 1 rfl) ?_
  refine lv_aload_n hx hb dL_law_1544 rfl (lv_at hl 0 rfl) ?_
  refine lv_iload_n hx hb dL_law_1545 rfl (lv_at hl 3 rfl) ?_
  refine lv_iconst (v := 1) hx hb dL_law_1546 (by decide) ?_
  refine lv_iadd hx hb dL_law_1547 ?_
  refine x_top (v := 1) (by decide) ?_
  refine va_sld hx hb hXs hbl hbA hS (i := 1) (by unfold vp_in; decide) dL_law_1548 ?_
  refine x_top (v := 3) hq ?_
  refine x_i (wr := [(y, .inr (10, [.int 0, .ref (v 1), .ref (v 2), .ref (v 3), .ref (v 4), .ref (v 5), .ref (v 6), .ref (v 7), .ref (v 8), .ref (v 9), .ref (v 10), .ref (v 11), .ref (v 12), .ref (v 13), .ref (v 14), .ref (v 15), .ref (v 16), .ref (v 17), .ref (v 18), .ref (v 19), .ref (v 20), .ref (v 21), .ref (v 22), .ref (v 23), .ref (v 24), .ref (v 25), .ref (v 26), .ref (v 27), .ref (v 28), .ref (v 29), .ref (v 30), .ref (v 31), .ref (v 32), .ref (v 33), .ref (v 34), .ref (v 35), .ref (v 36), .int 0, .int 0, .int 0, .int 0, .int 0, .int 0, .int 0, .int 0, .int 0, .int 13, .int 0, .ref (v 48), .ref (v 49), .ref (v 50), .ref (v 51), .ref (v 52), .ref (v 53), .ref (v 54), .ref (v 55), .ref (v 56), .ref (v 57), .ref (v 58), .ref (v 59), .ref (v 60), .int 0, .int 0, .int 0, .int 0, .int 0, .int 0, .int 0, .ref (v 68), .ref (v 69), .ref (v 70), .ref (v 71), .ref (v 72), .int 0, .int 0, .ref (v 75), .ref (v 76), .ref (v 77), .int 0, .int 0])), (v 77, .inl (k 2, 4, .inl (fun _ => 0)))]) (va_runV (As := [.int 3]) (rest := []) ⟨hx, hb, hml, hown, hw⟩ (kX9_back_3 l D k sd x (u 0 0) (u 0 1) (u 0 2) (u 0 3) (u 0 4) (u 0 17) (u 0 6) (u 0 18) (u 0 19) (u 0 20) (u 0 21) (u 0 13) (u 0 14) (u 0 15) (u 0 16) (u 10 0) (u 10 8) (u 10 18) H.size) (cwV 1 hw (gV wd_1122 wd_1123 wd_1124 wd_1 wd_1125) rfl rfl rfl (by decide +kernel) ⟨Nat.le_of_ble_eq_true rfl, Nat.le_of_ble_eq_true rfl⟩) (pre_V (ci := 9) (r := (RX9, TX9, 12)) hK hE hX hP hD hS hA [0, 1, 2] (by decide) rfl rfl (q0 := 0) rfl) rfl rfl hl.1 rfl (lv_room (Nat.le_of_ble_eq_true rfl)) dL_law_1549 ⟨Nat.le_of_ble_eq_true rfl, Nat.le_of_ble_eq_true rfl⟩) hP hD hS hA [0, 1, 2] [3, 4] rfl rfl (by decide) (by decide) (fun r_3 u_1 H locs hp_2 hP hD hS => ?_)
  subst hp_2
  have hP : va_P D vwCl ([(y, .inr (10, [.int 0, .ref (v 1), .ref (v 2), .ref (v 3), .ref (v 4), .ref (v 5), .ref (v 6), .ref (v 7), .ref (v 8), .ref (v 9), .ref (v 10), .ref (v 11), .ref (v 12), .ref (v 13), .ref (v 14), .ref (v 15), .ref (v 16), .ref (v 17), .ref (v 18), .ref (v 19), .ref (v 20), .ref (v 21), .ref (v 22), .ref (v 23), .ref (v 24), .ref (v 25), .ref (v 26), .ref (v 27), .ref (v 28), .ref (v 29), .ref (v 30), .ref (v 31), .ref (v 32), .ref (v 33), .ref (v 34), .ref (v 35), .ref (v 36), .int 0, .int 0, .int 0, .int 0, .int 0, .int 0, .int 0, .int 0, .int 0, .int 13, .int 0, .ref (v 48), .ref (v 49), .ref (v 50), .ref (v 51), .ref (v 52), .ref (v 53), .ref (v 54), .ref (v 55), .ref (v 56), .ref (v 57), .ref (v 58), .ref (v 59), .ref (v 60), .int 0, .int 0, .int 0, .int 0, .int 0, .int 0, .int 0, .ref (v 68), .ref (v 69), .ref (v 70), .ref (v 71), .ref (v 72), .int 0, .int 0, .ref (v 75), .ref (v 76), .ref (v 77), .int 0, .int 0])), (v 77, .inl (k 2, 4, .inl (fun _ => 0)))]) H := hP
  have hD : va_D A ([(y, .inr (10, [.int 0, .ref (v 1), .ref (v 2), .ref (v 3), .ref (v 4), .ref (v 5), .ref (v 6), .ref (v 7), .ref (v 8), .ref (v 9), .ref (v 10), .ref (v 11), .ref (v 12), .ref (v 13), .ref (v 14), .ref (v 15), .ref (v 16), .ref (v 17), .ref (v 18), .ref (v 19), .ref (v 20), .ref (v 21), .ref (v 22), .ref (v 23), .ref (v 24), .ref (v 25), .ref (v 26), .ref (v 27), .ref (v 28), .ref (v 29), .ref (v 30), .ref (v 31), .ref (v 32), .ref (v 33), .ref (v 34), .ref (v 35), .ref (v 36), .int 0, .int 0, .int 0, .int 0, .int 0, .int 0, .int 0, .int 0, .int 0, .int 13, .int 0, .ref (v 48), .ref (v 49), .ref (v 50), .ref (v 51), .ref (v 52), .ref (v 53), .ref (v 54), .ref (v 55), .ref (v 56), .ref (v 57), .ref (v 58), .ref (v 59), .ref (v 60), .int 0, .int 0, .int 0, .int 0, .int 0, .int 0, .int 0, .ref (v 68), .ref (v 69), .ref (v 70), .ref (v 71), .ref (v 72), .int 0, .int 0, .ref (v 75), .ref (v 76), .ref (v 77), .int 0, .int 0])), (v 77, .inl (k 2, 4, .inl (fun _ => 0)))]) := hD
  refine lv_aload_n hx hb dL_law_1552 rfl (lv_at hl 2 rfl) ?_
  refine lv_aload_n hx hb dL_law_1553 rfl (lv_at hl 0 rfl) ?_
  refine lv_iload_n hx hb dL_law_1554 rfl (lv_at hl 3 rfl) ?_
  refine lv_iconst (v := 1) hx hb dL_law_1555 (by decide) ?_
  refine lv_iadd hx hb dL_law_1556 ?_
  refine x_top (v := 1) (by decide) ?_
  refine va_sld hx hb hXs hbl hbA hS (i := 1) (by unfold vp_in; decide) dL_law_1557 ?_
  refine x_top (v := 3) hq ?_
  refine x_i (wr := ([] : va_W)) (va_runV (As := [.int 3]) (rest := [.int (-1)]) ⟨hx, hb, hml, hown, hw⟩ (kX10_back_3 l D k sd y v  H.size) (cwV 1 hw (gV wd_1970 wd_1971 wd_1972 wd_11 wd_1973) rfl rfl rfl (by decide +kernel) ⟨Nat.le_of_ble_eq_true rfl, Nat.le_of_ble_eq_true rfl⟩) (pre_V (ci := 10) (r := (RX10, TX10, 80)) hK hE hX hP hD hS hA [0, 1] (by decide) rfl rfl (q0 := 0) rfl) rfl rfl hl.1 rfl (lv_room (Nat.le_of_ble_eq_true rfl)) dL_law_1558 ⟨Nat.le_of_ble_eq_true rfl, Nat.le_of_ble_eq_true rfl⟩) hP hD hS hA [0, 1] [] rfl rfl (by decide) (by decide) (fun r_6 u_4 H locs hp_5 hP hD hS => ?_)
  subst hp_5
  have hP : va_P D vwCl (([] : va_W)) H := hP
  have hD : va_D A (([] : va_W)) := hD
  refine lv_icmp_eq (tgt := 1566) hx hb dL_law_1561 (by decide) (fun _ => ?_) (fun h => absurd (by decide) h)
  exact law_end C hS (lv_sub hl [0, 1, 2, 3] rfl)
set_option maxHeartbeats 4000000 in
set_option maxRecDepth 100000 in
/-- back -/
theorem lawm_back_n {p : Program} {l : Launch} {e : Env} {s : State} {m : MethodId} {below : List Frame} {meth : Method} {c : Code} {D : va_G} {k : Nat → ClassId} {sd : Nat → Nat} {A : Nat → Prop} {b : Nat} {xs : Nat → Int32} {x y : Nat} {u : Nat → Nat → Nat} {v : Nat → Nat} {H : Heap} {locs : List Loc} {ls : Array Slot} (C : LC p s m meth c D k sd A b xs) (hP : va_P D vwCl (SW8 k x u y v) H) (hD : va_D A (SW8 k x u y v)) (hS : va_S A s.heap H locs) (hl : lv_has ls 4 [(0, .ref b), (1, .ref x), (2, .ref y), (3, .int 0)]) (hq : xs 1 < 0 ∨ 4 ≤ xs 1) : W p l e room_1 s m #[Value.ref b] below meth c H locs 287 18933 (lw_Z below #[Value.ref b] s) (F0 m 1543 ls []) := by
  obtain ⟨hx, hb, hr, hml, hown, hw, hXs, hbl, hlocks, hK, hE, hX, hA, hAr, hbA⟩ := id C
  refine lv_aload_n hx hb dL_law_1543 rfl (lv_at hl 1 rfl) ?_
  refine lv_aload_n hx hb dL_law_1544 rfl (lv_at hl 0 rfl) ?_
  refine lv_iload_n hx hb dL_law_1545 rfl (lv_at hl 3 rfl) ?_
  refine lv_iconst (v := 1) hx hb dL_law_1546 (by decide) ?_
  refine lv_iadd hx hb dL_law_1547 ?_
  refine x_top (v := 1) (by decide) ?_
  refine va_sld hx hb hXs hbl hbA hS (i := 1) (by unfold vp_in; decide) dL_law_1548 ?_
  refine x_top (v := xs 1) rfl ?_
  refine x_i (wr := [(y, .inr (10, [.int 0, .ref (v 1), .ref (v 2), .ref (v 3), .ref (v 4), .ref (v 5), .ref (v 6), .ref (v 7), .ref (v 8), .ref (v 9), .ref (v 10), .ref (v 11), .ref (v 12), .ref (v 13), .ref (v 14), .ref (v 15), .ref (v 16), .ref (v 17), .ref (v 18), .ref (v 19), .ref (v 20), .ref (v 21), .ref (v 22), .ref (v 23), .ref (v 24), .ref (v 25), .ref (v 26), .ref (v 27), .ref (v 28), .ref (v 29), .ref (v 30), .ref (v 31), .ref (v 32), .ref (v 33), .ref (v 34), .ref (v 35), .ref (v 36), .int 0, .int 0, .int 0, .int 0, .int 0, .int 0, .int 0, .int 0, .int 0, .int 13, .int 0, .ref (v 48), .ref (v 49), .ref (v 50), .ref (v 51), .ref (v 52), .ref (v 53), .ref (v 54), .ref (v 55), .ref (v 56), .ref (v 57), .ref (v 58), .ref (v 59), .ref (v 60), .int 0, .int 0, .int 0, .int 0, .int 0, .int 0, .int 0, .ref (v 68), .ref (v 69), .ref (v 70), .ref (v 71), .ref (v 72), .int 0, .int 0, .ref (v 75), .ref (v 76), .ref (v 77), .int 0, .int 0]))]) (va_runV (As := [.int (xs 1)]) (rest := []) ⟨hx, hb, hml, hown, hw⟩ (kX9_back_n l D k sd x (u 0 0) (u 0 1) (u 0 2) (u 0 3) (u 0 4) (u 0 17) (u 0 6) (u 0 18) (u 0 19) (u 0 20) (u 0 21) (xs 1) hq H.size) (cwV 1 hw (gV wd_1122 wd_1123 wd_1124 wd_1 wd_1125) rfl rfl rfl (by decide +kernel) ⟨Nat.le_of_ble_eq_true rfl, Nat.le_of_ble_eq_true rfl⟩) (pre_V (ci := 9) (r := (RX9, TX9, 12)) hK hE hX hP hD hS hA [0] (by decide) rfl rfl (q0 := 0) rfl) rfl rfl hl.1 rfl (lv_room (Nat.le_of_ble_eq_true rfl)) dL_law_1549 ⟨Nat.le_of_ble_eq_true rfl, Nat.le_of_ble_eq_true rfl⟩) hP hD hS hA [0] [1] rfl rfl (by decide) (by decide) (fun r_3 u_1 H locs hp_2 hP hD hS => ?_)
  subst hp_2
  have hP : va_P D vwCl ([(y, .inr (10, [.int 0, .ref (v 1), .ref (v 2), .ref (v 3), .ref (v 4), .ref (v 5), .ref (v 6), .ref (v 7), .ref (v 8), .ref (v 9), .ref (v 10), .ref (v 11), .ref (v 12), .ref (v 13), .ref (v 14), .ref (v 15), .ref (v 16), .ref (v 17), .ref (v 18), .ref (v 19), .ref (v 20), .ref (v 21), .ref (v 22), .ref (v 23), .ref (v 24), .ref (v 25), .ref (v 26), .ref (v 27), .ref (v 28), .ref (v 29), .ref (v 30), .ref (v 31), .ref (v 32), .ref (v 33), .ref (v 34), .ref (v 35), .ref (v 36), .int 0, .int 0, .int 0, .int 0, .int 0, .int 0, .int 0, .int 0, .int 0, .int 13, .int 0, .ref (v 48), .ref (v 49), .ref (v 50), .ref (v 51), .ref (v 52), .ref (v 53), .ref (v 54), .ref (v 55), .ref (v 56), .ref (v 57), .ref (v 58), .ref (v 59), .ref (v 60), .int 0, .int 0, .int 0, .int 0, .int 0, .int 0, .int 0, .ref (v 68), .ref (v 69), .ref (v 70), .ref (v 71), .ref (v 72), .int 0, .int 0, .ref (v 75), .ref (v 76), .ref (v 77), .int 0, .int 0]))]) H := hP
  have hD : va_D A ([(y, .inr (10, [.int 0, .ref (v 1), .ref (v 2), .ref (v 3), .ref (v 4), .ref (v 5), .ref (v 6), .ref (v 7), .ref (v 8), .ref (v 9), .ref (v 10), .ref (v 11), .ref (v 12), .ref (v 13), .ref (v 14), .ref (v 15), .ref (v 16), .ref (v 17), .ref (v 18), .ref (v 19), .ref (v 20), .ref (v 21), .ref (v 22), .ref (v 23), .ref (v 24), .ref (v 25), .ref (v 26), .ref (v 27), .ref (v 28), .ref (v 29), .ref (v 30), .ref (v 31), .ref (v 32), .ref (v 33), .ref (v 34), .ref (v 35), .ref (v 36), .int 0, .int 0, .int 0, .int 0, .int 0, .int 0, .int 0, .int 0, .int 0, .int 13, .int 0, .ref (v 48), .ref (v 49), .ref (v 50), .ref (v 51), .ref (v 52), .ref (v 53), .ref (v 54), .ref (v 55), .ref (v 56), .ref (v 57), .ref (v 58), .ref (v 59), .ref (v 60), .int 0, .int 0, .int 0, .int 0, .int 0, .int 0, .int 0, .ref (v 68), .ref (v 69), .ref (v 70), .ref (v 71), .ref (v 72), .int 0, .int 0, .ref (v 75), .ref (v 76), .ref (v 77), .int 0, .int 0]))]) := hD
  refine lv_aload_n hx hb dL_law_1552 rfl (lv_at hl 2 rfl) ?_
  refine lv_aload_n hx hb dL_law_1553 rfl (lv_at hl 0 rfl) ?_
  refine lv_iload_n hx hb dL_law_1554 rfl (lv_at hl 3 rfl) ?_
  refine lv_iconst (v := 1) hx hb dL_law_1555 (by decide) ?_
  refine lv_iadd hx hb dL_law_1556 ?_
  refine x_top (v := 1) (by decide) ?_
  refine va_sld hx hb hXs hbl hbA hS (i := 1) (by unfold vp_in; decide) dL_law_1557 ?_
  refine x_top (v := xs 1) rfl ?_
  refine x_i (wr := ([] : va_W)) (va_runV (As := [.int (xs 1)]) (rest := [.int (-1)]) ⟨hx, hb, hml, hown, hw⟩ (kX10_back_n l D k sd y v (xs 1) hq H.size) (cwV 1 hw (gV wd_1970 wd_1971 wd_1972 wd_11 wd_1973) rfl rfl rfl (by decide +kernel) ⟨Nat.le_of_ble_eq_true rfl, Nat.le_of_ble_eq_true rfl⟩) (pre_V (ci := 10) (r := (RX10, TX10, 80)) hK hE hX hP hD hS hA [0] (by decide) rfl rfl (q0 := 0) rfl) rfl rfl hl.1 rfl (lv_room (Nat.le_of_ble_eq_true rfl)) dL_law_1558 ⟨Nat.le_of_ble_eq_true rfl, Nat.le_of_ble_eq_true rfl⟩) hP hD hS hA [0] [] rfl rfl (by decide) (by decide) (fun r_6 u_4 H locs hp_5 hP hD hS => ?_)
  subst hp_5
  have hP : va_P D vwCl (([] : va_W)) H := hP
  have hD : va_D A (([] : va_W)) := hD
  refine lv_icmp_eq (tgt := 1566) hx hb dL_law_1561 (by decide) (fun _ => ?_) (fun h => absurd (by decide) h)
  exact law_end C hS (lv_sub hl [0, 1, 2, 3] rfl)
