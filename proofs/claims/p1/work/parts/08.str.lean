/-! String.length() of a constant -/
theorem pre_str {l : Launch} {s : State} {H : Heap} {locs : List Loc} {D : va_G} {A : Nat → Prop} {ws : va_W} {k : Nat → ClassId} {sd : Nat → Nat} {As : List Value} (hK : va_K D vwCl (TY k) s) (hE : EX s) (hX : SX sd A s s.heap) (hP : va_P D vwCl ws H) (hD : va_D A ws) (hS : va_S A s.heap H locs) (hA : ∀ q, s.heap.size ≤ q → A q) (i : Nat) (r : String × Nat × String × Nat) (hi : sN[i]? = some r) : PreV s H "java/lang/String" (sd (2 * i)) (va_Pc (.ref (sd (2 * i)) :: As) (PRE D k sd ([] : va_W) H.size)) As := by
  obtain ⟨cell, h1, h2, h3, -⟩ := (hX.2 i r hi).2.1.kept hS.2.1
  exact ⟨PRE.blind, ⟨cell, h1, h2, h3⟩, (pre_S (av := .ref (sd (2 * i)) :: As) (wc := ([] : va_W)) hK hE hX hP hD hS hA [] rfl rfl).2⟩
set_option maxHeartbeats 4000000 in
set_option maxRecDepth 100000 in
theorem kJ0_coder (l : Launch) (D : va_G) (k : Nat → ClassId) (sd : Nat → Nat) (i : Nat) (r : String × Nat × String × Nat) (hi : sN[i]? = some r) (sz : Nat) : Met l yJ0_coder_7d493 (wB yJ0_coder_7d493 cJ0_coder_7d493 1 (some .byte)) ({ frames := 0, cells := 0, slots := 0, locals := 0 }) (va_Pc [.ref (sd (2 * i))] (PRE D k sd ([] : va_W) sz)) (va_Qi (S := Unit) (fun r _ => r = 0) (fun u t => PO D (va_A ([] : va_W) sz) ((fun _ => ([] : va_W)) u) t) (va_A ([] : va_W) sz)) 0 0 (va_A ([] : va_W) sz) := by
  refine Met.ofW (cc := cJ0_coder_7d493) (maxL := 1) (ret := (some .byte)) (by decide) rfl ?_
  intro p e s m args below meth c s₁ B hml hv
  obtain ⟨rfl, hsz, hP, hK, hD0, hE, hX⟩ := hv
  have hx := B.exec
  have hb := B.bytes
  have hr := B.returns
  have hw : ∀ w ∈ wsB, w.before _ s = true := fun w h => atoms_spec (ws := wB yJ0_coder_7d493 cJ0_coder_7d493 1 (some .byte)) B.pre w (List.mem_cons_of_mem _ h)
  have hown : s.vm.findClass RJ0 = some m.cls := findClass_of_methodNamed B.named
  have hlocks := B.notSynchronized
  subst hsz
  have hD := hD0.self (sz := s.heap.size)
  generalize hAe : va_A ([] : va_W) s.heap.size = A at hD hX ⊢
  have hS : va_S A s.heap s.heap [] := va_S.rf
  have hl := lv_entry ([.ref (sd (2 * i))]) (n := 1) (Nat.le_of_ble_eq_true rfl)
  rw [lg_entry_eq]
  generalize (lg_sl ([.ref (sd (2 * i))]) ++ List.replicate (1 - (lg_sl ([.ref (sd (2 * i))])).length) Slot.unset).toArray = ls at hl ⊢
  have hl : lv_has ls 1 [(0, .ref (sd (2 * i)))] := hl
  refine va_gets hx hb hX.1 hS hown (hw _ wd_504) (fun _ h => h) dJ0_coder_7d493_0 ?_
  refine lv_if_eq (tgt := 13) hx hb dJ0_coder_7d493_3 (by decide) (fun h => absurd h (by decide)) (fun _ => ?_)
  refine lv_aload_n hx hb dJ0_coder_7d493_6 rfl (lv_at hl 0 rfl) ?_
  refine vk_getf hx hb (hX.2 i r hi).2.2.1 hS hown (hw _ wd_1975) (fun _ h => h) dJ0_coder_7d493_7 ?_
  refine lv_goto (tgt := 14) hx hb dJ0_coder_7d493_10 (by decide) ?_
  exact W.zret (v := 0) (ty := .byte) hx hb hr rfl (fun t ht hW => ⟨⟨0, (), rfl, rfl, by rw [ht]; exact hP, hD⟩, hS.F ht⟩) hS.2.2 dJ0_coder_7d493_14
set_option maxHeartbeats 4000000 in
set_option maxRecDepth 100000 in
theorem kJ0_length (l : Launch) (D : va_G) (k : Nat → ClassId) (sd : Nat → Nat) (i : Nat) (r : String × Nat × String × Nat) (hi : sN[i]? = some r) (sz : Nat) : Met l yJ0_length_8abf5 (wB yJ0_length_8abf5 cJ0_length_8abf5 1 (some .int)) ({ frames := 1, cells := 0, slots := 0, locals := 20 }) (va_Pc [.ref (sd (2 * i))] (PRE D k sd ([] : va_W) sz)) (va_Qi (S := Unit) (fun x _ => x = Int32.ofNat r.2.2.2) (fun u t => PO D (va_A ([] : va_W) sz) ((fun _ => ([] : va_W)) u) t) (va_A ([] : va_W) sz)) 0 0 (va_A ([] : va_W) sz) := by
  refine Met.ofW (cc := cJ0_length_8abf5) (maxL := 1) (ret := (some .int)) (by decide) rfl ?_
  intro p e s m args below meth c s₁ B hml hv
  obtain ⟨rfl, hsz, hP, hK, hD0, hE, hX⟩ := hv
  have hx := B.exec
  have hb := B.bytes
  have hr := B.returns
  have hw : ∀ w ∈ wsB, w.before _ s = true := fun w h => atoms_spec (ws := wB yJ0_length_8abf5 cJ0_length_8abf5 1 (some .int)) B.pre w (List.mem_cons_of_mem _ h)
  have hown : s.vm.findClass RJ0 = some m.cls := findClass_of_methodNamed B.named
  have hlocks := B.notSynchronized
  subst hsz
  have hD := hD0.self (sz := s.heap.size)
  generalize hAe : va_A ([] : va_W) s.heap.size = A at hD hX ⊢
  have hA : ∀ q : Nat, s.heap.size ≤ q → A q := fun q h => by rw [← hAe]; exact Or.inr h
  have hS : va_S A s.heap s.heap [] := va_S.rf
  have hl := lv_entry ([.ref (sd (2 * i))]) (n := 1) (Nat.le_of_ble_eq_true rfl)
  rw [lg_entry_eq]
  generalize (lg_sl ([.ref (sd (2 * i))]) ++ List.replicate (1 - (lg_sl ([.ref (sd (2 * i))])).length) Slot.unset).toArray = ls at hl ⊢
  have hl : lv_has ls 1 [(0, .ref (sd (2 * i)))] := hl
  obtain ⟨fT, hT⟩ := (hX.2 i r hi).2.2.2.2
  refine lv_aload_n hx hb dJ0_length_8abf5_0 rfl (lv_at hl 0 rfl) ?_
  refine vk_getf hx hb (hX.2 i r hi).2.2.2.1 hS hown (hw _ wd_1974) (fun _ h => h) dJ0_length_8abf5_1 ?_
  refine va_tlen (v := Int32.ofNat r.2.2.2) hx hb hT hS rfl dJ0_length_8abf5_4 ?_
  refine lv_aload_n hx hb dJ0_length_8abf5_5 rfl (lv_at hl 0 rfl) ?_
  refine x_i (wr := ([] : va_W)) (va_runV (As := []) (rest := [.int (Int32.ofNat r.2.2.2)]) ⟨hx, hb, hml, hown, hw⟩ (kJ0_coder l D k sd i r hi s.heap.size) (cwV 0 hw (gV wd_500 wd_501 wd_502 wd_13 wd_503) rfl rfl rfl (by decide +kernel) ⟨Nat.le_of_ble_eq_true rfl, Nat.le_of_ble_eq_true rfl⟩) (pre_str (l := l) hK hE hX hP hD hS hA i r hi) rfl rfl hl.1 rfl (lv_room (Nat.le_of_ble_eq_true rfl)) dJ0_length_8abf5_6 ⟨Nat.le_of_ble_eq_true rfl, Nat.le_of_ble_eq_true rfl⟩) hP hD hS hA [] [] rfl rfl (by decide) (by decide) (fun rr u H locs hp hP hD hS => ?_)
  subst hp
  refine lv_ishr hx hb dJ0_length_8abf5_9 ?_
  refine x_top (v := Int32.ofNat r.2.2.2) (sb_shr0 _) ?_
  exact W.iret (v := Int32.ofNat r.2.2.2) hx hb hr (fun t ht hW => ⟨⟨_, (), rfl, rfl, by rw [ht]; exact hP, hD⟩, hS.F ht⟩) hS.2.2 dJ0_length_8abf5_10
