set_option maxHeartbeats 4000000 in
set_option maxRecDepth 100000 in
theorem kX7_init (l : Launch) (D : va_G) (k : Nat → ClassId) (sd : Nat → Nat) (h0 : Nat) (sz : Nat) : Met l yX7_init (wB yX7_init cX7_init 1 none) ({ frames := 1, cells := 1, slots := 400, locals := 12 }) (va_Pc [.ref h0] (PRE D k sd ([(h0, .inr (7, [.null, .int 0, .int 0, .int 0, .int 0, .int 0]))]) sz)) (va_Qv (S := Nat → Nat) (fun _ => True) (fun u t => PO D (va_A ([(h0, .inr (7, [.null, .int 0, .int 0, .int 0, .int 0, .int 0]))]) sz) ((fun u => G7 k h0 u) u) t) (va_A ([(h0, .inr (7, [.null, .int 0, .int 0, .int 0, .int 0, .int 0]))]) sz)) 1 400 (va_A ([(h0, .inr (7, [.null, .int 0, .int 0, .int 0, .int 0, .int 0]))]) sz) := by
  refine Met.ofW (cc := cX7_init) (maxL := 1) (ret := none) (by decide) rfl ?_
  intro p e s m args below meth c s₁ B hml hv
  obtain ⟨rfl, hsz, hP, hK, hD0, hE, hX⟩ := hv
  have hx := B.exec
  have hb := B.bytes
  have hr := B.returns
  have hw : ∀ w ∈ wsB, w.before _ s = true := fun w h => atoms_spec (ws := wB yX7_init cX7_init 1 none) B.pre w (List.mem_cons_of_mem _ h)
  have hown : s.vm.findClass RX7 = some m.cls := findClass_of_methodNamed B.named
  have hlocks := B.notSynchronized
  have hin : meth.name = "<init>" := (name_of_methodNamed B.named B.method).1
  subst hsz
  have hD := hD0.self (sz := s.heap.size)
  generalize hAe : va_A ([(h0, .inr (7, [.null, .int 0, .int 0, .int 0, .int 0, .int 0]))]) s.heap.size = A at hD hX ⊢
  have hA : ∀ q : Nat, s.heap.size ≤ q → A q := fun q h => by rw [← hAe]; exact Or.inr h
  have hS : va_S A s.heap s.heap [] := va_S.rf
  have hl := lv_entry ([.ref h0]) (n := 1) (Nat.le_of_ble_eq_true rfl)
  rw [lg_entry_eq]
  generalize (lg_sl ([.ref h0]) ++ List.replicate (1 - (lg_sl ([.ref h0])).length) Slot.unset).toArray = ls at hl ⊢
  have hl : lv_has ls 1 [(0, .ref h0)] := hl
  refine lv_aload_n hx hb dX7_init_0 rfl (lv_at hl 0 rfl) ?_
  refine W.objInit hx hb hown (hw _ wd_33) (hw _ wd_26) (hw _ wd_27) rfl (by rw [hml]; exact hl.1) rfl dX7_init_1 (Nat.le_of_ble_eq_true rfl) (Nat.le_of_ble_eq_true rfl) ?_
  refine W.eq (g2 := F0 m 4 ls []) rfl ?_
  refine lv_aload_n hx hb dX7_init_4 rfl (lv_at hl 0 rfl) ?_
  refine lv_sipush (v := 400) hx hb dX7_init_5 (by decide) ?_
  refine x_newI (N' := 400) hx hb (hw _ wd_58) hK hP hD hS hA (by decide) (by decide) (Nat.le_of_ble_eq_true rfl) (Nat.le_of_ble_eq_true rfl) (Nat.le_of_ble_eq_true rfl) dX7_init_8 (fun q_1 H hP hD hS => ?_)
  have hP : va_P D vwCl ([(h0, .inr (7, [.null, .int 0, .int 0, .int 0, .int 0, .int 0])), (q_1, .inl (k 0, 400, .inl (fun _ => 0)))]) H := hP
  have hD : va_D A ([(h0, .inr (7, [.null, .int 0, .int 0, .int 0, .int 0, .int 0])), (q_1, .inl (k 0, 400, .inl (fun _ => 0)))]) := hD
  refine W.widen (k := 1) (n := 400) (Nat.le_of_ble_eq_true rfl) (Nat.le_of_ble_eq_true rfl) ?_
  refine va_putF (D := D) (ci := 7) (v := .ref q_1) (ty := .array .int) (C := RX7) (T := TX7) (N := 6) hx hb hw inlX7 tyX7 tyX7_ok nmX7 hown hK hP hD hS 0 rfl rfl 0 (by decide) (hw _ wd_34) (fun _ h9 => h9) rfl hin rfl (by decide +kernel) rfl rfl (Nat.le_of_ble_eq_true rfl) dX7_init_10 (fun H locs hP hD hS => ?_)
  have hP : va_P D vwCl ([(h0, .inr (7, [.ref q_1, .int 0, .int 0, .int 0, .int 0, .int 0])), (q_1, .inl (k 0, 400, .inl (fun _ => 0)))]) H := hP
  have hD : va_D A ([(h0, .inr (7, [.ref q_1, .int 0, .int 0, .int 0, .int 0, .int 0])), (q_1, .inl (k 0, 400, .inl (fun _ => 0)))]) := hD
  refine W.widen (k := 1) (n := 400) (Nat.le_of_ble_eq_true rfl) (Nat.le_of_ble_eq_true rfl) ?_
  have hP9 : va_P D vwCl ((fun u => G7 k h0 u) (xu [q_1])) H := hP.sub [0, 1] rfl
  have hD9 : va_D A ((fun u => G7 k h0 u) (xu [q_1])) := hD.sub [0, 1] (by decide) rfl
  exact W.vret hx hb hr (fun t ht hW => ⟨⟨(xu [q_1]), rfl, trivial, by rw [ht]; exact hP9, hD9⟩, hS.F ht⟩) hS.2.2 dX7_init_13

set_option maxHeartbeats 4000000 in
set_option maxRecDepth 100000 in
theorem kX2_init (l : Launch) (D : va_G) (k : Nat → ClassId) (sd : Nat → Nat) (h0 : Nat) (sz : Nat) : Met l yX2_init (wB yX2_init cX2_init 1 none) ({ frames := 1, cells := 7, slots := 67, locals := 12 }) (va_Pc [.ref h0] (PRE D k sd ([(h0, .inr (2, [.int 0, .int 0, .int 0, .int 0, .int 0, .null, .null, .null, .null, .null, .null, .null]))]) sz)) (va_Qv (S := Nat → Nat) (fun _ => True) (fun u t => PO D (va_A ([(h0, .inr (2, [.int 0, .int 0, .int 0, .int 0, .int 0, .null, .null, .null, .null, .null, .null, .null]))]) sz) ((fun u => G2 k h0 u) u) t) (va_A ([(h0, .inr (2, [.int 0, .int 0, .int 0, .int 0, .int 0, .null, .null, .null, .null, .null, .null, .null]))]) sz)) 7 67 (va_A ([(h0, .inr (2, [.int 0, .int 0, .int 0, .int 0, .int 0, .null, .null, .null, .null, .null, .null, .null]))]) sz) := by
  refine Met.ofW (cc := cX2_init) (maxL := 1) (ret := none) (by decide) rfl ?_
  intro p e s m args below meth c s₁ B hml hv
  obtain ⟨rfl, hsz, hP, hK, hD0, hE, hX⟩ := hv
  have hx := B.exec
  have hb := B.bytes
  have hr := B.returns
  have hw : ∀ w ∈ wsB, w.before _ s = true := fun w h => atoms_spec (ws := wB yX2_init cX2_init 1 none) B.pre w (List.mem_cons_of_mem _ h)
  have hown : s.vm.findClass RX2 = some m.cls := findClass_of_methodNamed B.named
  have hlocks := B.notSynchronized
  have hin : meth.name = "<init>" := (name_of_methodNamed B.named B.method).1
  subst hsz
  have hD := hD0.self (sz := s.heap.size)
  generalize hAe : va_A ([(h0, .inr (2, [.int 0, .int 0, .int 0, .int 0, .int 0, .null, .null, .null, .null, .null, .null, .null]))]) s.heap.size = A at hD hX ⊢
  have hA : ∀ q : Nat, s.heap.size ≤ q → A q := fun q h => by rw [← hAe]; exact Or.inr h
  have hS : va_S A s.heap s.heap [] := va_S.rf
  have hl := lv_entry ([.ref h0]) (n := 1) (Nat.le_of_ble_eq_true rfl)
  rw [lg_entry_eq]
  generalize (lg_sl ([.ref h0]) ++ List.replicate (1 - (lg_sl ([.ref h0])).length) Slot.unset).toArray = ls at hl ⊢
  have hl : lv_has ls 1 [(0, .ref h0)] := hl
  refine lv_aload_n hx hb dX2_init_0 rfl (lv_at hl 0 rfl) ?_
  refine W.objInit hx hb hown (hw _ wd_70) (hw _ wd_26) (hw _ wd_27) rfl (by rw [hml]; exact hl.1) rfl dX2_init_1 (Nat.le_of_ble_eq_true rfl) (Nat.le_of_ble_eq_true rfl) ?_
  refine W.eq (g2 := F0 m 4 ls []) rfl ?_
  refine lv_aload_n hx hb dX2_init_4 rfl (lv_at hl 0 rfl) ?_
  refine lv_bipush (v := 6) hx hb dX2_init_5 (by decide) ?_
  refine x_newI (N' := 6) hx hb (hw _ wd_58) hK hP hD hS hA (by decide) (by decide) (Nat.le_of_ble_eq_true rfl) (Nat.le_of_ble_eq_true rfl) (Nat.le_of_ble_eq_true rfl) dX2_init_7 (fun q_1 H hP hD hS => ?_)
  have hP : va_P D vwCl ([(h0, .inr (2, [.int 0, .int 0, .int 0, .int 0, .int 0, .null, .null, .null, .null, .null, .null, .null])), (q_1, .inl (k 0, 6, .inl (fun _ => 0)))]) H := hP
  have hD : va_D A ([(h0, .inr (2, [.int 0, .int 0, .int 0, .int 0, .int 0, .null, .null, .null, .null, .null, .null, .null])), (q_1, .inl (k 0, 6, .inl (fun _ => 0)))]) := hD
  refine W.widen (k := 1) (n := 6) (Nat.le_of_ble_eq_true rfl) (Nat.le_of_ble_eq_true rfl) ?_
  refine va_putF (D := D) (ci := 2) (v := .ref q_1) (ty := .array .int) (C := RX2) (T := TX2) (N := 12) hx hb hw inlX2 tyX2 tyX2_ok nmX2 hown hK hP hD hS 0 rfl rfl 5 (by decide) (hw _ wd_91) (fun _ h9 => h9) rfl hin rfl (by decide +kernel) rfl rfl (Nat.le_of_ble_eq_true rfl) dX2_init_9 (fun H locs hP hD hS => ?_)
  have hP : va_P D vwCl ([(h0, .inr (2, [.int 0, .int 0, .int 0, .int 0, .int 0, .ref q_1, .null, .null, .null, .null, .null, .null])), (q_1, .inl (k 0, 6, .inl (fun _ => 0)))]) H := hP
  have hD : va_D A ([(h0, .inr (2, [.int 0, .int 0, .int 0, .int 0, .int 0, .ref q_1, .null, .null, .null, .null, .null, .null])), (q_1, .inl (k 0, 6, .inl (fun _ => 0)))]) := hD
  refine lv_aload_n hx hb dX2_init_12 rfl (lv_at hl 0 rfl) ?_
  refine lv_bipush (v := 9) hx hb dX2_init_13 (by decide) ?_
  refine x_newI (N' := 9) hx hb (hw _ wd_58) hK hP hD hS hA (by decide) (by decide) (Nat.le_of_ble_eq_true rfl) (Nat.le_of_ble_eq_true rfl) (Nat.le_of_ble_eq_true rfl) dX2_init_15 (fun q_2 H hP hD hS => ?_)
  have hP : va_P D vwCl ([(h0, .inr (2, [.int 0, .int 0, .int 0, .int 0, .int 0, .ref q_1, .null, .null, .null, .null, .null, .null])), (q_1, .inl (k 0, 6, .inl (fun _ => 0))), (q_2, .inl (k 0, 9, .inl (fun _ => 0)))]) H := hP
  have hD : va_D A ([(h0, .inr (2, [.int 0, .int 0, .int 0, .int 0, .int 0, .ref q_1, .null, .null, .null, .null, .null, .null])), (q_1, .inl (k 0, 6, .inl (fun _ => 0))), (q_2, .inl (k 0, 9, .inl (fun _ => 0)))]) := hD
  refine W.widen (k := 2) (n := 15) (Nat.le_of_ble_eq_true rfl) (Nat.le_of_ble_eq_true rfl) ?_
  refine va_putF (D := D) (ci := 2) (v := .ref q_2) (ty := .array .int) (C := RX2) (T := TX2) (N := 12) hx hb hw inlX2 tyX2 tyX2_ok nmX2 hown hK hP hD hS 0 rfl rfl 6 (by decide) (hw _ wd_95) (fun _ h9 => h9) rfl hin rfl (by decide +kernel) rfl rfl (Nat.le_of_ble_eq_true rfl) dX2_init_17 (fun H locs hP hD hS => ?_)
  have hP : va_P D vwCl ([(h0, .inr (2, [.int 0, .int 0, .int 0, .int 0, .int 0, .ref q_1, .ref q_2, .null, .null, .null, .null, .null])), (q_1, .inl (k 0, 6, .inl (fun _ => 0))), (q_2, .inl (k 0, 9, .inl (fun _ => 0)))]) H := hP
  have hD : va_D A ([(h0, .inr (2, [.int 0, .int 0, .int 0, .int 0, .int 0, .ref q_1, .ref q_2, .null, .null, .null, .null, .null])), (q_1, .inl (k 0, 6, .inl (fun _ => 0))), (q_2, .inl (k 0, 9, .inl (fun _ => 0)))]) := hD
  refine lv_aload_n hx hb dX2_init_20 rfl (lv_at hl 0 rfl) ?_
  refine lv_iconst (v := 4) hx hb dX2_init_21 (by decide) ?_
  refine x_newI (N' := 4) hx hb (hw _ wd_58) hK hP hD hS hA (by decide) (by decide) (Nat.le_of_ble_eq_true rfl) (Nat.le_of_ble_eq_true rfl) (Nat.le_of_ble_eq_true rfl) dX2_init_22 (fun q_3 H hP hD hS => ?_)
  have hP : va_P D vwCl ([(h0, .inr (2, [.int 0, .int 0, .int 0, .int 0, .int 0, .ref q_1, .ref q_2, .null, .null, .null, .null, .null])), (q_1, .inl (k 0, 6, .inl (fun _ => 0))), (q_2, .inl (k 0, 9, .inl (fun _ => 0))), (q_3, .inl (k 0, 4, .inl (fun _ => 0)))]) H := hP
  have hD : va_D A ([(h0, .inr (2, [.int 0, .int 0, .int 0, .int 0, .int 0, .ref q_1, .ref q_2, .null, .null, .null, .null, .null])), (q_1, .inl (k 0, 6, .inl (fun _ => 0))), (q_2, .inl (k 0, 9, .inl (fun _ => 0))), (q_3, .inl (k 0, 4, .inl (fun _ => 0)))]) := hD
  refine W.widen (k := 3) (n := 19) (Nat.le_of_ble_eq_true rfl) (Nat.le_of_ble_eq_true rfl) ?_
  refine va_putF (D := D) (ci := 2) (v := .ref q_3) (ty := .array .int) (C := RX2) (T := TX2) (N := 12) hx hb hw inlX2 tyX2 tyX2_ok nmX2 hown hK hP hD hS 0 rfl rfl 7 (by decide) (hw _ wd_99) (fun _ h9 => h9) rfl hin rfl (by decide +kernel) rfl rfl (Nat.le_of_ble_eq_true rfl) dX2_init_24 (fun H locs hP hD hS => ?_)
  have hP : va_P D vwCl ([(h0, .inr (2, [.int 0, .int 0, .int 0, .int 0, .int 0, .ref q_1, .ref q_2, .ref q_3, .null, .null, .null, .null])), (q_1, .inl (k 0, 6, .inl (fun _ => 0))), (q_2, .inl (k 0, 9, .inl (fun _ => 0))), (q_3, .inl (k 0, 4, .inl (fun _ => 0)))]) H := hP
  have hD : va_D A ([(h0, .inr (2, [.int 0, .int 0, .int 0, .int 0, .int 0, .ref q_1, .ref q_2, .ref q_3, .null, .null, .null, .null])), (q_1, .inl (k 0, 6, .inl (fun _ => 0))), (q_2, .inl (k 0, 9, .inl (fun _ => 0))), (q_3, .inl (k 0, 4, .inl (fun _ => 0)))]) := hD
  refine lv_aload_n hx hb dX2_init_27 rfl (lv_at hl 0 rfl) ?_
  refine lv_bipush (v := 12) hx hb dX2_init_28 (by decide) ?_
  refine x_newI (N' := 12) hx hb (hw _ wd_58) hK hP hD hS hA (by decide) (by decide) (Nat.le_of_ble_eq_true rfl) (Nat.le_of_ble_eq_true rfl) (Nat.le_of_ble_eq_true rfl) dX2_init_30 (fun q_4 H hP hD hS => ?_)
  have hP : va_P D vwCl ([(h0, .inr (2, [.int 0, .int 0, .int 0, .int 0, .int 0, .ref q_1, .ref q_2, .ref q_3, .null, .null, .null, .null])), (q_1, .inl (k 0, 6, .inl (fun _ => 0))), (q_2, .inl (k 0, 9, .inl (fun _ => 0))), (q_3, .inl (k 0, 4, .inl (fun _ => 0))), (q_4, .inl (k 0, 12, .inl (fun _ => 0)))]) H := hP
  have hD : va_D A ([(h0, .inr (2, [.int 0, .int 0, .int 0, .int 0, .int 0, .ref q_1, .ref q_2, .ref q_3, .null, .null, .null, .null])), (q_1, .inl (k 0, 6, .inl (fun _ => 0))), (q_2, .inl (k 0, 9, .inl (fun _ => 0))), (q_3, .inl (k 0, 4, .inl (fun _ => 0))), (q_4, .inl (k 0, 12, .inl (fun _ => 0)))]) := hD
  refine W.widen (k := 4) (n := 31) (Nat.le_of_ble_eq_true rfl) (Nat.le_of_ble_eq_true rfl) ?_
  refine va_putF (D := D) (ci := 2) (v := .ref q_4) (ty := .array .int) (C := RX2) (T := TX2) (N := 12) hx hb hw inlX2 tyX2 tyX2_ok nmX2 hown hK hP hD hS 0 rfl rfl 8 (by decide) (hw _ wd_102) (fun _ h9 => h9) rfl hin rfl (by decide +kernel) rfl rfl (Nat.le_of_ble_eq_true rfl) dX2_init_32 (fun H locs hP hD hS => ?_)
  have hP : va_P D vwCl ([(h0, .inr (2, [.int 0, .int 0, .int 0, .int 0, .int 0, .ref q_1, .ref q_2, .ref q_3, .ref q_4, .null, .null, .null])), (q_1, .inl (k 0, 6, .inl (fun _ => 0))), (q_2, .inl (k 0, 9, .inl (fun _ => 0))), (q_3, .inl (k 0, 4, .inl (fun _ => 0))), (q_4, .inl (k 0, 12, .inl (fun _ => 0)))]) H := hP
  have hD : va_D A ([(h0, .inr (2, [.int 0, .int 0, .int 0, .int 0, .int 0, .ref q_1, .ref q_2, .ref q_3, .ref q_4, .null, .null, .null])), (q_1, .inl (k 0, 6, .inl (fun _ => 0))), (q_2, .inl (k 0, 9, .inl (fun _ => 0))), (q_3, .inl (k 0, 4, .inl (fun _ => 0))), (q_4, .inl (k 0, 12, .inl (fun _ => 0)))]) := hD
  refine lv_aload_n hx hb dX2_init_35 rfl (lv_at hl 0 rfl) ?_
  refine lv_bipush (v := 12) hx hb dX2_init_36 (by decide) ?_
  refine x_newI (N' := 12) hx hb (hw _ wd_58) hK hP hD hS hA (by decide) (by decide) (Nat.le_of_ble_eq_true rfl) (Nat.le_of_ble_eq_true rfl) (Nat.le_of_ble_eq_true rfl) dX2_init_38 (fun q_5 H hP hD hS => ?_)
  have hP : va_P D vwCl ([(h0, .inr (2, [.int 0, .int 0, .int 0, .int 0, .int 0, .ref q_1, .ref q_2, .ref q_3, .ref q_4, .null, .null, .null])), (q_1, .inl (k 0, 6, .inl (fun _ => 0))), (q_2, .inl (k 0, 9, .inl (fun _ => 0))), (q_3, .inl (k 0, 4, .inl (fun _ => 0))), (q_4, .inl (k 0, 12, .inl (fun _ => 0))), (q_5, .inl (k 0, 12, .inl (fun _ => 0)))]) H := hP
  have hD : va_D A ([(h0, .inr (2, [.int 0, .int 0, .int 0, .int 0, .int 0, .ref q_1, .ref q_2, .ref q_3, .ref q_4, .null, .null, .null])), (q_1, .inl (k 0, 6, .inl (fun _ => 0))), (q_2, .inl (k 0, 9, .inl (fun _ => 0))), (q_3, .inl (k 0, 4, .inl (fun _ => 0))), (q_4, .inl (k 0, 12, .inl (fun _ => 0))), (q_5, .inl (k 0, 12, .inl (fun _ => 0)))]) := hD
  refine W.widen (k := 5) (n := 43) (Nat.le_of_ble_eq_true rfl) (Nat.le_of_ble_eq_true rfl) ?_
  refine va_putF (D := D) (ci := 2) (v := .ref q_5) (ty := .array .int) (C := RX2) (T := TX2) (N := 12) hx hb hw inlX2 tyX2 tyX2_ok nmX2 hown hK hP hD hS 0 rfl rfl 9 (by decide) (hw _ wd_106) (fun _ h9 => h9) rfl hin rfl (by decide +kernel) rfl rfl (Nat.le_of_ble_eq_true rfl) dX2_init_40 (fun H locs hP hD hS => ?_)
  have hP : va_P D vwCl ([(h0, .inr (2, [.int 0, .int 0, .int 0, .int 0, .int 0, .ref q_1, .ref q_2, .ref q_3, .ref q_4, .ref q_5, .null, .null])), (q_1, .inl (k 0, 6, .inl (fun _ => 0))), (q_2, .inl (k 0, 9, .inl (fun _ => 0))), (q_3, .inl (k 0, 4, .inl (fun _ => 0))), (q_4, .inl (k 0, 12, .inl (fun _ => 0))), (q_5, .inl (k 0, 12, .inl (fun _ => 0)))]) H := hP
  have hD : va_D A ([(h0, .inr (2, [.int 0, .int 0, .int 0, .int 0, .int 0, .ref q_1, .ref q_2, .ref q_3, .ref q_4, .ref q_5, .null, .null])), (q_1, .inl (k 0, 6, .inl (fun _ => 0))), (q_2, .inl (k 0, 9, .inl (fun _ => 0))), (q_3, .inl (k 0, 4, .inl (fun _ => 0))), (q_4, .inl (k 0, 12, .inl (fun _ => 0))), (q_5, .inl (k 0, 12, .inl (fun _ => 0)))]) := hD
  refine lv_aload_n hx hb dX2_init_43 rfl (lv_at hl 0 rfl) ?_
  refine lv_bipush (v := 12) hx hb dX2_init_44 (by decide) ?_
  refine x_newI (N' := 12) hx hb (hw _ wd_58) hK hP hD hS hA (by decide) (by decide) (Nat.le_of_ble_eq_true rfl) (Nat.le_of_ble_eq_true rfl) (Nat.le_of_ble_eq_true rfl) dX2_init_46 (fun q_6 H hP hD hS => ?_)
  have hP : va_P D vwCl ([(h0, .inr (2, [.int 0, .int 0, .int 0, .int 0, .int 0, .ref q_1, .ref q_2, .ref q_3, .ref q_4, .ref q_5, .null, .null])), (q_1, .inl (k 0, 6, .inl (fun _ => 0))), (q_2, .inl (k 0, 9, .inl (fun _ => 0))), (q_3, .inl (k 0, 4, .inl (fun _ => 0))), (q_4, .inl (k 0, 12, .inl (fun _ => 0))), (q_5, .inl (k 0, 12, .inl (fun _ => 0))), (q_6, .inl (k 0, 12, .inl (fun _ => 0)))]) H := hP
  have hD : va_D A ([(h0, .inr (2, [.int 0, .int 0, .int 0, .int 0, .int 0, .ref q_1, .ref q_2, .ref q_3, .ref q_4, .ref q_5, .null, .null])), (q_1, .inl (k 0, 6, .inl (fun _ => 0))), (q_2, .inl (k 0, 9, .inl (fun _ => 0))), (q_3, .inl (k 0, 4, .inl (fun _ => 0))), (q_4, .inl (k 0, 12, .inl (fun _ => 0))), (q_5, .inl (k 0, 12, .inl (fun _ => 0))), (q_6, .inl (k 0, 12, .inl (fun _ => 0)))]) := hD
  refine W.widen (k := 6) (n := 55) (Nat.le_of_ble_eq_true rfl) (Nat.le_of_ble_eq_true rfl) ?_
  refine va_putF (D := D) (ci := 2) (v := .ref q_6) (ty := .array .int) (C := RX2) (T := TX2) (N := 12) hx hb hw inlX2 tyX2 tyX2_ok nmX2 hown hK hP hD hS 0 rfl rfl 10 (by decide) (hw _ wd_109) (fun _ h9 => h9) rfl hin rfl (by decide +kernel) rfl rfl (Nat.le_of_ble_eq_true rfl) dX2_init_48 (fun H locs hP hD hS => ?_)
  have hP : va_P D vwCl ([(h0, .inr (2, [.int 0, .int 0, .int 0, .int 0, .int 0, .ref q_1, .ref q_2, .ref q_3, .ref q_4, .ref q_5, .ref q_6, .null])), (q_1, .inl (k 0, 6, .inl (fun _ => 0))), (q_2, .inl (k 0, 9, .inl (fun _ => 0))), (q_3, .inl (k 0, 4, .inl (fun _ => 0))), (q_4, .inl (k 0, 12, .inl (fun _ => 0))), (q_5, .inl (k 0, 12, .inl (fun _ => 0))), (q_6, .inl (k 0, 12, .inl (fun _ => 0)))]) H := hP
  have hD : va_D A ([(h0, .inr (2, [.int 0, .int 0, .int 0, .int 0, .int 0, .ref q_1, .ref q_2, .ref q_3, .ref q_4, .ref q_5, .ref q_6, .null])), (q_1, .inl (k 0, 6, .inl (fun _ => 0))), (q_2, .inl (k 0, 9, .inl (fun _ => 0))), (q_3, .inl (k 0, 4, .inl (fun _ => 0))), (q_4, .inl (k 0, 12, .inl (fun _ => 0))), (q_5, .inl (k 0, 12, .inl (fun _ => 0))), (q_6, .inl (k 0, 12, .inl (fun _ => 0)))]) := hD
  refine lv_aload_n hx hb dX2_init_51 rfl (lv_at hl 0 rfl) ?_
  refine lv_bipush (v := 12) hx hb dX2_init_52 (by decide) ?_
  refine x_newI (N' := 12) hx hb (hw _ wd_58) hK hP hD hS hA (by decide) (by decide) (Nat.le_of_ble_eq_true rfl) (Nat.le_of_ble_eq_true rfl) (Nat.le_of_ble_eq_true rfl) dX2_init_54 (fun q_7 H hP hD hS => ?_)
  have hP : va_P D vwCl ([(h0, .inr (2, [.int 0, .int 0, .int 0, .int 0, .int 0, .ref q_1, .ref q_2, .ref q_3, .ref q_4, .ref q_5, .ref q_6, .null])), (q_1, .inl (k 0, 6, .inl (fun _ => 0))), (q_2, .inl (k 0, 9, .inl (fun _ => 0))), (q_3, .inl (k 0, 4, .inl (fun _ => 0))), (q_4, .inl (k 0, 12, .inl (fun _ => 0))), (q_5, .inl (k 0, 12, .inl (fun _ => 0))), (q_6, .inl (k 0, 12, .inl (fun _ => 0))), (q_7, .inl (k 0, 12, .inl (fun _ => 0)))]) H := hP
  have hD : va_D A ([(h0, .inr (2, [.int 0, .int 0, .int 0, .int 0, .int 0, .ref q_1, .ref q_2, .ref q_3, .ref q_4, .ref q_5, .ref q_6, .null])), (q_1, .inl (k 0, 6, .inl (fun _ => 0))), (q_2, .inl (k 0, 9, .inl (fun _ => 0))), (q_3, .inl (k 0, 4, .inl (fun _ => 0))), (q_4, .inl (k 0, 12, .inl (fun _ => 0))), (q_5, .inl (k 0, 12, .inl (fun _ => 0))), (q_6, .inl (k 0, 12, .inl (fun _ => 0))), (q_7, .inl (k 0, 12, .inl (fun _ => 0)))]) := hD
  refine W.widen (k := 7) (n := 67) (Nat.le_of_ble_eq_true rfl) (Nat.le_of_ble_eq_true rfl) ?_
  refine va_putF (D := D) (ci := 2) (v := .ref q_7) (ty := .array .int) (C := RX2) (T := TX2) (N := 12) hx hb hw inlX2 tyX2 tyX2_ok nmX2 hown hK hP hD hS 0 rfl rfl 11 (by decide) (hw _ wd_113) (fun _ h9 => h9) rfl hin rfl (by decide +kernel) rfl rfl (Nat.le_of_ble_eq_true rfl) dX2_init_56 (fun H locs hP hD hS => ?_)
  have hP : va_P D vwCl ([(h0, .inr (2, [.int 0, .int 0, .int 0, .int 0, .int 0, .ref q_1, .ref q_2, .ref q_3, .ref q_4, .ref q_5, .ref q_6, .ref q_7])), (q_1, .inl (k 0, 6, .inl (fun _ => 0))), (q_2, .inl (k 0, 9, .inl (fun _ => 0))), (q_3, .inl (k 0, 4, .inl (fun _ => 0))), (q_4, .inl (k 0, 12, .inl (fun _ => 0))), (q_5, .inl (k 0, 12, .inl (fun _ => 0))), (q_6, .inl (k 0, 12, .inl (fun _ => 0))), (q_7, .inl (k 0, 12, .inl (fun _ => 0)))]) H := hP
  have hD : va_D A ([(h0, .inr (2, [.int 0, .int 0, .int 0, .int 0, .int 0, .ref q_1, .ref q_2, .ref q_3, .ref q_4, .ref q_5, .ref q_6, .ref q_7])), (q_1, .inl (k 0, 6, .inl (fun _ => 0))), (q_2, .inl (k 0, 9, .inl (fun _ => 0))), (q_3, .inl (k 0, 4, .inl (fun _ => 0))), (q_4, .inl (k 0, 12, .inl (fun _ => 0))), (q_5, .inl (k 0, 12, .inl (fun _ => 0))), (q_6, .inl (k 0, 12, .inl (fun _ => 0))), (q_7, .inl (k 0, 12, .inl (fun _ => 0)))]) := hD
  refine W.widen (k := 7) (n := 67) (Nat.le_of_ble_eq_true rfl) (Nat.le_of_ble_eq_true rfl) ?_
  have hP9 : va_P D vwCl ((fun u => G2 k h0 u) (xu [q_1, q_2, q_3, q_4, q_5, q_6, q_7])) H := hP.sub [0, 1, 2, 3, 4, 5, 6, 7] rfl
  have hD9 : va_D A ((fun u => G2 k h0 u) (xu [q_1, q_2, q_3, q_4, q_5, q_6, q_7])) := hD.sub [0, 1, 2, 3, 4, 5, 6, 7] (by decide) rfl
  exact W.vret hx hb hr (fun t ht hW => ⟨⟨(xu [q_1, q_2, q_3, q_4, q_5, q_6, q_7]), rfl, trivial, by rw [ht]; exact hP9, hD9⟩, hS.F ht⟩) hS.2.2 dX2_init_59

set_option maxHeartbeats 4000000 in
set_option maxRecDepth 100000 in
theorem kX3_init (l : Launch) (D : va_G) (k : Nat → ClassId) (sd : Nat → Nat) (h0 : Nat) (tp : Nat) (sz : Nat) : Met l yX3_init (wB yX3_init cX3_init 2 none) ({ frames := 2, cells := 8, slots := 79, locals := 32 }) (va_Pc [.ref h0, .ref tp] (PRE D k sd ([(h0, .inr (3, [.null, .null, .int 0]))]) sz)) (va_Qv (S := Nat → Nat) (fun _ => True) (fun u t => PO D (va_A ([(h0, .inr (3, [.null, .null, .int 0]))]) sz) ((fun u => G3 k h0 tp u) u) t) (va_A ([(h0, .inr (3, [.null, .null, .int 0]))]) sz)) 8 79 (va_A ([(h0, .inr (3, [.null, .null, .int 0]))]) sz) := by
  refine Met.ofW (cc := cX3_init) (maxL := 2) (ret := none) (by decide) rfl ?_
  intro p e s m args below meth c s₁ B hml hv
  obtain ⟨rfl, hsz, hP, hK, hD0, hE, hX⟩ := hv
  have hx := B.exec
  have hb := B.bytes
  have hr := B.returns
  have hw : ∀ w ∈ wsB, w.before _ s = true := fun w h => atoms_spec (ws := wB yX3_init cX3_init 2 none) B.pre w (List.mem_cons_of_mem _ h)
  have hown : s.vm.findClass RX3 = some m.cls := findClass_of_methodNamed B.named
  have hlocks := B.notSynchronized
  have hin : meth.name = "<init>" := (name_of_methodNamed B.named B.method).1
  subst hsz
  have hD := hD0.self (sz := s.heap.size)
  generalize hAe : va_A ([(h0, .inr (3, [.null, .null, .int 0]))]) s.heap.size = A at hD hX ⊢
  have hA : ∀ q : Nat, s.heap.size ≤ q → A q := fun q h => by rw [← hAe]; exact Or.inr h
  have hS : va_S A s.heap s.heap [] := va_S.rf
  have hl := lv_entry ([.ref h0, .ref tp]) (n := 2) (Nat.le_of_ble_eq_true rfl)
  rw [lg_entry_eq]
  generalize (lg_sl ([.ref h0, .ref tp]) ++ List.replicate (2 - (lg_sl ([.ref h0, .ref tp])).length) Slot.unset).toArray = ls at hl ⊢
  have hl : lv_has ls 2 [(0, .ref h0), (1, .ref tp)] := hl
  refine lv_aload_n hx hb dX3_init_0 rfl (lv_at hl 0 rfl) ?_
  refine W.objInit hx hb hown (hw _ wd_64) (hw _ wd_26) (hw _ wd_27) rfl (by rw [hml]; exact hl.1) rfl dX3_init_1 (Nat.le_of_ble_eq_true rfl) (Nat.le_of_ble_eq_true rfl) ?_
  refine W.eq (g2 := F0 m 4 ls []) rfl ?_
  refine lv_aload_n hx hb dX3_init_4 rfl (lv_at hl 0 rfl) ?_
  refine va_new (ci := 2) (fs := [.int 0, .int 0, .int 0, .int 0, .int 0, .null, .null, .null, .null, .null, .null, .null]) (C := RX2) (T := TX2) (N := 12) hx hb hw inlX2 tyX2 tyX2_ok hown (hw _ wd_65) (hw _ wd_66) (hw _ wd_4) hK hP hD hS hA rfl (fun j hj => by rcases (show j = 0 ∨ j = 1 ∨ j = 2 ∨ j = 3 ∨ j = 4 ∨ j = 5 ∨ j = 6 ∨ j = 7 ∨ j = 8 ∨ j = 9 ∨ j = 10 ∨ j = 11 by omega) with rfl | rfl | rfl | rfl | rfl | rfl | rfl | rfl | rfl | rfl | rfl | rfl <;> rfl) (Nat.le_of_ble_eq_true rfl) (Nat.le_of_ble_eq_true rfl) dX3_init_5 (fun q_1 H hP hD hS => ?_)
  have hP : va_P D vwCl ([(h0, .inr (3, [.null, .null, .int 0])), (q_1, .inr (2, [.int 0, .int 0, .int 0, .int 0, .int 0, .null, .null, .null, .null, .null, .null, .null]))]) H := hP
  have hD : va_D A ([(h0, .inr (3, [.null, .null, .int 0])), (q_1, .inr (2, [.int 0, .int 0, .int 0, .int 0, .int 0, .null, .null, .null, .null, .null, .null, .null]))]) := hD
  refine W.widen (k := 1) (n := 12) (Nat.le_of_ble_eq_true rfl) (Nat.le_of_ble_eq_true rfl) ?_
  refine lv_dup hx hb dX3_init_8 rfl ?_
  refine x_v (wr := [(h0, .inr (3, [.null, .null, .int 0]))]) (va_runIN (As := []) (rest := [.ref q_1, .ref h0]) ⟨hx, hb, hml, hown, hw⟩ (kX2_init l D k sd q_1  H.size) ⟨va_cnB 0 hw (gM wd_69) rfl rfl rfl (hE.1 _ (List.mem_of_getElem? (i := 1) rfl)) (hw _ wd_4) (by decide +kernel) ⟨Nat.le_of_ble_eq_true rfl, Nat.le_of_ble_eq_true rfl⟩, rfl, hw _ wd_68⟩ (pre_S hK hE hX hP hD hS hA [1] (by decide) rfl) rfl rfl hl.1 rfl (lv_room (Nat.le_of_ble_eq_true rfl)) dX3_init_9 ⟨Nat.le_of_ble_eq_true rfl, Nat.le_of_ble_eq_true rfl⟩) hP hD hS hA [1] [0] rfl rfl (by decide) (by decide) (fun u_2 H locs hp_3 hP hD hS => ?_)
  have hP : va_P D vwCl ([(h0, .inr (3, [.null, .null, .int 0]))] ++ G2 k q_1 u_2) H := hP
  have hD : va_D A ([(h0, .inr (3, [.null, .null, .int 0]))] ++ G2 k q_1 u_2) := hD
  refine W.widen (k := 8) (n := 79) (Nat.le_of_ble_eq_true rfl) (Nat.le_of_ble_eq_true rfl) ?_
  refine va_putF (D := D) (ci := 3) (v := .ref q_1) (ty := .object "RaftForest$River") (C := RX3) (T := TX3) (N := 3) hx hb hw inlX3 tyX3 tyX3_ok nmX3 hown hK hP hD hS 0 rfl rfl 0 (by decide) (hw _ wd_141) (fun _ h9 => h9) rfl hin rfl (by decide +kernel) rfl rfl (Nat.le_of_ble_eq_true rfl) dX3_init_12 (fun H locs hP hD hS => ?_)
  have hP : va_P D vwCl ([(h0, .inr (3, [.ref q_1, .null, .int 0]))] ++ G2 k q_1 u_2) H := hP
  have hD : va_D A ([(h0, .inr (3, [.ref q_1, .null, .int 0]))] ++ G2 k q_1 u_2) := hD
  refine lv_aload_n hx hb dX3_init_15 rfl (lv_at hl 0 rfl) ?_
  refine lv_aload_n hx hb dX3_init_16 rfl (lv_at hl 1 rfl) ?_
  refine va_putF (D := D) (ci := 3) (v := .ref tp) (ty := .object "RaftForest$Tape") (C := RX3) (T := TX3) (N := 3) hx hb hw inlX3 tyX3 tyX3_ok nmX3 hown hK hP hD hS 0 rfl rfl 1 (by decide) (hw _ wd_143) (fun _ h9 => h9) rfl hin rfl (by decide +kernel) rfl rfl (Nat.le_of_ble_eq_true rfl) dX3_init_17 (fun H locs hP hD hS => ?_)
  have hP : va_P D vwCl ([(h0, .inr (3, [.ref q_1, .ref tp, .int 0]))] ++ G2 k q_1 u_2) H := hP
  have hD : va_D A ([(h0, .inr (3, [.ref q_1, .ref tp, .int 0]))] ++ G2 k q_1 u_2) := hD
  refine W.widen (k := 8) (n := 79) (Nat.le_of_ble_eq_true rfl) (Nat.le_of_ble_eq_true rfl) ?_
  have hP9 : va_P D vwCl ((fun u => G3 k h0 tp u) (xu [q_1, u_2 0, u_2 1, u_2 2, u_2 3, u_2 4, u_2 5, u_2 6])) H := hP.sub [0, 1, 2, 3, 4, 5, 6, 7, 8] rfl
  have hD9 : va_D A ((fun u => G3 k h0 tp u) (xu [q_1, u_2 0, u_2 1, u_2 2, u_2 3, u_2 4, u_2 5, u_2 6])) := hD.sub [0, 1, 2, 3, 4, 5, 6, 7, 8] (by decide) rfl
  exact W.vret hx hb hr (fun t ht hW => ⟨⟨(xu [q_1, u_2 0, u_2 1, u_2 2, u_2 3, u_2 4, u_2 5, u_2 6]), rfl, trivial, by rw [ht]; exact hP9, hD9⟩, hS.F ht⟩) hS.2.2 dX3_init_20

set_option maxHeartbeats 4000000 in
set_option maxRecDepth 100000 in
theorem kX5_init (l : Launch) (D : va_G) (k : Nat → ClassId) (sd : Nat → Nat) (h0 : Nat) (tp : Nat) (sz : Nat) : Met l yX5_init (wB yX5_init cX5_init 2 none) ({ frames := 1, cells := 0, slots := 0, locals := 12 }) (va_Pc [.ref h0, .ref tp] (PRE D k sd ([(h0, .inr (5, [.null, .int 0]))]) sz)) (va_Qv (S := Nat → Nat) (fun _ => True) (fun u t => PO D (va_A ([(h0, .inr (5, [.null, .int 0]))]) sz) ((fun u => G5 k h0 tp u) u) t) (va_A ([(h0, .inr (5, [.null, .int 0]))]) sz)) 0 0 (va_A ([(h0, .inr (5, [.null, .int 0]))]) sz) := by
  refine Met.ofW (cc := cX5_init) (maxL := 2) (ret := none) (by decide) rfl ?_
  intro p e s m args below meth c s₁ B hml hv
  obtain ⟨rfl, hsz, hP, hK, hD0, hE, hX⟩ := hv
  have hx := B.exec
  have hb := B.bytes
  have hr := B.returns
  have hw : ∀ w ∈ wsB, w.before _ s = true := fun w h => atoms_spec (ws := wB yX5_init cX5_init 2 none) B.pre w (List.mem_cons_of_mem _ h)
  have hown : s.vm.findClass RX5 = some m.cls := findClass_of_methodNamed B.named
  have hlocks := B.notSynchronized
  have hin : meth.name = "<init>" := (name_of_methodNamed B.named B.method).1
  subst hsz
  have hD := hD0.self (sz := s.heap.size)
  generalize hAe : va_A ([(h0, .inr (5, [.null, .int 0]))]) s.heap.size = A at hD hX ⊢
  have hA : ∀ q : Nat, s.heap.size ≤ q → A q := fun q h => by rw [← hAe]; exact Or.inr h
  have hS : va_S A s.heap s.heap [] := va_S.rf
  have hl := lv_entry ([.ref h0, .ref tp]) (n := 2) (Nat.le_of_ble_eq_true rfl)
  rw [lg_entry_eq]
  generalize (lg_sl ([.ref h0, .ref tp]) ++ List.replicate (2 - (lg_sl ([.ref h0, .ref tp])).length) Slot.unset).toArray = ls at hl ⊢
  have hl : lv_has ls 2 [(0, .ref h0), (1, .ref tp)] := hl
  refine lv_aload_n hx hb dX5_init_0 rfl (lv_at hl 0 rfl) ?_
  refine W.objInit hx hb hown (hw _ wd_157) (hw _ wd_26) (hw _ wd_27) rfl (by rw [hml]; exact hl.1) rfl dX5_init_1 (Nat.le_of_ble_eq_true rfl) (Nat.le_of_ble_eq_true rfl) ?_
  refine W.eq (g2 := F0 m 4 ls []) rfl ?_
  refine lv_aload_n hx hb dX5_init_4 rfl (lv_at hl 0 rfl) ?_
  refine lv_aload_n hx hb dX5_init_5 rfl (lv_at hl 1 rfl) ?_
  refine va_putF (D := D) (ci := 5) (v := .ref tp) (ty := .object "RaftForest$Tape") (C := RX5) (T := TX5) (N := 2) hx hb hw inlX5 tyX5 tyX5_ok nmX5 hown hK hP hD hS 0 rfl rfl 0 (by decide) (hw _ wd_158) (fun _ h9 => h9) rfl hin rfl (by decide +kernel) rfl rfl (Nat.le_of_ble_eq_true rfl) dX5_init_6 (fun H locs hP hD hS => ?_)
  have hP : va_P D vwCl ([(h0, .inr (5, [.ref tp, .int 0]))]) H := hP
  have hD : va_D A ([(h0, .inr (5, [.ref tp, .int 0]))]) := hD
  refine W.widen (k := 0) (n := 0) (Nat.le_of_ble_eq_true rfl) (Nat.le_of_ble_eq_true rfl) ?_
  have hP9 : va_P D vwCl ((fun u => G5 k h0 tp u) (xu [])) H := hP.sub [0] rfl
  have hD9 : va_D A ((fun u => G5 k h0 tp u) (xu [])) := hD.sub [0] (by decide) rfl
  exact W.vret hx hb hr (fun t ht hW => ⟨⟨(xu []), rfl, trivial, by rw [ht]; exact hP9, hD9⟩, hS.F ht⟩) hS.2.2 dX5_init_9

set_option maxHeartbeats 4000000 in
set_option maxRecDepth 100000 in
theorem kX4_init (l : Launch) (D : va_G) (k : Nat → ClassId) (sd : Nat → Nat) (h0 : Nat) (sz : Nat) : Met l yX4_init (wB yX4_init cX4_init 1 none) ({ frames := 1, cells := 2, slots := 460, locals := 12 }) (va_Pc [.ref h0] (PRE D k sd ([(h0, .inr (4, [.null, .int 0, .int 0, .int 0, .null, .long 0]))]) sz)) (va_Qv (S := Nat → Nat) (fun _ => True) (fun u t => PO D (va_A ([(h0, .inr (4, [.null, .int 0, .int 0, .int 0, .null, .long 0]))]) sz) ((fun u => G4 k h0 u) u) t) (va_A ([(h0, .inr (4, [.null, .int 0, .int 0, .int 0, .null, .long 0]))]) sz)) 2 460 (va_A ([(h0, .inr (4, [.null, .int 0, .int 0, .int 0, .null, .long 0]))]) sz) := by
  refine Met.ofW (cc := cX4_init) (maxL := 1) (ret := none) (by decide) rfl ?_
  intro p e s m args below meth c s₁ B hml hv
  obtain ⟨rfl, hsz, hP, hK, hD0, hE, hX⟩ := hv
  have hx := B.exec
  have hb := B.bytes
  have hr := B.returns
  have hw : ∀ w ∈ wsB, w.before _ s = true := fun w h => atoms_spec (ws := wB yX4_init cX4_init 1 none) B.pre w (List.mem_cons_of_mem _ h)
  have hown : s.vm.findClass RX4 = some m.cls := findClass_of_methodNamed B.named
  have hlocks := B.notSynchronized
  have hin : meth.name = "<init>" := (name_of_methodNamed B.named B.method).1
  subst hsz
  have hD := hD0.self (sz := s.heap.size)
  generalize hAe : va_A ([(h0, .inr (4, [.null, .int 0, .int 0, .int 0, .null, .long 0]))]) s.heap.size = A at hD hX ⊢
  have hA : ∀ q : Nat, s.heap.size ≤ q → A q := fun q h => by rw [← hAe]; exact Or.inr h
  have hS : va_S A s.heap s.heap [] := va_S.rf
  have hl := lv_entry ([.ref h0]) (n := 1) (Nat.le_of_ble_eq_true rfl)
  rw [lg_entry_eq]
  generalize (lg_sl ([.ref h0]) ++ List.replicate (1 - (lg_sl ([.ref h0])).length) Slot.unset).toArray = ls at hl ⊢
  have hl : lv_has ls 1 [(0, .ref h0)] := hl
  refine lv_aload_n hx hb dX4_init_0 rfl (lv_at hl 0 rfl) ?_
  refine W.objInit hx hb hown (hw _ wd_171) (hw _ wd_26) (hw _ wd_27) rfl (by rw [hml]; exact hl.1) rfl dX4_init_1 (Nat.le_of_ble_eq_true rfl) (Nat.le_of_ble_eq_true rfl) ?_
  refine W.eq (g2 := F0 m 4 ls []) rfl ?_
  refine lv_aload_n hx hb dX4_init_4 rfl (lv_at hl 0 rfl) ?_
  refine lv_sipush (v := 400) hx hb dX4_init_5 (by decide) ?_
  refine x_newI (N' := 400) hx hb (hw _ wd_58) hK hP hD hS hA (by decide) (by decide) (Nat.le_of_ble_eq_true rfl) (Nat.le_of_ble_eq_true rfl) (Nat.le_of_ble_eq_true rfl) dX4_init_8 (fun q_1 H hP hD hS => ?_)
  have hP : va_P D vwCl ([(h0, .inr (4, [.null, .int 0, .int 0, .int 0, .null, .long 0])), (q_1, .inl (k 0, 400, .inl (fun _ => 0)))]) H := hP
  have hD : va_D A ([(h0, .inr (4, [.null, .int 0, .int 0, .int 0, .null, .long 0])), (q_1, .inl (k 0, 400, .inl (fun _ => 0)))]) := hD
  refine W.widen (k := 1) (n := 400) (Nat.le_of_ble_eq_true rfl) (Nat.le_of_ble_eq_true rfl) ?_
  refine va_putF (D := D) (ci := 4) (v := .ref q_1) (ty := .array .int) (C := RX4) (T := TX4) (N := 6) hx hb hw inlX4 tyX4 tyX4_ok nmX4 hown hK hP hD hS 0 rfl rfl 0 (by decide) (hw _ wd_172) (fun _ h9 => h9) rfl hin rfl (by decide +kernel) rfl rfl (Nat.le_of_ble_eq_true rfl) dX4_init_10 (fun H locs hP hD hS => ?_)
  have hP : va_P D vwCl ([(h0, .inr (4, [.ref q_1, .int 0, .int 0, .int 0, .null, .long 0])), (q_1, .inl (k 0, 400, .inl (fun _ => 0)))]) H := hP
  have hD : va_D A ([(h0, .inr (4, [.ref q_1, .int 0, .int 0, .int 0, .null, .long 0])), (q_1, .inl (k 0, 400, .inl (fun _ => 0)))]) := hD
  refine lv_aload_n hx hb dX4_init_13 rfl (lv_at hl 0 rfl) ?_
  refine lv_bipush (v := 60) hx hb dX4_init_14 (by decide) ?_
  refine x_newJ (N' := 60) hx hb (hw _ wd_192) hK hP hD hS hA (by decide) (by decide) (Nat.le_of_ble_eq_true rfl) (Nat.le_of_ble_eq_true rfl) (Nat.le_of_ble_eq_true rfl) dX4_init_16 (fun q_2 H hP hD hS => ?_)
  have hP : va_P D vwCl ([(h0, .inr (4, [.ref q_1, .int 0, .int 0, .int 0, .null, .long 0])), (q_1, .inl (k 0, 400, .inl (fun _ => 0))), (q_2, .inl (k 1, 60, .inr (.inl (fun _ => 0))))]) H := hP
  have hD : va_D A ([(h0, .inr (4, [.ref q_1, .int 0, .int 0, .int 0, .null, .long 0])), (q_1, .inl (k 0, 400, .inl (fun _ => 0))), (q_2, .inl (k 1, 60, .inr (.inl (fun _ => 0))))]) := hD
  refine W.widen (k := 2) (n := 460) (Nat.le_of_ble_eq_true rfl) (Nat.le_of_ble_eq_true rfl) ?_
  refine va_putF (D := D) (ci := 4) (v := .ref q_2) (ty := .array .long) (C := RX4) (T := TX4) (N := 6) hx hb hw inlX4 tyX4 tyX4_ok nmX4 hown hK hP hD hS 0 rfl rfl 4 (by decide) (hw _ wd_176) (fun _ h9 => h9) rfl hin rfl (by decide +kernel) rfl rfl (Nat.le_of_ble_eq_true rfl) dX4_init_18 (fun H locs hP hD hS => ?_)
  have hP : va_P D vwCl ([(h0, .inr (4, [.ref q_1, .int 0, .int 0, .int 0, .ref q_2, .long 0])), (q_1, .inl (k 0, 400, .inl (fun _ => 0))), (q_2, .inl (k 1, 60, .inr (.inl (fun _ => 0))))]) H := hP
  have hD : va_D A ([(h0, .inr (4, [.ref q_1, .int 0, .int 0, .int 0, .ref q_2, .long 0])), (q_1, .inl (k 0, 400, .inl (fun _ => 0))), (q_2, .inl (k 1, 60, .inr (.inl (fun _ => 0))))]) := hD
  refine W.widen (k := 2) (n := 460) (Nat.le_of_ble_eq_true rfl) (Nat.le_of_ble_eq_true rfl) ?_
  have hP9 : va_P D vwCl ((fun u => G4 k h0 u) (xu [q_1, q_2])) H := hP.sub [0, 1, 2] rfl
  have hD9 : va_D A ((fun u => G4 k h0 u) (xu [q_1, q_2])) := hD.sub [0, 1, 2] (by decide) rfl
  exact W.vret hx hb hr (fun t ht hW => ⟨⟨(xu [q_1, q_2]), rfl, trivial, by rw [ht]; exact hP9, hD9⟩, hS.F ht⟩) hS.2.2 dX4_init_21

set_option maxHeartbeats 4000000 in
set_option maxRecDepth 100000 in
theorem kX6_init (l : Launch) (D : va_G) (k : Nat → ClassId) (sd : Nat → Nat) (h0 : Nat) (sz : Nat) : Met l yX6_init (wB yX6_init cX6_init 1 none) ({ frames := 1, cells := 9, slots := 159, locals := 12 }) (va_Pc [.ref h0] (PRE D k sd ([(h0, .inr (6, [.int 0, .int 0, .int 0, .int 0, .int 0, .int 0, .null, .null, .null, .null, .null, .null, .null, .null, .null]))]) sz)) (va_Qv (S := Nat → Nat) (fun _ => True) (fun u t => PO D (va_A ([(h0, .inr (6, [.int 0, .int 0, .int 0, .int 0, .int 0, .int 0, .null, .null, .null, .null, .null, .null, .null, .null, .null]))]) sz) ((fun u => G6 k h0 u) u) t) (va_A ([(h0, .inr (6, [.int 0, .int 0, .int 0, .int 0, .int 0, .int 0, .null, .null, .null, .null, .null, .null, .null, .null, .null]))]) sz)) 9 159 (va_A ([(h0, .inr (6, [.int 0, .int 0, .int 0, .int 0, .int 0, .int 0, .null, .null, .null, .null, .null, .null, .null, .null, .null]))]) sz) := by
  refine Met.ofW (cc := cX6_init) (maxL := 1) (ret := none) (by decide) rfl ?_
  intro p e s m args below meth c s₁ B hml hv
  obtain ⟨rfl, hsz, hP, hK, hD0, hE, hX⟩ := hv
  have hx := B.exec
  have hb := B.bytes
  have hr := B.returns
  have hw : ∀ w ∈ wsB, w.before _ s = true := fun w h => atoms_spec (ws := wB yX6_init cX6_init 1 none) B.pre w (List.mem_cons_of_mem _ h)
  have hown : s.vm.findClass RX6 = some m.cls := findClass_of_methodNamed B.named
  have hlocks := B.notSynchronized
  have hin : meth.name = "<init>" := (name_of_methodNamed B.named B.method).1
  subst hsz
  have hD := hD0.self (sz := s.heap.size)
  generalize hAe : va_A ([(h0, .inr (6, [.int 0, .int 0, .int 0, .int 0, .int 0, .int 0, .null, .null, .null, .null, .null, .null, .null, .null, .null]))]) s.heap.size = A at hD hX ⊢
  have hA : ∀ q : Nat, s.heap.size ≤ q → A q := fun q h => by rw [← hAe]; exact Or.inr h
  have hS : va_S A s.heap s.heap [] := va_S.rf
  have hl := lv_entry ([.ref h0]) (n := 1) (Nat.le_of_ble_eq_true rfl)
  rw [lg_entry_eq]
  generalize (lg_sl ([.ref h0]) ++ List.replicate (1 - (lg_sl ([.ref h0])).length) Slot.unset).toArray = ls at hl ⊢
  have hl : lv_has ls 1 [(0, .ref h0)] := hl
  refine lv_aload_n hx hb dX6_init_0 rfl (lv_at hl 0 rfl) ?_
  refine W.objInit hx hb hown (hw _ wd_206) (hw _ wd_26) (hw _ wd_27) rfl (by rw [hml]; exact hl.1) rfl dX6_init_1 (Nat.le_of_ble_eq_true rfl) (Nat.le_of_ble_eq_true rfl) ?_
  refine W.eq (g2 := F0 m 4 ls []) rfl ?_
  refine lv_aload_n hx hb dX6_init_4 rfl (lv_at hl 0 rfl) ?_
  refine lv_iconst (v := (-1)) hx hb dX6_init_5 (by decide) ?_
  refine va_put (D := D) (ci := 6) (v := .int (-1)) (ty := .int) (C := RX6) (T := TX6) (N := 15) hx hb hw inlX6 tyX6 tyX6_ok nmX6 hown hK hP hD hS 0 rfl rfl 2 (by decide) (hw _ wd_214) (fun _ h9 => h9) rfl (by decide +kernel) rfl rfl (Nat.le_of_ble_eq_true rfl) dX6_init_6 (fun H locs hP hD hS => ?_)
  have hP : va_P D vwCl ([(h0, .inr (6, [.int 0, .int 0, .int (-1), .int 0, .int 0, .int 0, .null, .null, .null, .null, .null, .null, .null, .null, .null]))]) H := hP
  have hD : va_D A ([(h0, .inr (6, [.int 0, .int 0, .int (-1), .int 0, .int 0, .int 0, .null, .null, .null, .null, .null, .null, .null, .null, .null]))]) := hD
  refine lv_aload_n hx hb dX6_init_9 rfl (lv_at hl 0 rfl) ?_
  refine lv_bipush (v := 6) hx hb dX6_init_10 (by decide) ?_
  refine x_newI (N' := 6) hx hb (hw _ wd_58) hK hP hD hS hA (by decide) (by decide) (Nat.le_of_ble_eq_true rfl) (Nat.le_of_ble_eq_true rfl) (Nat.le_of_ble_eq_true rfl) dX6_init_12 (fun q_1 H hP hD hS => ?_)
  have hP : va_P D vwCl ([(h0, .inr (6, [.int 0, .int 0, .int (-1), .int 0, .int 0, .int 0, .null, .null, .null, .null, .null, .null, .null, .null, .null])), (q_1, .inl (k 0, 6, .inl (fun _ => 0)))]) H := hP
  have hD : va_D A ([(h0, .inr (6, [.int 0, .int 0, .int (-1), .int 0, .int 0, .int 0, .null, .null, .null, .null, .null, .null, .null, .null, .null])), (q_1, .inl (k 0, 6, .inl (fun _ => 0)))]) := hD
  refine W.widen (k := 1) (n := 6) (Nat.le_of_ble_eq_true rfl) (Nat.le_of_ble_eq_true rfl) ?_
  refine va_putF (D := D) (ci := 6) (v := .ref q_1) (ty := .array .int) (C := RX6) (T := TX6) (N := 15) hx hb hw inlX6 tyX6 tyX6_ok nmX6 hown hK hP hD hS 0 rfl rfl 6 (by decide) (hw _ wd_224) (fun _ h9 => h9) rfl hin rfl (by decide +kernel) rfl rfl (Nat.le_of_ble_eq_true rfl) dX6_init_14 (fun H locs hP hD hS => ?_)
  have hP : va_P D vwCl ([(h0, .inr (6, [.int 0, .int 0, .int (-1), .int 0, .int 0, .int 0, .ref q_1, .null, .null, .null, .null, .null, .null, .null, .null])), (q_1, .inl (k 0, 6, .inl (fun _ => 0)))]) H := hP
  have hD : va_D A ([(h0, .inr (6, [.int 0, .int 0, .int (-1), .int 0, .int 0, .int 0, .ref q_1, .null, .null, .null, .null, .null, .null, .null, .null])), (q_1, .inl (k 0, 6, .inl (fun _ => 0)))]) := hD
  refine lv_aload_n hx hb dX6_init_17 rfl (lv_at hl 0 rfl) ?_
  refine lv_bipush (v := 9) hx hb dX6_init_18 (by decide) ?_
  refine x_newI (N' := 9) hx hb (hw _ wd_58) hK hP hD hS hA (by decide) (by decide) (Nat.le_of_ble_eq_true rfl) (Nat.le_of_ble_eq_true rfl) (Nat.le_of_ble_eq_true rfl) dX6_init_20 (fun q_2 H hP hD hS => ?_)
  have hP : va_P D vwCl ([(h0, .inr (6, [.int 0, .int 0, .int (-1), .int 0, .int 0, .int 0, .ref q_1, .null, .null, .null, .null, .null, .null, .null, .null])), (q_1, .inl (k 0, 6, .inl (fun _ => 0))), (q_2, .inl (k 0, 9, .inl (fun _ => 0)))]) H := hP
  have hD : va_D A ([(h0, .inr (6, [.int 0, .int 0, .int (-1), .int 0, .int 0, .int 0, .ref q_1, .null, .null, .null, .null, .null, .null, .null, .null])), (q_1, .inl (k 0, 6, .inl (fun _ => 0))), (q_2, .inl (k 0, 9, .inl (fun _ => 0)))]) := hD
  refine W.widen (k := 2) (n := 15) (Nat.le_of_ble_eq_true rfl) (Nat.le_of_ble_eq_true rfl) ?_
  refine va_putF (D := D) (ci := 6) (v := .ref q_2) (ty := .array .int) (C := RX6) (T := TX6) (N := 15) hx hb hw inlX6 tyX6 tyX6_ok nmX6 hown hK hP hD hS 0 rfl rfl 7 (by decide) (hw _ wd_227) (fun _ h9 => h9) rfl hin rfl (by decide +kernel) rfl rfl (Nat.le_of_ble_eq_true rfl) dX6_init_22 (fun H locs hP hD hS => ?_)
  have hP : va_P D vwCl ([(h0, .inr (6, [.int 0, .int 0, .int (-1), .int 0, .int 0, .int 0, .ref q_1, .ref q_2, .null, .null, .null, .null, .null, .null, .null])), (q_1, .inl (k 0, 6, .inl (fun _ => 0))), (q_2, .inl (k 0, 9, .inl (fun _ => 0)))]) H := hP
  have hD : va_D A ([(h0, .inr (6, [.int 0, .int 0, .int (-1), .int 0, .int 0, .int 0, .ref q_1, .ref q_2, .null, .null, .null, .null, .null, .null, .null])), (q_1, .inl (k 0, 6, .inl (fun _ => 0))), (q_2, .inl (k 0, 9, .inl (fun _ => 0)))]) := hD
  refine lv_aload_n hx hb dX6_init_25 rfl (lv_at hl 0 rfl) ?_
  refine lv_bipush (v := 12) hx hb dX6_init_26 (by decide) ?_
  refine x_newI (N' := 12) hx hb (hw _ wd_58) hK hP hD hS hA (by decide) (by decide) (Nat.le_of_ble_eq_true rfl) (Nat.le_of_ble_eq_true rfl) (Nat.le_of_ble_eq_true rfl) dX6_init_28 (fun q_3 H hP hD hS => ?_)
  have hP : va_P D vwCl ([(h0, .inr (6, [.int 0, .int 0, .int (-1), .int 0, .int 0, .int 0, .ref q_1, .ref q_2, .null, .null, .null, .null, .null, .null, .null])), (q_1, .inl (k 0, 6, .inl (fun _ => 0))), (q_2, .inl (k 0, 9, .inl (fun _ => 0))), (q_3, .inl (k 0, 12, .inl (fun _ => 0)))]) H := hP
  have hD : va_D A ([(h0, .inr (6, [.int 0, .int 0, .int (-1), .int 0, .int 0, .int 0, .ref q_1, .ref q_2, .null, .null, .null, .null, .null, .null, .null])), (q_1, .inl (k 0, 6, .inl (fun _ => 0))), (q_2, .inl (k 0, 9, .inl (fun _ => 0))), (q_3, .inl (k 0, 12, .inl (fun _ => 0)))]) := hD
  refine W.widen (k := 3) (n := 27) (Nat.le_of_ble_eq_true rfl) (Nat.le_of_ble_eq_true rfl) ?_
  refine va_putF (D := D) (ci := 6) (v := .ref q_3) (ty := .array .int) (C := RX6) (T := TX6) (N := 15) hx hb hw inlX6 tyX6 tyX6_ok nmX6 hown hK hP hD hS 0 rfl rfl 8 (by decide) (hw _ wd_230) (fun _ h9 => h9) rfl hin rfl (by decide +kernel) rfl rfl (Nat.le_of_ble_eq_true rfl) dX6_init_30 (fun H locs hP hD hS => ?_)
  have hP : va_P D vwCl ([(h0, .inr (6, [.int 0, .int 0, .int (-1), .int 0, .int 0, .int 0, .ref q_1, .ref q_2, .ref q_3, .null, .null, .null, .null, .null, .null])), (q_1, .inl (k 0, 6, .inl (fun _ => 0))), (q_2, .inl (k 0, 9, .inl (fun _ => 0))), (q_3, .inl (k 0, 12, .inl (fun _ => 0)))]) H := hP
  have hD : va_D A ([(h0, .inr (6, [.int 0, .int 0, .int (-1), .int 0, .int 0, .int 0, .ref q_1, .ref q_2, .ref q_3, .null, .null, .null, .null, .null, .null])), (q_1, .inl (k 0, 6, .inl (fun _ => 0))), (q_2, .inl (k 0, 9, .inl (fun _ => 0))), (q_3, .inl (k 0, 12, .inl (fun _ => 0)))]) := hD
  refine lv_aload_n hx hb dX6_init_33 rfl (lv_at hl 0 rfl) ?_
  refine lv_bipush (v := 12) hx hb dX6_init_34 (by decide) ?_
  refine x_newI (N' := 12) hx hb (hw _ wd_58) hK hP hD hS hA (by decide) (by decide) (Nat.le_of_ble_eq_true rfl) (Nat.le_of_ble_eq_true rfl) (Nat.le_of_ble_eq_true rfl) dX6_init_36 (fun q_4 H hP hD hS => ?_)
  have hP : va_P D vwCl ([(h0, .inr (6, [.int 0, .int 0, .int (-1), .int 0, .int 0, .int 0, .ref q_1, .ref q_2, .ref q_3, .null, .null, .null, .null, .null, .null])), (q_1, .inl (k 0, 6, .inl (fun _ => 0))), (q_2, .inl (k 0, 9, .inl (fun _ => 0))), (q_3, .inl (k 0, 12, .inl (fun _ => 0))), (q_4, .inl (k 0, 12, .inl (fun _ => 0)))]) H := hP
  have hD : va_D A ([(h0, .inr (6, [.int 0, .int 0, .int (-1), .int 0, .int 0, .int 0, .ref q_1, .ref q_2, .ref q_3, .null, .null, .null, .null, .null, .null])), (q_1, .inl (k 0, 6, .inl (fun _ => 0))), (q_2, .inl (k 0, 9, .inl (fun _ => 0))), (q_3, .inl (k 0, 12, .inl (fun _ => 0))), (q_4, .inl (k 0, 12, .inl (fun _ => 0)))]) := hD
  refine W.widen (k := 4) (n := 39) (Nat.le_of_ble_eq_true rfl) (Nat.le_of_ble_eq_true rfl) ?_
  refine va_putF (D := D) (ci := 6) (v := .ref q_4) (ty := .array .int) (C := RX6) (T := TX6) (N := 15) hx hb hw inlX6 tyX6 tyX6_ok nmX6 hown hK hP hD hS 0 rfl rfl 9 (by decide) (hw _ wd_234) (fun _ h9 => h9) rfl hin rfl (by decide +kernel) rfl rfl (Nat.le_of_ble_eq_true rfl) dX6_init_38 (fun H locs hP hD hS => ?_)
  have hP : va_P D vwCl ([(h0, .inr (6, [.int 0, .int 0, .int (-1), .int 0, .int 0, .int 0, .ref q_1, .ref q_2, .ref q_3, .ref q_4, .null, .null, .null, .null, .null])), (q_1, .inl (k 0, 6, .inl (fun _ => 0))), (q_2, .inl (k 0, 9, .inl (fun _ => 0))), (q_3, .inl (k 0, 12, .inl (fun _ => 0))), (q_4, .inl (k 0, 12, .inl (fun _ => 0)))]) H := hP
  have hD : va_D A ([(h0, .inr (6, [.int 0, .int 0, .int (-1), .int 0, .int 0, .int 0, .ref q_1, .ref q_2, .ref q_3, .ref q_4, .null, .null, .null, .null, .null])), (q_1, .inl (k 0, 6, .inl (fun _ => 0))), (q_2, .inl (k 0, 9, .inl (fun _ => 0))), (q_3, .inl (k 0, 12, .inl (fun _ => 0))), (q_4, .inl (k 0, 12, .inl (fun _ => 0)))]) := hD
  refine lv_aload_n hx hb dX6_init_41 rfl (lv_at hl 0 rfl) ?_
  refine lv_bipush (v := 12) hx hb dX6_init_42 (by decide) ?_
  refine x_newI (N' := 12) hx hb (hw _ wd_58) hK hP hD hS hA (by decide) (by decide) (Nat.le_of_ble_eq_true rfl) (Nat.le_of_ble_eq_true rfl) (Nat.le_of_ble_eq_true rfl) dX6_init_44 (fun q_5 H hP hD hS => ?_)
  have hP : va_P D vwCl ([(h0, .inr (6, [.int 0, .int 0, .int (-1), .int 0, .int 0, .int 0, .ref q_1, .ref q_2, .ref q_3, .ref q_4, .null, .null, .null, .null, .null])), (q_1, .inl (k 0, 6, .inl (fun _ => 0))), (q_2, .inl (k 0, 9, .inl (fun _ => 0))), (q_3, .inl (k 0, 12, .inl (fun _ => 0))), (q_4, .inl (k 0, 12, .inl (fun _ => 0))), (q_5, .inl (k 0, 12, .inl (fun _ => 0)))]) H := hP
  have hD : va_D A ([(h0, .inr (6, [.int 0, .int 0, .int (-1), .int 0, .int 0, .int 0, .ref q_1, .ref q_2, .ref q_3, .ref q_4, .null, .null, .null, .null, .null])), (q_1, .inl (k 0, 6, .inl (fun _ => 0))), (q_2, .inl (k 0, 9, .inl (fun _ => 0))), (q_3, .inl (k 0, 12, .inl (fun _ => 0))), (q_4, .inl (k 0, 12, .inl (fun _ => 0))), (q_5, .inl (k 0, 12, .inl (fun _ => 0)))]) := hD
  refine W.widen (k := 5) (n := 51) (Nat.le_of_ble_eq_true rfl) (Nat.le_of_ble_eq_true rfl) ?_
  refine va_putF (D := D) (ci := 6) (v := .ref q_5) (ty := .array .int) (C := RX6) (T := TX6) (N := 15) hx hb hw inlX6 tyX6 tyX6_ok nmX6 hown hK hP hD hS 0 rfl rfl 10 (by decide) (hw _ wd_237) (fun _ h9 => h9) rfl hin rfl (by decide +kernel) rfl rfl (Nat.le_of_ble_eq_true rfl) dX6_init_46 (fun H locs hP hD hS => ?_)
  have hP : va_P D vwCl ([(h0, .inr (6, [.int 0, .int 0, .int (-1), .int 0, .int 0, .int 0, .ref q_1, .ref q_2, .ref q_3, .ref q_4, .ref q_5, .null, .null, .null, .null])), (q_1, .inl (k 0, 6, .inl (fun _ => 0))), (q_2, .inl (k 0, 9, .inl (fun _ => 0))), (q_3, .inl (k 0, 12, .inl (fun _ => 0))), (q_4, .inl (k 0, 12, .inl (fun _ => 0))), (q_5, .inl (k 0, 12, .inl (fun _ => 0)))]) H := hP
  have hD : va_D A ([(h0, .inr (6, [.int 0, .int 0, .int (-1), .int 0, .int 0, .int 0, .ref q_1, .ref q_2, .ref q_3, .ref q_4, .ref q_5, .null, .null, .null, .null])), (q_1, .inl (k 0, 6, .inl (fun _ => 0))), (q_2, .inl (k 0, 9, .inl (fun _ => 0))), (q_3, .inl (k 0, 12, .inl (fun _ => 0))), (q_4, .inl (k 0, 12, .inl (fun _ => 0))), (q_5, .inl (k 0, 12, .inl (fun _ => 0)))]) := hD
  refine lv_aload_n hx hb dX6_init_49 rfl (lv_at hl 0 rfl) ?_
  refine lv_bipush (v := 12) hx hb dX6_init_50 (by decide) ?_
  refine x_newI (N' := 12) hx hb (hw _ wd_58) hK hP hD hS hA (by decide) (by decide) (Nat.le_of_ble_eq_true rfl) (Nat.le_of_ble_eq_true rfl) (Nat.le_of_ble_eq_true rfl) dX6_init_52 (fun q_6 H hP hD hS => ?_)
  have hP : va_P D vwCl ([(h0, .inr (6, [.int 0, .int 0, .int (-1), .int 0, .int 0, .int 0, .ref q_1, .ref q_2, .ref q_3, .ref q_4, .ref q_5, .null, .null, .null, .null])), (q_1, .inl (k 0, 6, .inl (fun _ => 0))), (q_2, .inl (k 0, 9, .inl (fun _ => 0))), (q_3, .inl (k 0, 12, .inl (fun _ => 0))), (q_4, .inl (k 0, 12, .inl (fun _ => 0))), (q_5, .inl (k 0, 12, .inl (fun _ => 0))), (q_6, .inl (k 0, 12, .inl (fun _ => 0)))]) H := hP
  have hD : va_D A ([(h0, .inr (6, [.int 0, .int 0, .int (-1), .int 0, .int 0, .int 0, .ref q_1, .ref q_2, .ref q_3, .ref q_4, .ref q_5, .null, .null, .null, .null])), (q_1, .inl (k 0, 6, .inl (fun _ => 0))), (q_2, .inl (k 0, 9, .inl (fun _ => 0))), (q_3, .inl (k 0, 12, .inl (fun _ => 0))), (q_4, .inl (k 0, 12, .inl (fun _ => 0))), (q_5, .inl (k 0, 12, .inl (fun _ => 0))), (q_6, .inl (k 0, 12, .inl (fun _ => 0)))]) := hD
  refine W.widen (k := 6) (n := 63) (Nat.le_of_ble_eq_true rfl) (Nat.le_of_ble_eq_true rfl) ?_
  refine va_putF (D := D) (ci := 6) (v := .ref q_6) (ty := .array .int) (C := RX6) (T := TX6) (N := 15) hx hb hw inlX6 tyX6 tyX6_ok nmX6 hown hK hP hD hS 0 rfl rfl 11 (by decide) (hw _ wd_240) (fun _ h9 => h9) rfl hin rfl (by decide +kernel) rfl rfl (Nat.le_of_ble_eq_true rfl) dX6_init_54 (fun H locs hP hD hS => ?_)
  have hP : va_P D vwCl ([(h0, .inr (6, [.int 0, .int 0, .int (-1), .int 0, .int 0, .int 0, .ref q_1, .ref q_2, .ref q_3, .ref q_4, .ref q_5, .ref q_6, .null, .null, .null])), (q_1, .inl (k 0, 6, .inl (fun _ => 0))), (q_2, .inl (k 0, 9, .inl (fun _ => 0))), (q_3, .inl (k 0, 12, .inl (fun _ => 0))), (q_4, .inl (k 0, 12, .inl (fun _ => 0))), (q_5, .inl (k 0, 12, .inl (fun _ => 0))), (q_6, .inl (k 0, 12, .inl (fun _ => 0)))]) H := hP
  have hD : va_D A ([(h0, .inr (6, [.int 0, .int 0, .int (-1), .int 0, .int 0, .int 0, .ref q_1, .ref q_2, .ref q_3, .ref q_4, .ref q_5, .ref q_6, .null, .null, .null])), (q_1, .inl (k 0, 6, .inl (fun _ => 0))), (q_2, .inl (k 0, 9, .inl (fun _ => 0))), (q_3, .inl (k 0, 12, .inl (fun _ => 0))), (q_4, .inl (k 0, 12, .inl (fun _ => 0))), (q_5, .inl (k 0, 12, .inl (fun _ => 0))), (q_6, .inl (k 0, 12, .inl (fun _ => 0)))]) := hD
  refine lv_aload_n hx hb dX6_init_57 rfl (lv_at hl 0 rfl) ?_
  refine lv_bipush (v := 12) hx hb dX6_init_58 (by decide) ?_
  refine x_newI (N' := 12) hx hb (hw _ wd_58) hK hP hD hS hA (by decide) (by decide) (Nat.le_of_ble_eq_true rfl) (Nat.le_of_ble_eq_true rfl) (Nat.le_of_ble_eq_true rfl) dX6_init_60 (fun q_7 H hP hD hS => ?_)
  have hP : va_P D vwCl ([(h0, .inr (6, [.int 0, .int 0, .int (-1), .int 0, .int 0, .int 0, .ref q_1, .ref q_2, .ref q_3, .ref q_4, .ref q_5, .ref q_6, .null, .null, .null])), (q_1, .inl (k 0, 6, .inl (fun _ => 0))), (q_2, .inl (k 0, 9, .inl (fun _ => 0))), (q_3, .inl (k 0, 12, .inl (fun _ => 0))), (q_4, .inl (k 0, 12, .inl (fun _ => 0))), (q_5, .inl (k 0, 12, .inl (fun _ => 0))), (q_6, .inl (k 0, 12, .inl (fun _ => 0))), (q_7, .inl (k 0, 12, .inl (fun _ => 0)))]) H := hP
  have hD : va_D A ([(h0, .inr (6, [.int 0, .int 0, .int (-1), .int 0, .int 0, .int 0, .ref q_1, .ref q_2, .ref q_3, .ref q_4, .ref q_5, .ref q_6, .null, .null, .null])), (q_1, .inl (k 0, 6, .inl (fun _ => 0))), (q_2, .inl (k 0, 9, .inl (fun _ => 0))), (q_3, .inl (k 0, 12, .inl (fun _ => 0))), (q_4, .inl (k 0, 12, .inl (fun _ => 0))), (q_5, .inl (k 0, 12, .inl (fun _ => 0))), (q_6, .inl (k 0, 12, .inl (fun _ => 0))), (q_7, .inl (k 0, 12, .inl (fun _ => 0)))]) := hD
  refine W.widen (k := 7) (n := 75) (Nat.le_of_ble_eq_true rfl) (Nat.le_of_ble_eq_true rfl) ?_
  refine va_putF (D := D) (ci := 6) (v := .ref q_7) (ty := .array .int) (C := RX6) (T := TX6) (N := 15) hx hb hw inlX6 tyX6 tyX6_ok nmX6 hown hK hP hD hS 0 rfl rfl 12 (by decide) (hw _ wd_243) (fun _ h9 => h9) rfl hin rfl (by decide +kernel) rfl rfl (Nat.le_of_ble_eq_true rfl) dX6_init_62 (fun H locs hP hD hS => ?_)
  have hP : va_P D vwCl ([(h0, .inr (6, [.int 0, .int 0, .int (-1), .int 0, .int 0, .int 0, .ref q_1, .ref q_2, .ref q_3, .ref q_4, .ref q_5, .ref q_6, .ref q_7, .null, .null])), (q_1, .inl (k 0, 6, .inl (fun _ => 0))), (q_2, .inl (k 0, 9, .inl (fun _ => 0))), (q_3, .inl (k 0, 12, .inl (fun _ => 0))), (q_4, .inl (k 0, 12, .inl (fun _ => 0))), (q_5, .inl (k 0, 12, .inl (fun _ => 0))), (q_6, .inl (k 0, 12, .inl (fun _ => 0))), (q_7, .inl (k 0, 12, .inl (fun _ => 0)))]) H := hP
  have hD : va_D A ([(h0, .inr (6, [.int 0, .int 0, .int (-1), .int 0, .int 0, .int 0, .ref q_1, .ref q_2, .ref q_3, .ref q_4, .ref q_5, .ref q_6, .ref q_7, .null, .null])), (q_1, .inl (k 0, 6, .inl (fun _ => 0))), (q_2, .inl (k 0, 9, .inl (fun _ => 0))), (q_3, .inl (k 0, 12, .inl (fun _ => 0))), (q_4, .inl (k 0, 12, .inl (fun _ => 0))), (q_5, .inl (k 0, 12, .inl (fun _ => 0))), (q_6, .inl (k 0, 12, .inl (fun _ => 0))), (q_7, .inl (k 0, 12, .inl (fun _ => 0)))]) := hD
  refine lv_aload_n hx hb dX6_init_65 rfl (lv_at hl 0 rfl) ?_
  refine lv_bipush (v := 12) hx hb dX6_init_66 (by decide) ?_
  refine x_newI (N' := 12) hx hb (hw _ wd_58) hK hP hD hS hA (by decide) (by decide) (Nat.le_of_ble_eq_true rfl) (Nat.le_of_ble_eq_true rfl) (Nat.le_of_ble_eq_true rfl) dX6_init_68 (fun q_8 H hP hD hS => ?_)
  have hP : va_P D vwCl ([(h0, .inr (6, [.int 0, .int 0, .int (-1), .int 0, .int 0, .int 0, .ref q_1, .ref q_2, .ref q_3, .ref q_4, .ref q_5, .ref q_6, .ref q_7, .null, .null])), (q_1, .inl (k 0, 6, .inl (fun _ => 0))), (q_2, .inl (k 0, 9, .inl (fun _ => 0))), (q_3, .inl (k 0, 12, .inl (fun _ => 0))), (q_4, .inl (k 0, 12, .inl (fun _ => 0))), (q_5, .inl (k 0, 12, .inl (fun _ => 0))), (q_6, .inl (k 0, 12, .inl (fun _ => 0))), (q_7, .inl (k 0, 12, .inl (fun _ => 0))), (q_8, .inl (k 0, 12, .inl (fun _ => 0)))]) H := hP
  have hD : va_D A ([(h0, .inr (6, [.int 0, .int 0, .int (-1), .int 0, .int 0, .int 0, .ref q_1, .ref q_2, .ref q_3, .ref q_4, .ref q_5, .ref q_6, .ref q_7, .null, .null])), (q_1, .inl (k 0, 6, .inl (fun _ => 0))), (q_2, .inl (k 0, 9, .inl (fun _ => 0))), (q_3, .inl (k 0, 12, .inl (fun _ => 0))), (q_4, .inl (k 0, 12, .inl (fun _ => 0))), (q_5, .inl (k 0, 12, .inl (fun _ => 0))), (q_6, .inl (k 0, 12, .inl (fun _ => 0))), (q_7, .inl (k 0, 12, .inl (fun _ => 0))), (q_8, .inl (k 0, 12, .inl (fun _ => 0)))]) := hD
  refine W.widen (k := 8) (n := 87) (Nat.le_of_ble_eq_true rfl) (Nat.le_of_ble_eq_true rfl) ?_
  refine va_putF (D := D) (ci := 6) (v := .ref q_8) (ty := .array .int) (C := RX6) (T := TX6) (N := 15) hx hb hw inlX6 tyX6 tyX6_ok nmX6 hown hK hP hD hS 0 rfl rfl 13 (by decide) (hw _ wd_246) (fun _ h9 => h9) rfl hin rfl (by decide +kernel) rfl rfl (Nat.le_of_ble_eq_true rfl) dX6_init_70 (fun H locs hP hD hS => ?_)
  have hP : va_P D vwCl ([(h0, .inr (6, [.int 0, .int 0, .int (-1), .int 0, .int 0, .int 0, .ref q_1, .ref q_2, .ref q_3, .ref q_4, .ref q_5, .ref q_6, .ref q_7, .ref q_8, .null])), (q_1, .inl (k 0, 6, .inl (fun _ => 0))), (q_2, .inl (k 0, 9, .inl (fun _ => 0))), (q_3, .inl (k 0, 12, .inl (fun _ => 0))), (q_4, .inl (k 0, 12, .inl (fun _ => 0))), (q_5, .inl (k 0, 12, .inl (fun _ => 0))), (q_6, .inl (k 0, 12, .inl (fun _ => 0))), (q_7, .inl (k 0, 12, .inl (fun _ => 0))), (q_8, .inl (k 0, 12, .inl (fun _ => 0)))]) H := hP
  have hD : va_D A ([(h0, .inr (6, [.int 0, .int 0, .int (-1), .int 0, .int 0, .int 0, .ref q_1, .ref q_2, .ref q_3, .ref q_4, .ref q_5, .ref q_6, .ref q_7, .ref q_8, .null])), (q_1, .inl (k 0, 6, .inl (fun _ => 0))), (q_2, .inl (k 0, 9, .inl (fun _ => 0))), (q_3, .inl (k 0, 12, .inl (fun _ => 0))), (q_4, .inl (k 0, 12, .inl (fun _ => 0))), (q_5, .inl (k 0, 12, .inl (fun _ => 0))), (q_6, .inl (k 0, 12, .inl (fun _ => 0))), (q_7, .inl (k 0, 12, .inl (fun _ => 0))), (q_8, .inl (k 0, 12, .inl (fun _ => 0)))]) := hD
  refine lv_aload_n hx hb dX6_init_73 rfl (lv_at hl 0 rfl) ?_
  refine lv_bipush (v := 72) hx hb dX6_init_74 (by decide) ?_
  refine x_newI (N' := 72) hx hb (hw _ wd_58) hK hP hD hS hA (by decide) (by decide) (Nat.le_of_ble_eq_true rfl) (Nat.le_of_ble_eq_true rfl) (Nat.le_of_ble_eq_true rfl) dX6_init_76 (fun q_9 H hP hD hS => ?_)
  have hP : va_P D vwCl ([(h0, .inr (6, [.int 0, .int 0, .int (-1), .int 0, .int 0, .int 0, .ref q_1, .ref q_2, .ref q_3, .ref q_4, .ref q_5, .ref q_6, .ref q_7, .ref q_8, .null])), (q_1, .inl (k 0, 6, .inl (fun _ => 0))), (q_2, .inl (k 0, 9, .inl (fun _ => 0))), (q_3, .inl (k 0, 12, .inl (fun _ => 0))), (q_4, .inl (k 0, 12, .inl (fun _ => 0))), (q_5, .inl (k 0, 12, .inl (fun _ => 0))), (q_6, .inl (k 0, 12, .inl (fun _ => 0))), (q_7, .inl (k 0, 12, .inl (fun _ => 0))), (q_8, .inl (k 0, 12, .inl (fun _ => 0))), (q_9, .inl (k 0, 72, .inl (fun _ => 0)))]) H := hP
  have hD : va_D A ([(h0, .inr (6, [.int 0, .int 0, .int (-1), .int 0, .int 0, .int 0, .ref q_1, .ref q_2, .ref q_3, .ref q_4, .ref q_5, .ref q_6, .ref q_7, .ref q_8, .null])), (q_1, .inl (k 0, 6, .inl (fun _ => 0))), (q_2, .inl (k 0, 9, .inl (fun _ => 0))), (q_3, .inl (k 0, 12, .inl (fun _ => 0))), (q_4, .inl (k 0, 12, .inl (fun _ => 0))), (q_5, .inl (k 0, 12, .inl (fun _ => 0))), (q_6, .inl (k 0, 12, .inl (fun _ => 0))), (q_7, .inl (k 0, 12, .inl (fun _ => 0))), (q_8, .inl (k 0, 12, .inl (fun _ => 0))), (q_9, .inl (k 0, 72, .inl (fun _ => 0)))]) := hD
  refine W.widen (k := 9) (n := 159) (Nat.le_of_ble_eq_true rfl) (Nat.le_of_ble_eq_true rfl) ?_
  refine va_putF (D := D) (ci := 6) (v := .ref q_9) (ty := .array .int) (C := RX6) (T := TX6) (N := 15) hx hb hw inlX6 tyX6 tyX6_ok nmX6 hown hK hP hD hS 0 rfl rfl 14 (by decide) (hw _ wd_249) (fun _ h9 => h9) rfl hin rfl (by decide +kernel) rfl rfl (Nat.le_of_ble_eq_true rfl) dX6_init_78 (fun H locs hP hD hS => ?_)
  have hP : va_P D vwCl ([(h0, .inr (6, [.int 0, .int 0, .int (-1), .int 0, .int 0, .int 0, .ref q_1, .ref q_2, .ref q_3, .ref q_4, .ref q_5, .ref q_6, .ref q_7, .ref q_8, .ref q_9])), (q_1, .inl (k 0, 6, .inl (fun _ => 0))), (q_2, .inl (k 0, 9, .inl (fun _ => 0))), (q_3, .inl (k 0, 12, .inl (fun _ => 0))), (q_4, .inl (k 0, 12, .inl (fun _ => 0))), (q_5, .inl (k 0, 12, .inl (fun _ => 0))), (q_6, .inl (k 0, 12, .inl (fun _ => 0))), (q_7, .inl (k 0, 12, .inl (fun _ => 0))), (q_8, .inl (k 0, 12, .inl (fun _ => 0))), (q_9, .inl (k 0, 72, .inl (fun _ => 0)))]) H := hP
  have hD : va_D A ([(h0, .inr (6, [.int 0, .int 0, .int (-1), .int 0, .int 0, .int 0, .ref q_1, .ref q_2, .ref q_3, .ref q_4, .ref q_5, .ref q_6, .ref q_7, .ref q_8, .ref q_9])), (q_1, .inl (k 0, 6, .inl (fun _ => 0))), (q_2, .inl (k 0, 9, .inl (fun _ => 0))), (q_3, .inl (k 0, 12, .inl (fun _ => 0))), (q_4, .inl (k 0, 12, .inl (fun _ => 0))), (q_5, .inl (k 0, 12, .inl (fun _ => 0))), (q_6, .inl (k 0, 12, .inl (fun _ => 0))), (q_7, .inl (k 0, 12, .inl (fun _ => 0))), (q_8, .inl (k 0, 12, .inl (fun _ => 0))), (q_9, .inl (k 0, 72, .inl (fun _ => 0)))]) := hD
  refine W.widen (k := 9) (n := 159) (Nat.le_of_ble_eq_true rfl) (Nat.le_of_ble_eq_true rfl) ?_
  have hP9 : va_P D vwCl ((fun u => G6 k h0 u) (xu [q_1, q_2, q_3, q_4, q_5, q_6, q_7, q_8, q_9])) H := hP.sub [0, 1, 2, 3, 4, 5, 6, 7, 8, 9] rfl
  have hD9 : va_D A ((fun u => G6 k h0 u) (xu [q_1, q_2, q_3, q_4, q_5, q_6, q_7, q_8, q_9])) := hD.sub [0, 1, 2, 3, 4, 5, 6, 7, 8, 9] (by decide) rfl
  exact W.vret hx hb hr (fun t ht hW => ⟨⟨(xu [q_1, q_2, q_3, q_4, q_5, q_6, q_7, q_8, q_9]), rfl, trivial, by rw [ht]; exact hP9, hD9⟩, hS.F ht⟩) hS.2.2 dX6_init_81

set_option maxHeartbeats 4000000 in
set_option maxRecDepth 100000 in
theorem kX0_init (l : Launch) (D : va_G) (k : Nat → ClassId) (sd : Nat → Nat) (h0 : Nat) (sz : Nat) : Met l yX0_init (wB yX0_init cX0_init 1 none) ({ frames := 1, cells := 12, slots := 550, locals := 12 }) (va_Pc [.ref h0] (PRE D k sd ([(h0, .inr (0, [.int 0, .int 0, .null, .null, .int 0, .null, .int 0, .null, .null, .null, .null, .int 0, .null, .null, .null, .null, .null]))]) sz)) (va_Qv (S := Nat → Nat) (fun _ => True) (fun u t => PO D (va_A ([(h0, .inr (0, [.int 0, .int 0, .null, .null, .int 0, .null, .int 0, .null, .null, .null, .null, .int 0, .null, .null, .null, .null, .null]))]) sz) ((fun u => G0 k h0 u) u) t) (va_A ([(h0, .inr (0, [.int 0, .int 0, .null, .null, .int 0, .null, .int 0, .null, .null, .null, .null, .int 0, .null, .null, .null, .null, .null]))]) sz)) 12 550 (va_A ([(h0, .inr (0, [.int 0, .int 0, .null, .null, .int 0, .null, .int 0, .null, .null, .null, .null, .int 0, .null, .null, .null, .null, .null]))]) sz) := by
  refine Met.ofW (cc := cX0_init) (maxL := 1) (ret := none) (by decide) rfl ?_
  intro p e s m args below meth c s₁ B hml hv
  obtain ⟨rfl, hsz, hP, hK, hD0, hE, hX⟩ := hv
  have hx := B.exec
  have hb := B.bytes
  have hr := B.returns
  have hw : ∀ w ∈ wsB, w.before _ s = true := fun w h => atoms_spec (ws := wB yX0_init cX0_init 1 none) B.pre w (List.mem_cons_of_mem _ h)
  have hown : s.vm.findClass RX0 = some m.cls := findClass_of_methodNamed B.named
  have hlocks := B.notSynchronized
  have hin : meth.name = "<init>" := (name_of_methodNamed B.named B.method).1
  subst hsz
  have hD := hD0.self (sz := s.heap.size)
  generalize hAe : va_A ([(h0, .inr (0, [.int 0, .int 0, .null, .null, .int 0, .null, .int 0, .null, .null, .null, .null, .int 0, .null, .null, .null, .null, .null]))]) s.heap.size = A at hD hX ⊢
  have hA : ∀ q : Nat, s.heap.size ≤ q → A q := fun q h => by rw [← hAe]; exact Or.inr h
  have hS : va_S A s.heap s.heap [] := va_S.rf
  have hl := lv_entry ([.ref h0]) (n := 1) (Nat.le_of_ble_eq_true rfl)
  rw [lg_entry_eq]
  generalize (lg_sl ([.ref h0]) ++ List.replicate (1 - (lg_sl ([.ref h0])).length) Slot.unset).toArray = ls at hl ⊢
  have hl : lv_has ls 1 [(0, .ref h0)] := hl
  refine lv_aload_n hx hb dX0_init_0 rfl (lv_at hl 0 rfl) ?_
  refine W.objInit hx hb hown (hw _ wd_288) (hw _ wd_26) (hw _ wd_27) rfl (by rw [hml]; exact hl.1) rfl dX0_init_1 (Nat.le_of_ble_eq_true rfl) (Nat.le_of_ble_eq_true rfl) ?_
  refine W.eq (g2 := F0 m 4 ls []) rfl ?_
  refine lv_aload_n hx hb dX0_init_4 rfl (lv_at hl 0 rfl) ?_
  refine lv_bipush (v := 6) hx hb dX0_init_5 (by decide) ?_
  refine x_newI (N' := 6) hx hb (hw _ wd_58) hK hP hD hS hA (by decide) (by decide) (Nat.le_of_ble_eq_true rfl) (Nat.le_of_ble_eq_true rfl) (Nat.le_of_ble_eq_true rfl) dX0_init_7 (fun q_1 H hP hD hS => ?_)
  have hP : va_P D vwCl ([(h0, .inr (0, [.int 0, .int 0, .null, .null, .int 0, .null, .int 0, .null, .null, .null, .null, .int 0, .null, .null, .null, .null, .null])), (q_1, .inl (k 0, 6, .inl (fun _ => 0)))]) H := hP
  have hD : va_D A ([(h0, .inr (0, [.int 0, .int 0, .null, .null, .int 0, .null, .int 0, .null, .null, .null, .null, .int 0, .null, .null, .null, .null, .null])), (q_1, .inl (k 0, 6, .inl (fun _ => 0)))]) := hD
  refine W.widen (k := 1) (n := 6) (Nat.le_of_ble_eq_true rfl) (Nat.le_of_ble_eq_true rfl) ?_
  refine va_putF (D := D) (ci := 0) (v := .ref q_1) (ty := .array .int) (C := RX0) (T := TX0) (N := 17) hx hb hw inlX0 tyX0 tyX0_ok nmX0 hown hK hP hD hS 0 rfl rfl 2 (by decide) (hw _ wd_294) (fun _ h9 => h9) rfl hin rfl (by decide +kernel) rfl rfl (Nat.le_of_ble_eq_true rfl) dX0_init_9 (fun H locs hP hD hS => ?_)
  have hP : va_P D vwCl ([(h0, .inr (0, [.int 0, .int 0, .ref q_1, .null, .int 0, .null, .int 0, .null, .null, .null, .null, .int 0, .null, .null, .null, .null, .null])), (q_1, .inl (k 0, 6, .inl (fun _ => 0)))]) H := hP
  have hD : va_D A ([(h0, .inr (0, [.int 0, .int 0, .ref q_1, .null, .int 0, .null, .int 0, .null, .null, .null, .null, .int 0, .null, .null, .null, .null, .null])), (q_1, .inl (k 0, 6, .inl (fun _ => 0)))]) := hD
  refine lv_aload_n hx hb dX0_init_12 rfl (lv_at hl 0 rfl) ?_
  refine lv_bipush (v := 36) hx hb dX0_init_13 (by decide) ?_
  refine x_newI (N' := 36) hx hb (hw _ wd_58) hK hP hD hS hA (by decide) (by decide) (Nat.le_of_ble_eq_true rfl) (Nat.le_of_ble_eq_true rfl) (Nat.le_of_ble_eq_true rfl) dX0_init_15 (fun q_2 H hP hD hS => ?_)
  have hP : va_P D vwCl ([(h0, .inr (0, [.int 0, .int 0, .ref q_1, .null, .int 0, .null, .int 0, .null, .null, .null, .null, .int 0, .null, .null, .null, .null, .null])), (q_1, .inl (k 0, 6, .inl (fun _ => 0))), (q_2, .inl (k 0, 36, .inl (fun _ => 0)))]) H := hP
  have hD : va_D A ([(h0, .inr (0, [.int 0, .int 0, .ref q_1, .null, .int 0, .null, .int 0, .null, .null, .null, .null, .int 0, .null, .null, .null, .null, .null])), (q_1, .inl (k 0, 6, .inl (fun _ => 0))), (q_2, .inl (k 0, 36, .inl (fun _ => 0)))]) := hD
  refine W.widen (k := 2) (n := 42) (Nat.le_of_ble_eq_true rfl) (Nat.le_of_ble_eq_true rfl) ?_
  refine va_putF (D := D) (ci := 0) (v := .ref q_2) (ty := .array .int) (C := RX0) (T := TX0) (N := 17) hx hb hw inlX0 tyX0 tyX0_ok nmX0 hown hK hP hD hS 0 rfl rfl 3 (by decide) (hw _ wd_297) (fun _ h9 => h9) rfl hin rfl (by decide +kernel) rfl rfl (Nat.le_of_ble_eq_true rfl) dX0_init_17 (fun H locs hP hD hS => ?_)
  have hP : va_P D vwCl ([(h0, .inr (0, [.int 0, .int 0, .ref q_1, .ref q_2, .int 0, .null, .int 0, .null, .null, .null, .null, .int 0, .null, .null, .null, .null, .null])), (q_1, .inl (k 0, 6, .inl (fun _ => 0))), (q_2, .inl (k 0, 36, .inl (fun _ => 0)))]) H := hP
  have hD : va_D A ([(h0, .inr (0, [.int 0, .int 0, .ref q_1, .ref q_2, .int 0, .null, .int 0, .null, .null, .null, .null, .int 0, .null, .null, .null, .null, .null])), (q_1, .inl (k 0, 6, .inl (fun _ => 0))), (q_2, .inl (k 0, 36, .inl (fun _ => 0)))]) := hD
  refine lv_aload_n hx hb dX0_init_20 rfl (lv_at hl 0 rfl) ?_
  refine lv_bipush (v := 20) hx hb dX0_init_21 (by decide) ?_
  refine x_newI (N' := 20) hx hb (hw _ wd_58) hK hP hD hS hA (by decide) (by decide) (Nat.le_of_ble_eq_true rfl) (Nat.le_of_ble_eq_true rfl) (Nat.le_of_ble_eq_true rfl) dX0_init_23 (fun q_3 H hP hD hS => ?_)
  have hP : va_P D vwCl ([(h0, .inr (0, [.int 0, .int 0, .ref q_1, .ref q_2, .int 0, .null, .int 0, .null, .null, .null, .null, .int 0, .null, .null, .null, .null, .null])), (q_1, .inl (k 0, 6, .inl (fun _ => 0))), (q_2, .inl (k 0, 36, .inl (fun _ => 0))), (q_3, .inl (k 0, 20, .inl (fun _ => 0)))]) H := hP
  have hD : va_D A ([(h0, .inr (0, [.int 0, .int 0, .ref q_1, .ref q_2, .int 0, .null, .int 0, .null, .null, .null, .null, .int 0, .null, .null, .null, .null, .null])), (q_1, .inl (k 0, 6, .inl (fun _ => 0))), (q_2, .inl (k 0, 36, .inl (fun _ => 0))), (q_3, .inl (k 0, 20, .inl (fun _ => 0)))]) := hD
  refine W.widen (k := 3) (n := 62) (Nat.le_of_ble_eq_true rfl) (Nat.le_of_ble_eq_true rfl) ?_
  refine va_putF (D := D) (ci := 0) (v := .ref q_3) (ty := .array .int) (C := RX0) (T := TX0) (N := 17) hx hb hw inlX0 tyX0 tyX0_ok nmX0 hown hK hP hD hS 0 rfl rfl 5 (by decide) (hw _ wd_301) (fun _ h9 => h9) rfl hin rfl (by decide +kernel) rfl rfl (Nat.le_of_ble_eq_true rfl) dX0_init_25 (fun H locs hP hD hS => ?_)
  have hP : va_P D vwCl ([(h0, .inr (0, [.int 0, .int 0, .ref q_1, .ref q_2, .int 0, .ref q_3, .int 0, .null, .null, .null, .null, .int 0, .null, .null, .null, .null, .null])), (q_1, .inl (k 0, 6, .inl (fun _ => 0))), (q_2, .inl (k 0, 36, .inl (fun _ => 0))), (q_3, .inl (k 0, 20, .inl (fun _ => 0)))]) H := hP
  have hD : va_D A ([(h0, .inr (0, [.int 0, .int 0, .ref q_1, .ref q_2, .int 0, .ref q_3, .int 0, .null, .null, .null, .null, .int 0, .null, .null, .null, .null, .null])), (q_1, .inl (k 0, 6, .inl (fun _ => 0))), (q_2, .inl (k 0, 36, .inl (fun _ => 0))), (q_3, .inl (k 0, 20, .inl (fun _ => 0)))]) := hD
  refine lv_aload_n hx hb dX0_init_28 rfl (lv_at hl 0 rfl) ?_
  refine lv_bipush (v := 20) hx hb dX0_init_29 (by decide) ?_
  refine x_newI (N' := 20) hx hb (hw _ wd_58) hK hP hD hS hA (by decide) (by decide) (Nat.le_of_ble_eq_true rfl) (Nat.le_of_ble_eq_true rfl) (Nat.le_of_ble_eq_true rfl) dX0_init_31 (fun q_4 H hP hD hS => ?_)
  have hP : va_P D vwCl ([(h0, .inr (0, [.int 0, .int 0, .ref q_1, .ref q_2, .int 0, .ref q_3, .int 0, .null, .null, .null, .null, .int 0, .null, .null, .null, .null, .null])), (q_1, .inl (k 0, 6, .inl (fun _ => 0))), (q_2, .inl (k 0, 36, .inl (fun _ => 0))), (q_3, .inl (k 0, 20, .inl (fun _ => 0))), (q_4, .inl (k 0, 20, .inl (fun _ => 0)))]) H := hP
  have hD : va_D A ([(h0, .inr (0, [.int 0, .int 0, .ref q_1, .ref q_2, .int 0, .ref q_3, .int 0, .null, .null, .null, .null, .int 0, .null, .null, .null, .null, .null])), (q_1, .inl (k 0, 6, .inl (fun _ => 0))), (q_2, .inl (k 0, 36, .inl (fun _ => 0))), (q_3, .inl (k 0, 20, .inl (fun _ => 0))), (q_4, .inl (k 0, 20, .inl (fun _ => 0)))]) := hD
  refine W.widen (k := 4) (n := 82) (Nat.le_of_ble_eq_true rfl) (Nat.le_of_ble_eq_true rfl) ?_
  refine va_putF (D := D) (ci := 0) (v := .ref q_4) (ty := .array .int) (C := RX0) (T := TX0) (N := 17) hx hb hw inlX0 tyX0 tyX0_ok nmX0 hown hK hP hD hS 0 rfl rfl 7 (by decide) (hw _ wd_305) (fun _ h9 => h9) rfl hin rfl (by decide +kernel) rfl rfl (Nat.le_of_ble_eq_true rfl) dX0_init_33 (fun H locs hP hD hS => ?_)
  have hP : va_P D vwCl ([(h0, .inr (0, [.int 0, .int 0, .ref q_1, .ref q_2, .int 0, .ref q_3, .int 0, .ref q_4, .null, .null, .null, .int 0, .null, .null, .null, .null, .null])), (q_1, .inl (k 0, 6, .inl (fun _ => 0))), (q_2, .inl (k 0, 36, .inl (fun _ => 0))), (q_3, .inl (k 0, 20, .inl (fun _ => 0))), (q_4, .inl (k 0, 20, .inl (fun _ => 0)))]) H := hP
  have hD : va_D A ([(h0, .inr (0, [.int 0, .int 0, .ref q_1, .ref q_2, .int 0, .ref q_3, .int 0, .ref q_4, .null, .null, .null, .int 0, .null, .null, .null, .null, .null])), (q_1, .inl (k 0, 6, .inl (fun _ => 0))), (q_2, .inl (k 0, 36, .inl (fun _ => 0))), (q_3, .inl (k 0, 20, .inl (fun _ => 0))), (q_4, .inl (k 0, 20, .inl (fun _ => 0)))]) := hD
  refine lv_aload_n hx hb dX0_init_36 rfl (lv_at hl 0 rfl) ?_
  refine lv_bipush (v := 20) hx hb dX0_init_37 (by decide) ?_
  refine x_newI (N' := 20) hx hb (hw _ wd_58) hK hP hD hS hA (by decide) (by decide) (Nat.le_of_ble_eq_true rfl) (Nat.le_of_ble_eq_true rfl) (Nat.le_of_ble_eq_true rfl) dX0_init_39 (fun q_5 H hP hD hS => ?_)
  have hP : va_P D vwCl ([(h0, .inr (0, [.int 0, .int 0, .ref q_1, .ref q_2, .int 0, .ref q_3, .int 0, .ref q_4, .null, .null, .null, .int 0, .null, .null, .null, .null, .null])), (q_1, .inl (k 0, 6, .inl (fun _ => 0))), (q_2, .inl (k 0, 36, .inl (fun _ => 0))), (q_3, .inl (k 0, 20, .inl (fun _ => 0))), (q_4, .inl (k 0, 20, .inl (fun _ => 0))), (q_5, .inl (k 0, 20, .inl (fun _ => 0)))]) H := hP
  have hD : va_D A ([(h0, .inr (0, [.int 0, .int 0, .ref q_1, .ref q_2, .int 0, .ref q_3, .int 0, .ref q_4, .null, .null, .null, .int 0, .null, .null, .null, .null, .null])), (q_1, .inl (k 0, 6, .inl (fun _ => 0))), (q_2, .inl (k 0, 36, .inl (fun _ => 0))), (q_3, .inl (k 0, 20, .inl (fun _ => 0))), (q_4, .inl (k 0, 20, .inl (fun _ => 0))), (q_5, .inl (k 0, 20, .inl (fun _ => 0)))]) := hD
  refine W.widen (k := 5) (n := 102) (Nat.le_of_ble_eq_true rfl) (Nat.le_of_ble_eq_true rfl) ?_
  refine va_putF (D := D) (ci := 0) (v := .ref q_5) (ty := .array .int) (C := RX0) (T := TX0) (N := 17) hx hb hw inlX0 tyX0 tyX0_ok nmX0 hown hK hP hD hS 0 rfl rfl 8 (by decide) (hw _ wd_306) (fun _ h9 => h9) rfl hin rfl (by decide +kernel) rfl rfl (Nat.le_of_ble_eq_true rfl) dX0_init_41 (fun H locs hP hD hS => ?_)
  have hP : va_P D vwCl ([(h0, .inr (0, [.int 0, .int 0, .ref q_1, .ref q_2, .int 0, .ref q_3, .int 0, .ref q_4, .ref q_5, .null, .null, .int 0, .null, .null, .null, .null, .null])), (q_1, .inl (k 0, 6, .inl (fun _ => 0))), (q_2, .inl (k 0, 36, .inl (fun _ => 0))), (q_3, .inl (k 0, 20, .inl (fun _ => 0))), (q_4, .inl (k 0, 20, .inl (fun _ => 0))), (q_5, .inl (k 0, 20, .inl (fun _ => 0)))]) H := hP
  have hD : va_D A ([(h0, .inr (0, [.int 0, .int 0, .ref q_1, .ref q_2, .int 0, .ref q_3, .int 0, .ref q_4, .ref q_5, .null, .null, .int 0, .null, .null, .null, .null, .null])), (q_1, .inl (k 0, 6, .inl (fun _ => 0))), (q_2, .inl (k 0, 36, .inl (fun _ => 0))), (q_3, .inl (k 0, 20, .inl (fun _ => 0))), (q_4, .inl (k 0, 20, .inl (fun _ => 0))), (q_5, .inl (k 0, 20, .inl (fun _ => 0)))]) := hD
  refine lv_aload_n hx hb dX0_init_44 rfl (lv_at hl 0 rfl) ?_
  refine lv_bipush (v := 20) hx hb dX0_init_45 (by decide) ?_
  refine x_newI (N' := 20) hx hb (hw _ wd_58) hK hP hD hS hA (by decide) (by decide) (Nat.le_of_ble_eq_true rfl) (Nat.le_of_ble_eq_true rfl) (Nat.le_of_ble_eq_true rfl) dX0_init_47 (fun q_6 H hP hD hS => ?_)
  have hP : va_P D vwCl ([(h0, .inr (0, [.int 0, .int 0, .ref q_1, .ref q_2, .int 0, .ref q_3, .int 0, .ref q_4, .ref q_5, .null, .null, .int 0, .null, .null, .null, .null, .null])), (q_1, .inl (k 0, 6, .inl (fun _ => 0))), (q_2, .inl (k 0, 36, .inl (fun _ => 0))), (q_3, .inl (k 0, 20, .inl (fun _ => 0))), (q_4, .inl (k 0, 20, .inl (fun _ => 0))), (q_5, .inl (k 0, 20, .inl (fun _ => 0))), (q_6, .inl (k 0, 20, .inl (fun _ => 0)))]) H := hP
  have hD : va_D A ([(h0, .inr (0, [.int 0, .int 0, .ref q_1, .ref q_2, .int 0, .ref q_3, .int 0, .ref q_4, .ref q_5, .null, .null, .int 0, .null, .null, .null, .null, .null])), (q_1, .inl (k 0, 6, .inl (fun _ => 0))), (q_2, .inl (k 0, 36, .inl (fun _ => 0))), (q_3, .inl (k 0, 20, .inl (fun _ => 0))), (q_4, .inl (k 0, 20, .inl (fun _ => 0))), (q_5, .inl (k 0, 20, .inl (fun _ => 0))), (q_6, .inl (k 0, 20, .inl (fun _ => 0)))]) := hD
  refine W.widen (k := 6) (n := 122) (Nat.le_of_ble_eq_true rfl) (Nat.le_of_ble_eq_true rfl) ?_
  refine va_putF (D := D) (ci := 0) (v := .ref q_6) (ty := .array .int) (C := RX0) (T := TX0) (N := 17) hx hb hw inlX0 tyX0 tyX0_ok nmX0 hown hK hP hD hS 0 rfl rfl 9 (by decide) (hw _ wd_307) (fun _ h9 => h9) rfl hin rfl (by decide +kernel) rfl rfl (Nat.le_of_ble_eq_true rfl) dX0_init_49 (fun H locs hP hD hS => ?_)
  have hP : va_P D vwCl ([(h0, .inr (0, [.int 0, .int 0, .ref q_1, .ref q_2, .int 0, .ref q_3, .int 0, .ref q_4, .ref q_5, .ref q_6, .null, .int 0, .null, .null, .null, .null, .null])), (q_1, .inl (k 0, 6, .inl (fun _ => 0))), (q_2, .inl (k 0, 36, .inl (fun _ => 0))), (q_3, .inl (k 0, 20, .inl (fun _ => 0))), (q_4, .inl (k 0, 20, .inl (fun _ => 0))), (q_5, .inl (k 0, 20, .inl (fun _ => 0))), (q_6, .inl (k 0, 20, .inl (fun _ => 0)))]) H := hP
  have hD : va_D A ([(h0, .inr (0, [.int 0, .int 0, .ref q_1, .ref q_2, .int 0, .ref q_3, .int 0, .ref q_4, .ref q_5, .ref q_6, .null, .int 0, .null, .null, .null, .null, .null])), (q_1, .inl (k 0, 6, .inl (fun _ => 0))), (q_2, .inl (k 0, 36, .inl (fun _ => 0))), (q_3, .inl (k 0, 20, .inl (fun _ => 0))), (q_4, .inl (k 0, 20, .inl (fun _ => 0))), (q_5, .inl (k 0, 20, .inl (fun _ => 0))), (q_6, .inl (k 0, 20, .inl (fun _ => 0)))]) := hD
  refine lv_aload_n hx hb dX0_init_52 rfl (lv_at hl 0 rfl) ?_
  refine lv_bipush (v := 20) hx hb dX0_init_53 (by decide) ?_
  refine x_newI (N' := 20) hx hb (hw _ wd_58) hK hP hD hS hA (by decide) (by decide) (Nat.le_of_ble_eq_true rfl) (Nat.le_of_ble_eq_true rfl) (Nat.le_of_ble_eq_true rfl) dX0_init_55 (fun q_7 H hP hD hS => ?_)
  have hP : va_P D vwCl ([(h0, .inr (0, [.int 0, .int 0, .ref q_1, .ref q_2, .int 0, .ref q_3, .int 0, .ref q_4, .ref q_5, .ref q_6, .null, .int 0, .null, .null, .null, .null, .null])), (q_1, .inl (k 0, 6, .inl (fun _ => 0))), (q_2, .inl (k 0, 36, .inl (fun _ => 0))), (q_3, .inl (k 0, 20, .inl (fun _ => 0))), (q_4, .inl (k 0, 20, .inl (fun _ => 0))), (q_5, .inl (k 0, 20, .inl (fun _ => 0))), (q_6, .inl (k 0, 20, .inl (fun _ => 0))), (q_7, .inl (k 0, 20, .inl (fun _ => 0)))]) H := hP
  have hD : va_D A ([(h0, .inr (0, [.int 0, .int 0, .ref q_1, .ref q_2, .int 0, .ref q_3, .int 0, .ref q_4, .ref q_5, .ref q_6, .null, .int 0, .null, .null, .null, .null, .null])), (q_1, .inl (k 0, 6, .inl (fun _ => 0))), (q_2, .inl (k 0, 36, .inl (fun _ => 0))), (q_3, .inl (k 0, 20, .inl (fun _ => 0))), (q_4, .inl (k 0, 20, .inl (fun _ => 0))), (q_5, .inl (k 0, 20, .inl (fun _ => 0))), (q_6, .inl (k 0, 20, .inl (fun _ => 0))), (q_7, .inl (k 0, 20, .inl (fun _ => 0)))]) := hD
  refine W.widen (k := 7) (n := 142) (Nat.le_of_ble_eq_true rfl) (Nat.le_of_ble_eq_true rfl) ?_
  refine va_putF (D := D) (ci := 0) (v := .ref q_7) (ty := .array .int) (C := RX0) (T := TX0) (N := 17) hx hb hw inlX0 tyX0 tyX0_ok nmX0 hown hK hP hD hS 0 rfl rfl 10 (by decide) (hw _ wd_308) (fun _ h9 => h9) rfl hin rfl (by decide +kernel) rfl rfl (Nat.le_of_ble_eq_true rfl) dX0_init_57 (fun H locs hP hD hS => ?_)
  have hP : va_P D vwCl ([(h0, .inr (0, [.int 0, .int 0, .ref q_1, .ref q_2, .int 0, .ref q_3, .int 0, .ref q_4, .ref q_5, .ref q_6, .ref q_7, .int 0, .null, .null, .null, .null, .null])), (q_1, .inl (k 0, 6, .inl (fun _ => 0))), (q_2, .inl (k 0, 36, .inl (fun _ => 0))), (q_3, .inl (k 0, 20, .inl (fun _ => 0))), (q_4, .inl (k 0, 20, .inl (fun _ => 0))), (q_5, .inl (k 0, 20, .inl (fun _ => 0))), (q_6, .inl (k 0, 20, .inl (fun _ => 0))), (q_7, .inl (k 0, 20, .inl (fun _ => 0)))]) H := hP
  have hD : va_D A ([(h0, .inr (0, [.int 0, .int 0, .ref q_1, .ref q_2, .int 0, .ref q_3, .int 0, .ref q_4, .ref q_5, .ref q_6, .ref q_7, .int 0, .null, .null, .null, .null, .null])), (q_1, .inl (k 0, 6, .inl (fun _ => 0))), (q_2, .inl (k 0, 36, .inl (fun _ => 0))), (q_3, .inl (k 0, 20, .inl (fun _ => 0))), (q_4, .inl (k 0, 20, .inl (fun _ => 0))), (q_5, .inl (k 0, 20, .inl (fun _ => 0))), (q_6, .inl (k 0, 20, .inl (fun _ => 0))), (q_7, .inl (k 0, 20, .inl (fun _ => 0)))]) := hD
  refine lv_aload_n hx hb dX0_init_60 rfl (lv_at hl 0 rfl) ?_
  refine lv_bipush (v := 12) hx hb dX0_init_61 (by decide) ?_
  refine x_newI (N' := 12) hx hb (hw _ wd_58) hK hP hD hS hA (by decide) (by decide) (Nat.le_of_ble_eq_true rfl) (Nat.le_of_ble_eq_true rfl) (Nat.le_of_ble_eq_true rfl) dX0_init_63 (fun q_8 H hP hD hS => ?_)
  have hP : va_P D vwCl ([(h0, .inr (0, [.int 0, .int 0, .ref q_1, .ref q_2, .int 0, .ref q_3, .int 0, .ref q_4, .ref q_5, .ref q_6, .ref q_7, .int 0, .null, .null, .null, .null, .null])), (q_1, .inl (k 0, 6, .inl (fun _ => 0))), (q_2, .inl (k 0, 36, .inl (fun _ => 0))), (q_3, .inl (k 0, 20, .inl (fun _ => 0))), (q_4, .inl (k 0, 20, .inl (fun _ => 0))), (q_5, .inl (k 0, 20, .inl (fun _ => 0))), (q_6, .inl (k 0, 20, .inl (fun _ => 0))), (q_7, .inl (k 0, 20, .inl (fun _ => 0))), (q_8, .inl (k 0, 12, .inl (fun _ => 0)))]) H := hP
  have hD : va_D A ([(h0, .inr (0, [.int 0, .int 0, .ref q_1, .ref q_2, .int 0, .ref q_3, .int 0, .ref q_4, .ref q_5, .ref q_6, .ref q_7, .int 0, .null, .null, .null, .null, .null])), (q_1, .inl (k 0, 6, .inl (fun _ => 0))), (q_2, .inl (k 0, 36, .inl (fun _ => 0))), (q_3, .inl (k 0, 20, .inl (fun _ => 0))), (q_4, .inl (k 0, 20, .inl (fun _ => 0))), (q_5, .inl (k 0, 20, .inl (fun _ => 0))), (q_6, .inl (k 0, 20, .inl (fun _ => 0))), (q_7, .inl (k 0, 20, .inl (fun _ => 0))), (q_8, .inl (k 0, 12, .inl (fun _ => 0)))]) := hD
  refine W.widen (k := 8) (n := 154) (Nat.le_of_ble_eq_true rfl) (Nat.le_of_ble_eq_true rfl) ?_
  refine va_putF (D := D) (ci := 0) (v := .ref q_8) (ty := .array .int) (C := RX0) (T := TX0) (N := 17) hx hb hw inlX0 tyX0 tyX0_ok nmX0 hown hK hP hD hS 0 rfl rfl 12 (by decide) (hw _ wd_312) (fun _ h9 => h9) rfl hin rfl (by decide +kernel) rfl rfl (Nat.le_of_ble_eq_true rfl) dX0_init_65 (fun H locs hP hD hS => ?_)
  have hP : va_P D vwCl ([(h0, .inr (0, [.int 0, .int 0, .ref q_1, .ref q_2, .int 0, .ref q_3, .int 0, .ref q_4, .ref q_5, .ref q_6, .ref q_7, .int 0, .ref q_8, .null, .null, .null, .null])), (q_1, .inl (k 0, 6, .inl (fun _ => 0))), (q_2, .inl (k 0, 36, .inl (fun _ => 0))), (q_3, .inl (k 0, 20, .inl (fun _ => 0))), (q_4, .inl (k 0, 20, .inl (fun _ => 0))), (q_5, .inl (k 0, 20, .inl (fun _ => 0))), (q_6, .inl (k 0, 20, .inl (fun _ => 0))), (q_7, .inl (k 0, 20, .inl (fun _ => 0))), (q_8, .inl (k 0, 12, .inl (fun _ => 0)))]) H := hP
  have hD : va_D A ([(h0, .inr (0, [.int 0, .int 0, .ref q_1, .ref q_2, .int 0, .ref q_3, .int 0, .ref q_4, .ref q_5, .ref q_6, .ref q_7, .int 0, .ref q_8, .null, .null, .null, .null])), (q_1, .inl (k 0, 6, .inl (fun _ => 0))), (q_2, .inl (k 0, 36, .inl (fun _ => 0))), (q_3, .inl (k 0, 20, .inl (fun _ => 0))), (q_4, .inl (k 0, 20, .inl (fun _ => 0))), (q_5, .inl (k 0, 20, .inl (fun _ => 0))), (q_6, .inl (k 0, 20, .inl (fun _ => 0))), (q_7, .inl (k 0, 20, .inl (fun _ => 0))), (q_8, .inl (k 0, 12, .inl (fun _ => 0)))]) := hD
  refine lv_aload_n hx hb dX0_init_68 rfl (lv_at hl 0 rfl) ?_
  refine lv_bipush (v := 12) hx hb dX0_init_69 (by decide) ?_
  refine x_newI (N' := 12) hx hb (hw _ wd_58) hK hP hD hS hA (by decide) (by decide) (Nat.le_of_ble_eq_true rfl) (Nat.le_of_ble_eq_true rfl) (Nat.le_of_ble_eq_true rfl) dX0_init_71 (fun q_9 H hP hD hS => ?_)
  have hP : va_P D vwCl ([(h0, .inr (0, [.int 0, .int 0, .ref q_1, .ref q_2, .int 0, .ref q_3, .int 0, .ref q_4, .ref q_5, .ref q_6, .ref q_7, .int 0, .ref q_8, .null, .null, .null, .null])), (q_1, .inl (k 0, 6, .inl (fun _ => 0))), (q_2, .inl (k 0, 36, .inl (fun _ => 0))), (q_3, .inl (k 0, 20, .inl (fun _ => 0))), (q_4, .inl (k 0, 20, .inl (fun _ => 0))), (q_5, .inl (k 0, 20, .inl (fun _ => 0))), (q_6, .inl (k 0, 20, .inl (fun _ => 0))), (q_7, .inl (k 0, 20, .inl (fun _ => 0))), (q_8, .inl (k 0, 12, .inl (fun _ => 0))), (q_9, .inl (k 0, 12, .inl (fun _ => 0)))]) H := hP
  have hD : va_D A ([(h0, .inr (0, [.int 0, .int 0, .ref q_1, .ref q_2, .int 0, .ref q_3, .int 0, .ref q_4, .ref q_5, .ref q_6, .ref q_7, .int 0, .ref q_8, .null, .null, .null, .null])), (q_1, .inl (k 0, 6, .inl (fun _ => 0))), (q_2, .inl (k 0, 36, .inl (fun _ => 0))), (q_3, .inl (k 0, 20, .inl (fun _ => 0))), (q_4, .inl (k 0, 20, .inl (fun _ => 0))), (q_5, .inl (k 0, 20, .inl (fun _ => 0))), (q_6, .inl (k 0, 20, .inl (fun _ => 0))), (q_7, .inl (k 0, 20, .inl (fun _ => 0))), (q_8, .inl (k 0, 12, .inl (fun _ => 0))), (q_9, .inl (k 0, 12, .inl (fun _ => 0)))]) := hD
  refine W.widen (k := 9) (n := 166) (Nat.le_of_ble_eq_true rfl) (Nat.le_of_ble_eq_true rfl) ?_
  refine va_putF (D := D) (ci := 0) (v := .ref q_9) (ty := .array .int) (C := RX0) (T := TX0) (N := 17) hx hb hw inlX0 tyX0 tyX0_ok nmX0 hown hK hP hD hS 0 rfl rfl 13 (by decide) (hw _ wd_314) (fun _ h9 => h9) rfl hin rfl (by decide +kernel) rfl rfl (Nat.le_of_ble_eq_true rfl) dX0_init_73 (fun H locs hP hD hS => ?_)
  have hP : va_P D vwCl ([(h0, .inr (0, [.int 0, .int 0, .ref q_1, .ref q_2, .int 0, .ref q_3, .int 0, .ref q_4, .ref q_5, .ref q_6, .ref q_7, .int 0, .ref q_8, .ref q_9, .null, .null, .null])), (q_1, .inl (k 0, 6, .inl (fun _ => 0))), (q_2, .inl (k 0, 36, .inl (fun _ => 0))), (q_3, .inl (k 0, 20, .inl (fun _ => 0))), (q_4, .inl (k 0, 20, .inl (fun _ => 0))), (q_5, .inl (k 0, 20, .inl (fun _ => 0))), (q_6, .inl (k 0, 20, .inl (fun _ => 0))), (q_7, .inl (k 0, 20, .inl (fun _ => 0))), (q_8, .inl (k 0, 12, .inl (fun _ => 0))), (q_9, .inl (k 0, 12, .inl (fun _ => 0)))]) H := hP
  have hD : va_D A ([(h0, .inr (0, [.int 0, .int 0, .ref q_1, .ref q_2, .int 0, .ref q_3, .int 0, .ref q_4, .ref q_5, .ref q_6, .ref q_7, .int 0, .ref q_8, .ref q_9, .null, .null, .null])), (q_1, .inl (k 0, 6, .inl (fun _ => 0))), (q_2, .inl (k 0, 36, .inl (fun _ => 0))), (q_3, .inl (k 0, 20, .inl (fun _ => 0))), (q_4, .inl (k 0, 20, .inl (fun _ => 0))), (q_5, .inl (k 0, 20, .inl (fun _ => 0))), (q_6, .inl (k 0, 20, .inl (fun _ => 0))), (q_7, .inl (k 0, 20, .inl (fun _ => 0))), (q_8, .inl (k 0, 12, .inl (fun _ => 0))), (q_9, .inl (k 0, 12, .inl (fun _ => 0)))]) := hD
  refine lv_aload_n hx hb dX0_init_76 rfl (lv_at hl 0 rfl) ?_
  refine lv_bipush (v := 12) hx hb dX0_init_77 (by decide) ?_
  refine x_newI (N' := 12) hx hb (hw _ wd_58) hK hP hD hS hA (by decide) (by decide) (Nat.le_of_ble_eq_true rfl) (Nat.le_of_ble_eq_true rfl) (Nat.le_of_ble_eq_true rfl) dX0_init_79 (fun q_10 H hP hD hS => ?_)
  have hP : va_P D vwCl ([(h0, .inr (0, [.int 0, .int 0, .ref q_1, .ref q_2, .int 0, .ref q_3, .int 0, .ref q_4, .ref q_5, .ref q_6, .ref q_7, .int 0, .ref q_8, .ref q_9, .null, .null, .null])), (q_1, .inl (k 0, 6, .inl (fun _ => 0))), (q_2, .inl (k 0, 36, .inl (fun _ => 0))), (q_3, .inl (k 0, 20, .inl (fun _ => 0))), (q_4, .inl (k 0, 20, .inl (fun _ => 0))), (q_5, .inl (k 0, 20, .inl (fun _ => 0))), (q_6, .inl (k 0, 20, .inl (fun _ => 0))), (q_7, .inl (k 0, 20, .inl (fun _ => 0))), (q_8, .inl (k 0, 12, .inl (fun _ => 0))), (q_9, .inl (k 0, 12, .inl (fun _ => 0))), (q_10, .inl (k 0, 12, .inl (fun _ => 0)))]) H := hP
  have hD : va_D A ([(h0, .inr (0, [.int 0, .int 0, .ref q_1, .ref q_2, .int 0, .ref q_3, .int 0, .ref q_4, .ref q_5, .ref q_6, .ref q_7, .int 0, .ref q_8, .ref q_9, .null, .null, .null])), (q_1, .inl (k 0, 6, .inl (fun _ => 0))), (q_2, .inl (k 0, 36, .inl (fun _ => 0))), (q_3, .inl (k 0, 20, .inl (fun _ => 0))), (q_4, .inl (k 0, 20, .inl (fun _ => 0))), (q_5, .inl (k 0, 20, .inl (fun _ => 0))), (q_6, .inl (k 0, 20, .inl (fun _ => 0))), (q_7, .inl (k 0, 20, .inl (fun _ => 0))), (q_8, .inl (k 0, 12, .inl (fun _ => 0))), (q_9, .inl (k 0, 12, .inl (fun _ => 0))), (q_10, .inl (k 0, 12, .inl (fun _ => 0)))]) := hD
  refine W.widen (k := 10) (n := 178) (Nat.le_of_ble_eq_true rfl) (Nat.le_of_ble_eq_true rfl) ?_
  refine va_putF (D := D) (ci := 0) (v := .ref q_10) (ty := .array .int) (C := RX0) (T := TX0) (N := 17) hx hb hw inlX0 tyX0 tyX0_ok nmX0 hown hK hP hD hS 0 rfl rfl 14 (by decide) (hw _ wd_316) (fun _ h9 => h9) rfl hin rfl (by decide +kernel) rfl rfl (Nat.le_of_ble_eq_true rfl) dX0_init_81 (fun H locs hP hD hS => ?_)
  have hP : va_P D vwCl ([(h0, .inr (0, [.int 0, .int 0, .ref q_1, .ref q_2, .int 0, .ref q_3, .int 0, .ref q_4, .ref q_5, .ref q_6, .ref q_7, .int 0, .ref q_8, .ref q_9, .ref q_10, .null, .null])), (q_1, .inl (k 0, 6, .inl (fun _ => 0))), (q_2, .inl (k 0, 36, .inl (fun _ => 0))), (q_3, .inl (k 0, 20, .inl (fun _ => 0))), (q_4, .inl (k 0, 20, .inl (fun _ => 0))), (q_5, .inl (k 0, 20, .inl (fun _ => 0))), (q_6, .inl (k 0, 20, .inl (fun _ => 0))), (q_7, .inl (k 0, 20, .inl (fun _ => 0))), (q_8, .inl (k 0, 12, .inl (fun _ => 0))), (q_9, .inl (k 0, 12, .inl (fun _ => 0))), (q_10, .inl (k 0, 12, .inl (fun _ => 0)))]) H := hP
  have hD : va_D A ([(h0, .inr (0, [.int 0, .int 0, .ref q_1, .ref q_2, .int 0, .ref q_3, .int 0, .ref q_4, .ref q_5, .ref q_6, .ref q_7, .int 0, .ref q_8, .ref q_9, .ref q_10, .null, .null])), (q_1, .inl (k 0, 6, .inl (fun _ => 0))), (q_2, .inl (k 0, 36, .inl (fun _ => 0))), (q_3, .inl (k 0, 20, .inl (fun _ => 0))), (q_4, .inl (k 0, 20, .inl (fun _ => 0))), (q_5, .inl (k 0, 20, .inl (fun _ => 0))), (q_6, .inl (k 0, 20, .inl (fun _ => 0))), (q_7, .inl (k 0, 20, .inl (fun _ => 0))), (q_8, .inl (k 0, 12, .inl (fun _ => 0))), (q_9, .inl (k 0, 12, .inl (fun _ => 0))), (q_10, .inl (k 0, 12, .inl (fun _ => 0)))]) := hD
  refine lv_aload_n hx hb dX0_init_84 rfl (lv_at hl 0 rfl) ?_
  refine lv_bipush (v := 12) hx hb dX0_init_85 (by decide) ?_
  refine x_newI (N' := 12) hx hb (hw _ wd_58) hK hP hD hS hA (by decide) (by decide) (Nat.le_of_ble_eq_true rfl) (Nat.le_of_ble_eq_true rfl) (Nat.le_of_ble_eq_true rfl) dX0_init_87 (fun q_11 H hP hD hS => ?_)
  have hP : va_P D vwCl ([(h0, .inr (0, [.int 0, .int 0, .ref q_1, .ref q_2, .int 0, .ref q_3, .int 0, .ref q_4, .ref q_5, .ref q_6, .ref q_7, .int 0, .ref q_8, .ref q_9, .ref q_10, .null, .null])), (q_1, .inl (k 0, 6, .inl (fun _ => 0))), (q_2, .inl (k 0, 36, .inl (fun _ => 0))), (q_3, .inl (k 0, 20, .inl (fun _ => 0))), (q_4, .inl (k 0, 20, .inl (fun _ => 0))), (q_5, .inl (k 0, 20, .inl (fun _ => 0))), (q_6, .inl (k 0, 20, .inl (fun _ => 0))), (q_7, .inl (k 0, 20, .inl (fun _ => 0))), (q_8, .inl (k 0, 12, .inl (fun _ => 0))), (q_9, .inl (k 0, 12, .inl (fun _ => 0))), (q_10, .inl (k 0, 12, .inl (fun _ => 0))), (q_11, .inl (k 0, 12, .inl (fun _ => 0)))]) H := hP
  have hD : va_D A ([(h0, .inr (0, [.int 0, .int 0, .ref q_1, .ref q_2, .int 0, .ref q_3, .int 0, .ref q_4, .ref q_5, .ref q_6, .ref q_7, .int 0, .ref q_8, .ref q_9, .ref q_10, .null, .null])), (q_1, .inl (k 0, 6, .inl (fun _ => 0))), (q_2, .inl (k 0, 36, .inl (fun _ => 0))), (q_3, .inl (k 0, 20, .inl (fun _ => 0))), (q_4, .inl (k 0, 20, .inl (fun _ => 0))), (q_5, .inl (k 0, 20, .inl (fun _ => 0))), (q_6, .inl (k 0, 20, .inl (fun _ => 0))), (q_7, .inl (k 0, 20, .inl (fun _ => 0))), (q_8, .inl (k 0, 12, .inl (fun _ => 0))), (q_9, .inl (k 0, 12, .inl (fun _ => 0))), (q_10, .inl (k 0, 12, .inl (fun _ => 0))), (q_11, .inl (k 0, 12, .inl (fun _ => 0)))]) := hD
  refine W.widen (k := 11) (n := 190) (Nat.le_of_ble_eq_true rfl) (Nat.le_of_ble_eq_true rfl) ?_
  refine va_putF (D := D) (ci := 0) (v := .ref q_11) (ty := .array .int) (C := RX0) (T := TX0) (N := 17) hx hb hw inlX0 tyX0 tyX0_ok nmX0 hown hK hP hD hS 0 rfl rfl 15 (by decide) (hw _ wd_318) (fun _ h9 => h9) rfl hin rfl (by decide +kernel) rfl rfl (Nat.le_of_ble_eq_true rfl) dX0_init_89 (fun H locs hP hD hS => ?_)
  have hP : va_P D vwCl ([(h0, .inr (0, [.int 0, .int 0, .ref q_1, .ref q_2, .int 0, .ref q_3, .int 0, .ref q_4, .ref q_5, .ref q_6, .ref q_7, .int 0, .ref q_8, .ref q_9, .ref q_10, .ref q_11, .null])), (q_1, .inl (k 0, 6, .inl (fun _ => 0))), (q_2, .inl (k 0, 36, .inl (fun _ => 0))), (q_3, .inl (k 0, 20, .inl (fun _ => 0))), (q_4, .inl (k 0, 20, .inl (fun _ => 0))), (q_5, .inl (k 0, 20, .inl (fun _ => 0))), (q_6, .inl (k 0, 20, .inl (fun _ => 0))), (q_7, .inl (k 0, 20, .inl (fun _ => 0))), (q_8, .inl (k 0, 12, .inl (fun _ => 0))), (q_9, .inl (k 0, 12, .inl (fun _ => 0))), (q_10, .inl (k 0, 12, .inl (fun _ => 0))), (q_11, .inl (k 0, 12, .inl (fun _ => 0)))]) H := hP
  have hD : va_D A ([(h0, .inr (0, [.int 0, .int 0, .ref q_1, .ref q_2, .int 0, .ref q_3, .int 0, .ref q_4, .ref q_5, .ref q_6, .ref q_7, .int 0, .ref q_8, .ref q_9, .ref q_10, .ref q_11, .null])), (q_1, .inl (k 0, 6, .inl (fun _ => 0))), (q_2, .inl (k 0, 36, .inl (fun _ => 0))), (q_3, .inl (k 0, 20, .inl (fun _ => 0))), (q_4, .inl (k 0, 20, .inl (fun _ => 0))), (q_5, .inl (k 0, 20, .inl (fun _ => 0))), (q_6, .inl (k 0, 20, .inl (fun _ => 0))), (q_7, .inl (k 0, 20, .inl (fun _ => 0))), (q_8, .inl (k 0, 12, .inl (fun _ => 0))), (q_9, .inl (k 0, 12, .inl (fun _ => 0))), (q_10, .inl (k 0, 12, .inl (fun _ => 0))), (q_11, .inl (k 0, 12, .inl (fun _ => 0)))]) := hD
  refine lv_aload_n hx hb dX0_init_92 rfl (lv_at hl 0 rfl) ?_
  refine lv_sipush (v := 360) hx hb dX0_init_93 (by decide) ?_
  refine x_newI (N' := 360) hx hb (hw _ wd_58) hK hP hD hS hA (by decide) (by decide) (Nat.le_of_ble_eq_true rfl) (Nat.le_of_ble_eq_true rfl) (Nat.le_of_ble_eq_true rfl) dX0_init_96 (fun q_12 H hP hD hS => ?_)
  have hP : va_P D vwCl ([(h0, .inr (0, [.int 0, .int 0, .ref q_1, .ref q_2, .int 0, .ref q_3, .int 0, .ref q_4, .ref q_5, .ref q_6, .ref q_7, .int 0, .ref q_8, .ref q_9, .ref q_10, .ref q_11, .null])), (q_1, .inl (k 0, 6, .inl (fun _ => 0))), (q_2, .inl (k 0, 36, .inl (fun _ => 0))), (q_3, .inl (k 0, 20, .inl (fun _ => 0))), (q_4, .inl (k 0, 20, .inl (fun _ => 0))), (q_5, .inl (k 0, 20, .inl (fun _ => 0))), (q_6, .inl (k 0, 20, .inl (fun _ => 0))), (q_7, .inl (k 0, 20, .inl (fun _ => 0))), (q_8, .inl (k 0, 12, .inl (fun _ => 0))), (q_9, .inl (k 0, 12, .inl (fun _ => 0))), (q_10, .inl (k 0, 12, .inl (fun _ => 0))), (q_11, .inl (k 0, 12, .inl (fun _ => 0))), (q_12, .inl (k 0, 360, .inl (fun _ => 0)))]) H := hP
  have hD : va_D A ([(h0, .inr (0, [.int 0, .int 0, .ref q_1, .ref q_2, .int 0, .ref q_3, .int 0, .ref q_4, .ref q_5, .ref q_6, .ref q_7, .int 0, .ref q_8, .ref q_9, .ref q_10, .ref q_11, .null])), (q_1, .inl (k 0, 6, .inl (fun _ => 0))), (q_2, .inl (k 0, 36, .inl (fun _ => 0))), (q_3, .inl (k 0, 20, .inl (fun _ => 0))), (q_4, .inl (k 0, 20, .inl (fun _ => 0))), (q_5, .inl (k 0, 20, .inl (fun _ => 0))), (q_6, .inl (k 0, 20, .inl (fun _ => 0))), (q_7, .inl (k 0, 20, .inl (fun _ => 0))), (q_8, .inl (k 0, 12, .inl (fun _ => 0))), (q_9, .inl (k 0, 12, .inl (fun _ => 0))), (q_10, .inl (k 0, 12, .inl (fun _ => 0))), (q_11, .inl (k 0, 12, .inl (fun _ => 0))), (q_12, .inl (k 0, 360, .inl (fun _ => 0)))]) := hD
  refine W.widen (k := 12) (n := 550) (Nat.le_of_ble_eq_true rfl) (Nat.le_of_ble_eq_true rfl) ?_
  refine va_putF (D := D) (ci := 0) (v := .ref q_12) (ty := .array .int) (C := RX0) (T := TX0) (N := 17) hx hb hw inlX0 tyX0 tyX0_ok nmX0 hown hK hP hD hS 0 rfl rfl 16 (by decide) (hw _ wd_320) (fun _ h9 => h9) rfl hin rfl (by decide +kernel) rfl rfl (Nat.le_of_ble_eq_true rfl) dX0_init_98 (fun H locs hP hD hS => ?_)
  have hP : va_P D vwCl ([(h0, .inr (0, [.int 0, .int 0, .ref q_1, .ref q_2, .int 0, .ref q_3, .int 0, .ref q_4, .ref q_5, .ref q_6, .ref q_7, .int 0, .ref q_8, .ref q_9, .ref q_10, .ref q_11, .ref q_12])), (q_1, .inl (k 0, 6, .inl (fun _ => 0))), (q_2, .inl (k 0, 36, .inl (fun _ => 0))), (q_3, .inl (k 0, 20, .inl (fun _ => 0))), (q_4, .inl (k 0, 20, .inl (fun _ => 0))), (q_5, .inl (k 0, 20, .inl (fun _ => 0))), (q_6, .inl (k 0, 20, .inl (fun _ => 0))), (q_7, .inl (k 0, 20, .inl (fun _ => 0))), (q_8, .inl (k 0, 12, .inl (fun _ => 0))), (q_9, .inl (k 0, 12, .inl (fun _ => 0))), (q_10, .inl (k 0, 12, .inl (fun _ => 0))), (q_11, .inl (k 0, 12, .inl (fun _ => 0))), (q_12, .inl (k 0, 360, .inl (fun _ => 0)))]) H := hP
  have hD : va_D A ([(h0, .inr (0, [.int 0, .int 0, .ref q_1, .ref q_2, .int 0, .ref q_3, .int 0, .ref q_4, .ref q_5, .ref q_6, .ref q_7, .int 0, .ref q_8, .ref q_9, .ref q_10, .ref q_11, .ref q_12])), (q_1, .inl (k 0, 6, .inl (fun _ => 0))), (q_2, .inl (k 0, 36, .inl (fun _ => 0))), (q_3, .inl (k 0, 20, .inl (fun _ => 0))), (q_4, .inl (k 0, 20, .inl (fun _ => 0))), (q_5, .inl (k 0, 20, .inl (fun _ => 0))), (q_6, .inl (k 0, 20, .inl (fun _ => 0))), (q_7, .inl (k 0, 20, .inl (fun _ => 0))), (q_8, .inl (k 0, 12, .inl (fun _ => 0))), (q_9, .inl (k 0, 12, .inl (fun _ => 0))), (q_10, .inl (k 0, 12, .inl (fun _ => 0))), (q_11, .inl (k 0, 12, .inl (fun _ => 0))), (q_12, .inl (k 0, 360, .inl (fun _ => 0)))]) := hD
  refine W.widen (k := 12) (n := 550) (Nat.le_of_ble_eq_true rfl) (Nat.le_of_ble_eq_true rfl) ?_
  have hP9 : va_P D vwCl ((fun u => G0 k h0 u) (xu [q_1, q_2, q_3, q_4, q_5, q_6, q_7, q_8, q_9, q_10, q_11, q_12])) H := hP.sub [0, 1, 2, 3, 4, 5, 6, 7, 8, 9, 10, 11, 12] rfl
  have hD9 : va_D A ((fun u => G0 k h0 u) (xu [q_1, q_2, q_3, q_4, q_5, q_6, q_7, q_8, q_9, q_10, q_11, q_12])) := hD.sub [0, 1, 2, 3, 4, 5, 6, 7, 8, 9, 10, 11, 12] (by decide) rfl
  exact W.vret hx hb hr (fun t ht hW => ⟨⟨(xu [q_1, q_2, q_3, q_4, q_5, q_6, q_7, q_8, q_9, q_10, q_11, q_12]), rfl, trivial, by rw [ht]; exact hP9, hD9⟩, hS.F ht⟩) hS.2.2 dX0_init_101

set_option maxHeartbeats 4000000 in
set_option maxRecDepth 100000 in
theorem kX8_init (l : Launch) (D : va_G) (k : Nat → ClassId) (sd : Nat → Nat) (h0 : Nat) (rv : Nat) (rl : Nat) (sz : Nat) : Met l yX8_init (wB yX8_init cX8_init 3 none) ({ frames := 2, cells := 27, slots := 784, locals := 32 }) (va_Pc [.ref h0, .ref rv, .ref rl] (PRE D k sd ([(h0, .inr (8, [.null, .null, .null, .null, .null, .null, .null, .null, .int 0]))]) sz)) (va_Qv (S := Nat → Nat) (fun _ => True) (fun u t => PO D (va_A ([(h0, .inr (8, [.null, .null, .null, .null, .null, .null, .null, .null, .int 0]))]) sz) ((fun u => G8 k h0 rv rl u) u) t) (va_A ([(h0, .inr (8, [.null, .null, .null, .null, .null, .null, .null, .null, .int 0]))]) sz)) 27 784 (va_A ([(h0, .inr (8, [.null, .null, .null, .null, .null, .null, .null, .null, .int 0]))]) sz) := by
  refine Met.ofW (cc := cX8_init) (maxL := 3) (ret := none) (by decide) rfl ?_
  intro p e s m args below meth c s₁ B hml hv
  obtain ⟨rfl, hsz, hP, hK, hD0, hE, hX⟩ := hv
  have hx := B.exec
  have hb := B.bytes
  have hr := B.returns
  have hw : ∀ w ∈ wsB, w.before _ s = true := fun w h => atoms_spec (ws := wB yX8_init cX8_init 3 none) B.pre w (List.mem_cons_of_mem _ h)
  have hown : s.vm.findClass RX8 = some m.cls := findClass_of_methodNamed B.named
  have hlocks := B.notSynchronized
  have hin : meth.name = "<init>" := (name_of_methodNamed B.named B.method).1
  subst hsz
  have hD := hD0.self (sz := s.heap.size)
  generalize hAe : va_A ([(h0, .inr (8, [.null, .null, .null, .null, .null, .null, .null, .null, .int 0]))]) s.heap.size = A at hD hX ⊢
  have hA : ∀ q : Nat, s.heap.size ≤ q → A q := fun q h => by rw [← hAe]; exact Or.inr h
  have hS : va_S A s.heap s.heap [] := va_S.rf
  have hl := lv_entry ([.ref h0, .ref rv, .ref rl]) (n := 3) (Nat.le_of_ble_eq_true rfl)
  rw [lg_entry_eq]
  generalize (lg_sl ([.ref h0, .ref rv, .ref rl]) ++ List.replicate (3 - (lg_sl ([.ref h0, .ref rv, .ref rl])).length) Slot.unset).toArray = ls at hl ⊢
  have hl : lv_has ls 3 [(0, .ref h0), (1, .ref rv), (2, .ref rl)] := hl
  refine lv_aload_n hx hb dX8_init_0 rfl (lv_at hl 0 rfl) ?_
  refine W.objInit hx hb hown (hw _ wd_200) (hw _ wd_26) (hw _ wd_27) rfl (by rw [hml]; exact hl.1) rfl dX8_init_1 (Nat.le_of_ble_eq_true rfl) (Nat.le_of_ble_eq_true rfl) ?_
  refine W.eq (g2 := F0 m 4 ls []) rfl ?_
  refine lv_aload_n hx hb dX8_init_4 rfl (lv_at hl 0 rfl) ?_
  refine va_new (ci := 6) (fs := [.int 0, .int 0, .int 0, .int 0, .int 0, .int 0, .null, .null, .null, .null, .null, .null, .null, .null, .null]) (C := RX6) (T := TX6) (N := 15) hx hb hw inlX6 tyX6 tyX6_ok hown (hw _ wd_201) (hw _ wd_202) (hw _ wd_8) hK hP hD hS hA rfl (fun j hj => by rcases (show j = 0 ∨ j = 1 ∨ j = 2 ∨ j = 3 ∨ j = 4 ∨ j = 5 ∨ j = 6 ∨ j = 7 ∨ j = 8 ∨ j = 9 ∨ j = 10 ∨ j = 11 ∨ j = 12 ∨ j = 13 ∨ j = 14 by omega) with rfl | rfl | rfl | rfl | rfl | rfl | rfl | rfl | rfl | rfl | rfl | rfl | rfl | rfl | rfl <;> rfl) (Nat.le_of_ble_eq_true rfl) (Nat.le_of_ble_eq_true rfl) dX8_init_5 (fun q_1 H hP hD hS => ?_)
  have hP : va_P D vwCl ([(h0, .inr (8, [.null, .null, .null, .null, .null, .null, .null, .null, .int 0])), (q_1, .inr (6, [.int 0, .int 0, .int 0, .int 0, .int 0, .int 0, .null, .null, .null, .null, .null, .null, .null, .null, .null]))]) H := hP
  have hD : va_D A ([(h0, .inr (8, [.null, .null, .null, .null, .null, .null, .null, .null, .int 0])), (q_1, .inr (6, [.int 0, .int 0, .int 0, .int 0, .int 0, .int 0, .null, .null, .null, .null, .null, .null, .null, .null, .null]))]) := hD
  refine W.widen (k := 1) (n := 15) (Nat.le_of_ble_eq_true rfl) (Nat.le_of_ble_eq_true rfl) ?_
  refine lv_dup hx hb dX8_init_8 rfl ?_
  refine x_v (wr := [(h0, .inr (8, [.null, .null, .null, .null, .null, .null, .null, .null, .int 0]))]) (va_runIN (As := []) (rest := [.ref q_1, .ref h0]) ⟨hx, hb, hml, hown, hw⟩ (kX6_init l D k sd q_1  H.size) ⟨va_cnB 0 hw (gM wd_205) rfl rfl rfl (hE.1 _ (List.mem_of_getElem? (i := 4) rfl)) (hw _ wd_8) (by decide +kernel) ⟨Nat.le_of_ble_eq_true rfl, Nat.le_of_ble_eq_true rfl⟩, rfl, hw _ wd_204⟩ (pre_S hK hE hX hP hD hS hA [1] (by decide) rfl) rfl rfl hl.1 rfl (lv_room (Nat.le_of_ble_eq_true rfl)) dX8_init_9 ⟨Nat.le_of_ble_eq_true rfl, Nat.le_of_ble_eq_true rfl⟩) hP hD hS hA [1] [0] rfl rfl (by decide) (by decide) (fun u_2 H locs hp_3 hP hD hS => ?_)
  have hP : va_P D vwCl ([(h0, .inr (8, [.null, .null, .null, .null, .null, .null, .null, .null, .int 0]))] ++ G6 k q_1 u_2) H := hP
  have hD : va_D A ([(h0, .inr (8, [.null, .null, .null, .null, .null, .null, .null, .null, .int 0]))] ++ G6 k q_1 u_2) := hD
  refine W.widen (k := 10) (n := 174) (Nat.le_of_ble_eq_true rfl) (Nat.le_of_ble_eq_true rfl) ?_
  refine va_putF (D := D) (ci := 8) (v := .ref q_1) (ty := .object "RaftForest$State") (C := RX8) (T := TX8) (N := 9) hx hb hw inlX8 tyX8 tyX8_ok nmX8 hown hK hP hD hS 0 rfl rfl 1 (by decide) (hw _ wd_360) (fun _ h9 => h9) rfl hin rfl (by decide +kernel) rfl rfl (Nat.le_of_ble_eq_true rfl) dX8_init_12 (fun H locs hP hD hS => ?_)
  have hP : va_P D vwCl ([(h0, .inr (8, [.null, .ref q_1, .null, .null, .null, .null, .null, .null, .int 0]))] ++ G6 k q_1 u_2) H := hP
  have hD : va_D A ([(h0, .inr (8, [.null, .ref q_1, .null, .null, .null, .null, .null, .null, .int 0]))] ++ G6 k q_1 u_2) := hD
  refine lv_aload_n hx hb dX8_init_15 rfl (lv_at hl 0 rfl) ?_
  refine va_new (ci := 0) (fs := [.int 0, .int 0, .null, .null, .int 0, .null, .int 0, .null, .null, .null, .null, .int 0, .null, .null, .null, .null, .null]) (C := RX0) (T := TX0) (N := 17) hx hb hw inlX0 tyX0 tyX0_ok hown (hw _ wd_283) (hw _ wd_284) (hw _ wd_9) hK hP hD hS hA rfl (fun j hj => by rcases (show j = 0 ∨ j = 1 ∨ j = 2 ∨ j = 3 ∨ j = 4 ∨ j = 5 ∨ j = 6 ∨ j = 7 ∨ j = 8 ∨ j = 9 ∨ j = 10 ∨ j = 11 ∨ j = 12 ∨ j = 13 ∨ j = 14 ∨ j = 15 ∨ j = 16 by omega) with rfl | rfl | rfl | rfl | rfl | rfl | rfl | rfl | rfl | rfl | rfl | rfl | rfl | rfl | rfl | rfl | rfl <;> rfl) (Nat.le_of_ble_eq_true rfl) (Nat.le_of_ble_eq_true rfl) dX8_init_16 (fun q_5 H hP hD hS => ?_)
  have hP : va_P D vwCl ([(h0, .inr (8, [.null, .ref q_1, .null, .null, .null, .null, .null, .null, .int 0]))] ++ G6 k q_1 u_2 ++ [(q_5, .inr (0, [.int 0, .int 0, .null, .null, .int 0, .null, .int 0, .null, .null, .null, .null, .int 0, .null, .null, .null, .null, .null]))]) H := hP
  have hD : va_D A ([(h0, .inr (8, [.null, .ref q_1, .null, .null, .null, .null, .null, .null, .int 0]))] ++ G6 k q_1 u_2 ++ [(q_5, .inr (0, [.int 0, .int 0, .null, .null, .int 0, .null, .int 0, .null, .null, .null, .null, .int 0, .null, .null, .null, .null, .null]))]) := hD
  refine W.widen (k := 11) (n := 191) (Nat.le_of_ble_eq_true rfl) (Nat.le_of_ble_eq_true rfl) ?_
  refine lv_dup hx hb dX8_init_19 rfl ?_
  refine x_v (wr := [(h0, .inr (8, [.null, .ref q_1, .null, .null, .null, .null, .null, .null, .int 0]))] ++ G6 k q_1 u_2) (va_runIN (As := []) (rest := [.ref q_5, .ref h0]) ⟨hx, hb, hml, hown, hw⟩ (kX0_init l D k sd q_5  H.size) ⟨va_cnB 0 hw (gM wd_287) rfl rfl rfl (hE.1 _ (List.mem_of_getElem? (i := 5) rfl)) (hw _ wd_9) (by decide +kernel) ⟨Nat.le_of_ble_eq_true rfl, Nat.le_of_ble_eq_true rfl⟩, rfl, hw _ wd_286⟩ (pre_S hK hE hX hP hD hS hA [11] (by decide) rfl) rfl rfl hl.1 rfl (lv_room (Nat.le_of_ble_eq_true rfl)) dX8_init_20 ⟨Nat.le_of_ble_eq_true rfl, Nat.le_of_ble_eq_true rfl⟩) hP hD hS hA [11] [0, 1, 2, 3, 4, 5, 6, 7, 8, 9, 10] rfl rfl (by decide) (by decide) (fun u_6 H locs hp_7 hP hD hS => ?_)
  have hP : va_P D vwCl ([(h0, .inr (8, [.null, .ref q_1, .null, .null, .null, .null, .null, .null, .int 0]))] ++ G6 k q_1 u_2 ++ G0 k q_5 u_6) H := hP
  have hD : va_D A ([(h0, .inr (8, [.null, .ref q_1, .null, .null, .null, .null, .null, .null, .int 0]))] ++ G6 k q_1 u_2 ++ G0 k q_5 u_6) := hD
  refine W.widen (k := 23) (n := 741) (Nat.le_of_ble_eq_true rfl) (Nat.le_of_ble_eq_true rfl) ?_
  refine va_putF (D := D) (ci := 8) (v := .ref q_5) (ty := .object "RaftForest$Books") (C := RX8) (T := TX8) (N := 9) hx hb hw inlX8 tyX8 tyX8_ok nmX8 hown hK hP hD hS 0 rfl rfl 2 (by decide) (hw _ wd_363) (fun _ h9 => h9) rfl hin rfl (by decide +kernel) rfl rfl (Nat.le_of_ble_eq_true rfl) dX8_init_23 (fun H locs hP hD hS => ?_)
  have hP : va_P D vwCl ([(h0, .inr (8, [.null, .ref q_1, .ref q_5, .null, .null, .null, .null, .null, .int 0]))] ++ G6 k q_1 u_2 ++ G0 k q_5 u_6) H := hP
  have hD : va_D A ([(h0, .inr (8, [.null, .ref q_1, .ref q_5, .null, .null, .null, .null, .null, .int 0]))] ++ G6 k q_1 u_2 ++ G0 k q_5 u_6) := hD
  refine lv_aload_n hx hb dX8_init_26 rfl (lv_at hl 0 rfl) ?_
  refine lv_bipush (v := 6) hx hb dX8_init_27 (by decide) ?_
  refine x_newI (N' := 6) hx hb (hw _ wd_58) hK hP hD hS hA (by decide) (by decide) (Nat.le_of_ble_eq_true rfl) (Nat.le_of_ble_eq_true rfl) (Nat.le_of_ble_eq_true rfl) dX8_init_29 (fun q_9 H hP hD hS => ?_)
  have hP : va_P D vwCl ([(h0, .inr (8, [.null, .ref q_1, .ref q_5, .null, .null, .null, .null, .null, .int 0]))] ++ G6 k q_1 u_2 ++ G0 k q_5 u_6 ++ [(q_9, .inl (k 0, 6, .inl (fun _ => 0)))]) H := hP
  have hD : va_D A ([(h0, .inr (8, [.null, .ref q_1, .ref q_5, .null, .null, .null, .null, .null, .int 0]))] ++ G6 k q_1 u_2 ++ G0 k q_5 u_6 ++ [(q_9, .inl (k 0, 6, .inl (fun _ => 0)))]) := hD
  refine W.widen (k := 24) (n := 747) (Nat.le_of_ble_eq_true rfl) (Nat.le_of_ble_eq_true rfl) ?_
  refine va_putF (D := D) (ci := 8) (v := .ref q_9) (ty := .array .int) (C := RX8) (T := TX8) (N := 9) hx hb hw inlX8 tyX8 tyX8_ok nmX8 hown hK hP hD hS 0 rfl rfl 3 (by decide) (hw _ wd_366) (fun _ h9 => h9) rfl hin rfl (by decide +kernel) rfl rfl (Nat.le_of_ble_eq_true rfl) dX8_init_31 (fun H locs hP hD hS => ?_)
  have hP : va_P D vwCl ([(h0, .inr (8, [.null, .ref q_1, .ref q_5, .ref q_9, .null, .null, .null, .null, .int 0]))] ++ G6 k q_1 u_2 ++ G0 k q_5 u_6 ++ [(q_9, .inl (k 0, 6, .inl (fun _ => 0)))]) H := hP
  have hD : va_D A ([(h0, .inr (8, [.null, .ref q_1, .ref q_5, .ref q_9, .null, .null, .null, .null, .int 0]))] ++ G6 k q_1 u_2 ++ G0 k q_5 u_6 ++ [(q_9, .inl (k 0, 6, .inl (fun _ => 0)))]) := hD
  refine lv_aload_n hx hb dX8_init_34 rfl (lv_at hl 0 rfl) ?_
  refine lv_bipush (v := 13) hx hb dX8_init_35 (by decide) ?_
  refine x_newJ (N' := 13) hx hb (hw _ wd_192) hK hP hD hS hA (by decide) (by decide) (Nat.le_of_ble_eq_true rfl) (Nat.le_of_ble_eq_true rfl) (Nat.le_of_ble_eq_true rfl) dX8_init_37 (fun q_10 H hP hD hS => ?_)
  have hP : va_P D vwCl ([(h0, .inr (8, [.null, .ref q_1, .ref q_5, .ref q_9, .null, .null, .null, .null, .int 0]))] ++ G6 k q_1 u_2 ++ G0 k q_5 u_6 ++ [(q_9, .inl (k 0, 6, .inl (fun _ => 0))), (q_10, .inl (k 1, 13, .inr (.inl (fun _ => 0))))]) H := hP
  have hD : va_D A ([(h0, .inr (8, [.null, .ref q_1, .ref q_5, .ref q_9, .null, .null, .null, .null, .int 0]))] ++ G6 k q_1 u_2 ++ G0 k q_5 u_6 ++ [(q_9, .inl (k 0, 6, .inl (fun _ => 0))), (q_10, .inl (k 1, 13, .inr (.inl (fun _ => 0))))]) := hD
  refine W.widen (k := 25) (n := 760) (Nat.le_of_ble_eq_true rfl) (Nat.le_of_ble_eq_true rfl) ?_
  refine va_putF (D := D) (ci := 8) (v := .ref q_10) (ty := .array .long) (C := RX8) (T := TX8) (N := 9) hx hb hw inlX8 tyX8 tyX8_ok nmX8 hown hK hP hD hS 0 rfl rfl 5 (by decide) (hw _ wd_369) (fun _ h9 => h9) rfl hin rfl (by decide +kernel) rfl rfl (Nat.le_of_ble_eq_true rfl) dX8_init_39 (fun H locs hP hD hS => ?_)
  have hP : va_P D vwCl ([(h0, .inr (8, [.null, .ref q_1, .ref q_5, .ref q_9, .null, .ref q_10, .null, .null, .int 0]))] ++ G6 k q_1 u_2 ++ G0 k q_5 u_6 ++ [(q_9, .inl (k 0, 6, .inl (fun _ => 0))), (q_10, .inl (k 1, 13, .inr (.inl (fun _ => 0))))]) H := hP
  have hD : va_D A ([(h0, .inr (8, [.null, .ref q_1, .ref q_5, .ref q_9, .null, .ref q_10, .null, .null, .int 0]))] ++ G6 k q_1 u_2 ++ G0 k q_5 u_6 ++ [(q_9, .inl (k 0, 6, .inl (fun _ => 0))), (q_10, .inl (k 1, 13, .inr (.inl (fun _ => 0))))]) := hD
  refine lv_aload_n hx hb dX8_init_42 rfl (lv_at hl 0 rfl) ?_
  refine lv_bipush (v := 12) hx hb dX8_init_43 (by decide) ?_
  refine x_newI (N' := 12) hx hb (hw _ wd_58) hK hP hD hS hA (by decide) (by decide) (Nat.le_of_ble_eq_true rfl) (Nat.le_of_ble_eq_true rfl) (Nat.le_of_ble_eq_true rfl) dX8_init_45 (fun q_11 H hP hD hS => ?_)
  have hP : va_P D vwCl ([(h0, .inr (8, [.null, .ref q_1, .ref q_5, .ref q_9, .null, .ref q_10, .null, .null, .int 0]))] ++ G6 k q_1 u_2 ++ G0 k q_5 u_6 ++ [(q_9, .inl (k 0, 6, .inl (fun _ => 0))), (q_10, .inl (k 1, 13, .inr (.inl (fun _ => 0)))), (q_11, .inl (k 0, 12, .inl (fun _ => 0)))]) H := hP
  have hD : va_D A ([(h0, .inr (8, [.null, .ref q_1, .ref q_5, .ref q_9, .null, .ref q_10, .null, .null, .int 0]))] ++ G6 k q_1 u_2 ++ G0 k q_5 u_6 ++ [(q_9, .inl (k 0, 6, .inl (fun _ => 0))), (q_10, .inl (k 1, 13, .inr (.inl (fun _ => 0)))), (q_11, .inl (k 0, 12, .inl (fun _ => 0)))]) := hD
  refine W.widen (k := 26) (n := 772) (Nat.le_of_ble_eq_true rfl) (Nat.le_of_ble_eq_true rfl) ?_
  refine va_putF (D := D) (ci := 8) (v := .ref q_11) (ty := .array .int) (C := RX8) (T := TX8) (N := 9) hx hb hw inlX8 tyX8 tyX8_ok nmX8 hown hK hP hD hS 0 rfl rfl 6 (by decide) (hw _ wd_370) (fun _ h9 => h9) rfl hin rfl (by decide +kernel) rfl rfl (Nat.le_of_ble_eq_true rfl) dX8_init_47 (fun H locs hP hD hS => ?_)
  have hP : va_P D vwCl ([(h0, .inr (8, [.null, .ref q_1, .ref q_5, .ref q_9, .null, .ref q_10, .ref q_11, .null, .int 0]))] ++ G6 k q_1 u_2 ++ G0 k q_5 u_6 ++ [(q_9, .inl (k 0, 6, .inl (fun _ => 0))), (q_10, .inl (k 1, 13, .inr (.inl (fun _ => 0)))), (q_11, .inl (k 0, 12, .inl (fun _ => 0)))]) H := hP
  have hD : va_D A ([(h0, .inr (8, [.null, .ref q_1, .ref q_5, .ref q_9, .null, .ref q_10, .ref q_11, .null, .int 0]))] ++ G6 k q_1 u_2 ++ G0 k q_5 u_6 ++ [(q_9, .inl (k 0, 6, .inl (fun _ => 0))), (q_10, .inl (k 1, 13, .inr (.inl (fun _ => 0)))), (q_11, .inl (k 0, 12, .inl (fun _ => 0)))]) := hD
  refine lv_aload_n hx hb dX8_init_50 rfl (lv_at hl 0 rfl) ?_
  refine lv_bipush (v := 12) hx hb dX8_init_51 (by decide) ?_
  refine x_newJ (N' := 12) hx hb (hw _ wd_192) hK hP hD hS hA (by decide) (by decide) (Nat.le_of_ble_eq_true rfl) (Nat.le_of_ble_eq_true rfl) (Nat.le_of_ble_eq_true rfl) dX8_init_53 (fun q_12 H hP hD hS => ?_)
  have hP : va_P D vwCl ([(h0, .inr (8, [.null, .ref q_1, .ref q_5, .ref q_9, .null, .ref q_10, .ref q_11, .null, .int 0]))] ++ G6 k q_1 u_2 ++ G0 k q_5 u_6 ++ [(q_9, .inl (k 0, 6, .inl (fun _ => 0))), (q_10, .inl (k 1, 13, .inr (.inl (fun _ => 0)))), (q_11, .inl (k 0, 12, .inl (fun _ => 0))), (q_12, .inl (k 1, 12, .inr (.inl (fun _ => 0))))]) H := hP
  have hD : va_D A ([(h0, .inr (8, [.null, .ref q_1, .ref q_5, .ref q_9, .null, .ref q_10, .ref q_11, .null, .int 0]))] ++ G6 k q_1 u_2 ++ G0 k q_5 u_6 ++ [(q_9, .inl (k 0, 6, .inl (fun _ => 0))), (q_10, .inl (k 1, 13, .inr (.inl (fun _ => 0)))), (q_11, .inl (k 0, 12, .inl (fun _ => 0))), (q_12, .inl (k 1, 12, .inr (.inl (fun _ => 0))))]) := hD
  refine W.widen (k := 27) (n := 784) (Nat.le_of_ble_eq_true rfl) (Nat.le_of_ble_eq_true rfl) ?_
  refine va_putF (D := D) (ci := 8) (v := .ref q_12) (ty := .array .long) (C := RX8) (T := TX8) (N := 9) hx hb hw inlX8 tyX8 tyX8_ok nmX8 hown hK hP hD hS 0 rfl rfl 7 (by decide) (hw _ wd_371) (fun _ h9 => h9) rfl hin rfl (by decide +kernel) rfl rfl (Nat.le_of_ble_eq_true rfl) dX8_init_55 (fun H locs hP hD hS => ?_)
  have hP : va_P D vwCl ([(h0, .inr (8, [.null, .ref q_1, .ref q_5, .ref q_9, .null, .ref q_10, .ref q_11, .ref q_12, .int 0]))] ++ G6 k q_1 u_2 ++ G0 k q_5 u_6 ++ [(q_9, .inl (k 0, 6, .inl (fun _ => 0))), (q_10, .inl (k 1, 13, .inr (.inl (fun _ => 0)))), (q_11, .inl (k 0, 12, .inl (fun _ => 0))), (q_12, .inl (k 1, 12, .inr (.inl (fun _ => 0))))]) H := hP
  have hD : va_D A ([(h0, .inr (8, [.null, .ref q_1, .ref q_5, .ref q_9, .null, .ref q_10, .ref q_11, .ref q_12, .int 0]))] ++ G6 k q_1 u_2 ++ G0 k q_5 u_6 ++ [(q_9, .inl (k 0, 6, .inl (fun _ => 0))), (q_10, .inl (k 1, 13, .inr (.inl (fun _ => 0)))), (q_11, .inl (k 0, 12, .inl (fun _ => 0))), (q_12, .inl (k 1, 12, .inr (.inl (fun _ => 0))))]) := hD
  refine lv_aload_n hx hb dX8_init_58 rfl (lv_at hl 0 rfl) ?_
  refine lv_aload_n hx hb dX8_init_59 rfl (lv_at hl 1 rfl) ?_
  refine va_putF (D := D) (ci := 8) (v := .ref rv) (ty := .object "RaftForest$River") (C := RX8) (T := TX8) (N := 9) hx hb hw inlX8 tyX8 tyX8_ok nmX8 hown hK hP hD hS 0 rfl rfl 0 (by decide) (hw _ wd_357) (fun _ h9 => h9) rfl hin rfl (by decide +kernel) rfl rfl (Nat.le_of_ble_eq_true rfl) dX8_init_60 (fun H locs hP hD hS => ?_)
  have hP : va_P D vwCl ([(h0, .inr (8, [.ref rv, .ref q_1, .ref q_5, .ref q_9, .null, .ref q_10, .ref q_11, .ref q_12, .int 0]))] ++ G6 k q_1 u_2 ++ G0 k q_5 u_6 ++ [(q_9, .inl (k 0, 6, .inl (fun _ => 0))), (q_10, .inl (k 1, 13, .inr (.inl (fun _ => 0)))), (q_11, .inl (k 0, 12, .inl (fun _ => 0))), (q_12, .inl (k 1, 12, .inr (.inl (fun _ => 0))))]) H := hP
  have hD : va_D A ([(h0, .inr (8, [.ref rv, .ref q_1, .ref q_5, .ref q_9, .null, .ref q_10, .ref q_11, .ref q_12, .int 0]))] ++ G6 k q_1 u_2 ++ G0 k q_5 u_6 ++ [(q_9, .inl (k 0, 6, .inl (fun _ => 0))), (q_10, .inl (k 1, 13, .inr (.inl (fun _ => 0)))), (q_11, .inl (k 0, 12, .inl (fun _ => 0))), (q_12, .inl (k 1, 12, .inr (.inl (fun _ => 0))))]) := hD
  refine lv_aload_n hx hb dX8_init_63 rfl (lv_at hl 0 rfl) ?_
  refine lv_aload_n hx hb dX8_init_64 rfl (lv_at hl 2 rfl) ?_
  refine va_putF (D := D) (ci := 8) (v := .ref rl) (ty := .array (.object "RaftForest$Rule")) (C := RX8) (T := TX8) (N := 9) hx hb hw inlX8 tyX8 tyX8_ok nmX8 hown hK hP hD hS 0 rfl rfl 4 (by decide) (hw _ wd_368) (fun _ h9 => h9) rfl hin rfl (by decide +kernel) rfl rfl (Nat.le_of_ble_eq_true rfl) dX8_init_65 (fun H locs hP hD hS => ?_)
  have hP : va_P D vwCl ([(h0, .inr (8, [.ref rv, .ref q_1, .ref q_5, .ref q_9, .ref rl, .ref q_10, .ref q_11, .ref q_12, .int 0]))] ++ G6 k q_1 u_2 ++ G0 k q_5 u_6 ++ [(q_9, .inl (k 0, 6, .inl (fun _ => 0))), (q_10, .inl (k 1, 13, .inr (.inl (fun _ => 0)))), (q_11, .inl (k 0, 12, .inl (fun _ => 0))), (q_12, .inl (k 1, 12, .inr (.inl (fun _ => 0))))]) H := hP
  have hD : va_D A ([(h0, .inr (8, [.ref rv, .ref q_1, .ref q_5, .ref q_9, .ref rl, .ref q_10, .ref q_11, .ref q_12, .int 0]))] ++ G6 k q_1 u_2 ++ G0 k q_5 u_6 ++ [(q_9, .inl (k 0, 6, .inl (fun _ => 0))), (q_10, .inl (k 1, 13, .inr (.inl (fun _ => 0)))), (q_11, .inl (k 0, 12, .inl (fun _ => 0))), (q_12, .inl (k 1, 12, .inr (.inl (fun _ => 0))))]) := hD
  refine W.widen (k := 27) (n := 784) (Nat.le_of_ble_eq_true rfl) (Nat.le_of_ble_eq_true rfl) ?_
  have hP9 : va_P D vwCl ((fun u => G8 k h0 rv rl u) (xu [q_1, u_2 0, u_2 1, u_2 2, u_2 3, u_2 4, u_2 5, u_2 6, u_2 7, u_2 8, q_5, u_6 0, u_6 1, u_6 2, u_6 3, u_6 4, u_6 5, u_6 6, u_6 7, u_6 8, u_6 9, u_6 10, u_6 11, q_9, q_10, q_11, q_12])) H := hP.sub [0, 1, 2, 3, 4, 5, 6, 7, 8, 9, 10, 11, 12, 13, 14, 15, 16, 17, 18, 19, 20, 21, 22, 23, 24, 25, 26, 27] rfl
  have hD9 : va_D A ((fun u => G8 k h0 rv rl u) (xu [q_1, u_2 0, u_2 1, u_2 2, u_2 3, u_2 4, u_2 5, u_2 6, u_2 7, u_2 8, q_5, u_6 0, u_6 1, u_6 2, u_6 3, u_6 4, u_6 5, u_6 6, u_6 7, u_6 8, u_6 9, u_6 10, u_6 11, q_9, q_10, q_11, q_12])) := hD.sub [0, 1, 2, 3, 4, 5, 6, 7, 8, 9, 10, 11, 12, 13, 14, 15, 16, 17, 18, 19, 20, 21, 22, 23, 24, 25, 26, 27] (by decide) rfl
  exact W.vret hx hb hr (fun t ht hW => ⟨⟨(xu [q_1, u_2 0, u_2 1, u_2 2, u_2 3, u_2 4, u_2 5, u_2 6, u_2 7, u_2 8, q_5, u_6 0, u_6 1, u_6 2, u_6 3, u_6 4, u_6 5, u_6 6, u_6 7, u_6 8, u_6 9, u_6 10, u_6 11, q_9, q_10, q_11, q_12]), rfl, trivial, by rw [ht]; exact hP9, hD9⟩, hS.F ht⟩) hS.2.2 dX8_init_68

set_option maxHeartbeats 4000000 in
set_option maxRecDepth 100000 in
theorem kX1_init (l : Launch) (D : va_G) (k : Nat → ClassId) (sd : Nat → Nat) (h0 : Nat) (sz : Nat) : Met l yX1_init (wB yX1_init cX1_init 1 none) ({ frames := 2, cells := 31, slots := 820, locals := 32 }) (va_Pc [.ref h0] (PRE D k sd ([(h0, .inr (1, [.int 0, .null, .null, .null]))]) sz)) (va_Qv (S := Nat → Nat) (fun _ => True) (fun u t => PO D (va_A ([(h0, .inr (1, [.int 0, .null, .null, .null]))]) sz) ((fun u => G1 k h0 u) u) t) (va_A ([(h0, .inr (1, [.int 0, .null, .null, .null]))]) sz)) 31 820 (va_A ([(h0, .inr (1, [.int 0, .null, .null, .null]))]) sz) := by
  refine Met.ofW (cc := cX1_init) (maxL := 1) (ret := none) (by decide) rfl ?_
  intro p e s m args below meth c s₁ B hml hv
  obtain ⟨rfl, hsz, hP, hK, hD0, hE, hX⟩ := hv
  have hx := B.exec
  have hb := B.bytes
  have hr := B.returns
  have hw : ∀ w ∈ wsB, w.before _ s = true := fun w h => atoms_spec (ws := wB yX1_init cX1_init 1 none) B.pre w (List.mem_cons_of_mem _ h)
  have hown : s.vm.findClass RX1 = some m.cls := findClass_of_methodNamed B.named
  have hlocks := B.notSynchronized
  have hin : meth.name = "<init>" := (name_of_methodNamed B.named B.method).1
  subst hsz
  have hD := hD0.self (sz := s.heap.size)
  generalize hAe : va_A ([(h0, .inr (1, [.int 0, .null, .null, .null]))]) s.heap.size = A at hD hX ⊢
  have hA : ∀ q : Nat, s.heap.size ≤ q → A q := fun q h => by rw [← hAe]; exact Or.inr h
  have hS : va_S A s.heap s.heap [] := va_S.rf
  have hl := lv_entry ([.ref h0]) (n := 1) (Nat.le_of_ble_eq_true rfl)
  rw [lg_entry_eq]
  generalize (lg_sl ([.ref h0]) ++ List.replicate (1 - (lg_sl ([.ref h0])).length) Slot.unset).toArray = ls at hl ⊢
  have hl : lv_has ls 1 [(0, .ref h0)] := hl
  refine lv_aload_n hx hb dX1_init_0 rfl (lv_at hl 0 rfl) ?_
  refine W.objInit hx hb hown (hw _ wd_398) (hw _ wd_26) (hw _ wd_27) rfl (by rw [hml]; exact hl.1) rfl dX1_init_1 (Nat.le_of_ble_eq_true rfl) (Nat.le_of_ble_eq_true rfl) ?_
  refine W.eq (g2 := F0 m 4 ls []) rfl ?_
  refine lv_aload_n hx hb dX1_init_4 rfl (lv_at hl 0 rfl) ?_
  refine va_new (ci := 2) (fs := [.int 0, .int 0, .int 0, .int 0, .int 0, .null, .null, .null, .null, .null, .null, .null]) (C := RX2) (T := TX2) (N := 12) hx hb hw inlX2 tyX2 tyX2_ok hown (hw _ wd_399) (hw _ wd_66) (hw _ wd_4) hK hP hD hS hA rfl (fun j hj => by rcases (show j = 0 ∨ j = 1 ∨ j = 2 ∨ j = 3 ∨ j = 4 ∨ j = 5 ∨ j = 6 ∨ j = 7 ∨ j = 8 ∨ j = 9 ∨ j = 10 ∨ j = 11 by omega) with rfl | rfl | rfl | rfl | rfl | rfl | rfl | rfl | rfl | rfl | rfl | rfl <;> rfl) (Nat.le_of_ble_eq_true rfl) (Nat.le_of_ble_eq_true rfl) dX1_init_5 (fun q_1 H hP hD hS => ?_)
  have hP : va_P D vwCl ([(h0, .inr (1, [.int 0, .null, .null, .null])), (q_1, .inr (2, [.int 0, .int 0, .int 0, .int 0, .int 0, .null, .null, .null, .null, .null, .null, .null]))]) H := hP
  have hD : va_D A ([(h0, .inr (1, [.int 0, .null, .null, .null])), (q_1, .inr (2, [.int 0, .int 0, .int 0, .int 0, .int 0, .null, .null, .null, .null, .null, .null, .null]))]) := hD
  refine W.widen (k := 1) (n := 12) (Nat.le_of_ble_eq_true rfl) (Nat.le_of_ble_eq_true rfl) ?_
  refine lv_dup hx hb dX1_init_8 rfl ?_
  refine x_v (wr := [(h0, .inr (1, [.int 0, .null, .null, .null]))]) (va_runIN (As := []) (rest := [.ref q_1, .ref h0]) ⟨hx, hb, hml, hown, hw⟩ (kX2_init l D k sd q_1  H.size) ⟨va_cnB 0 hw (gM wd_69) rfl rfl rfl (hE.1 _ (List.mem_of_getElem? (i := 7) rfl)) (hw _ wd_4) (by decide +kernel) ⟨Nat.le_of_ble_eq_true rfl, Nat.le_of_ble_eq_true rfl⟩, rfl, hw _ wd_68⟩ (pre_S hK hE hX hP hD hS hA [1] (by decide) rfl) rfl rfl hl.1 rfl (lv_room (Nat.le_of_ble_eq_true rfl)) dX1_init_9 ⟨Nat.le_of_ble_eq_true rfl, Nat.le_of_ble_eq_true rfl⟩) hP hD hS hA [1] [0] rfl rfl (by decide) (by decide) (fun u_2 H locs hp_3 hP hD hS => ?_)
  have hP : va_P D vwCl ([(h0, .inr (1, [.int 0, .null, .null, .null]))] ++ G2 k q_1 u_2) H := hP
  have hD : va_D A ([(h0, .inr (1, [.int 0, .null, .null, .null]))] ++ G2 k q_1 u_2) := hD
  refine W.widen (k := 8) (n := 79) (Nat.le_of_ble_eq_true rfl) (Nat.le_of_ble_eq_true rfl) ?_
  refine va_putF (D := D) (ci := 1) (v := .ref q_1) (ty := .object "RaftForest$River") (C := RX1) (T := TX1) (N := 4) hx hb hw inlX1 tyX1 tyX1_ok nmX1 hown hK hP hD hS 0 rfl rfl 1 (by decide) (hw _ wd_407) (fun _ h9 => h9) rfl hin rfl (by decide +kernel) rfl rfl (Nat.le_of_ble_eq_true rfl) dX1_init_12 (fun H locs hP hD hS => ?_)
  have hP : va_P D vwCl ([(h0, .inr (1, [.int 0, .ref q_1, .null, .null]))] ++ G2 k q_1 u_2) H := hP
  have hD : va_D A ([(h0, .inr (1, [.int 0, .ref q_1, .null, .null]))] ++ G2 k q_1 u_2) := hD
  refine lv_aload_n hx hb dX1_init_15 rfl (lv_at hl 0 rfl) ?_
  refine va_new (ci := 6) (fs := [.int 0, .int 0, .int 0, .int 0, .int 0, .int 0, .null, .null, .null, .null, .null, .null, .null, .null, .null]) (C := RX6) (T := TX6) (N := 15) hx hb hw inlX6 tyX6 tyX6_ok hown (hw _ wd_401) (hw _ wd_202) (hw _ wd_8) hK hP hD hS hA rfl (fun j hj => by rcases (show j = 0 ∨ j = 1 ∨ j = 2 ∨ j = 3 ∨ j = 4 ∨ j = 5 ∨ j = 6 ∨ j = 7 ∨ j = 8 ∨ j = 9 ∨ j = 10 ∨ j = 11 ∨ j = 12 ∨ j = 13 ∨ j = 14 by omega) with rfl | rfl | rfl | rfl | rfl | rfl | rfl | rfl | rfl | rfl | rfl | rfl | rfl | rfl | rfl <;> rfl) (Nat.le_of_ble_eq_true rfl) (Nat.le_of_ble_eq_true rfl) dX1_init_16 (fun q_5 H hP hD hS => ?_)
  have hP : va_P D vwCl ([(h0, .inr (1, [.int 0, .ref q_1, .null, .null]))] ++ G2 k q_1 u_2 ++ [(q_5, .inr (6, [.int 0, .int 0, .int 0, .int 0, .int 0, .int 0, .null, .null, .null, .null, .null, .null, .null, .null, .null]))]) H := hP
  have hD : va_D A ([(h0, .inr (1, [.int 0, .ref q_1, .null, .null]))] ++ G2 k q_1 u_2 ++ [(q_5, .inr (6, [.int 0, .int 0, .int 0, .int 0, .int 0, .int 0, .null, .null, .null, .null, .null, .null, .null, .null, .null]))]) := hD
  refine W.widen (k := 9) (n := 94) (Nat.le_of_ble_eq_true rfl) (Nat.le_of_ble_eq_true rfl) ?_
  refine lv_dup hx hb dX1_init_19 rfl ?_
  refine x_v (wr := [(h0, .inr (1, [.int 0, .ref q_1, .null, .null]))] ++ G2 k q_1 u_2) (va_runIN (As := []) (rest := [.ref q_5, .ref h0]) ⟨hx, hb, hml, hown, hw⟩ (kX6_init l D k sd q_5  H.size) ⟨va_cnB 0 hw (gM wd_205) rfl rfl rfl (hE.1 _ (List.mem_of_getElem? (i := 8) rfl)) (hw _ wd_8) (by decide +kernel) ⟨Nat.le_of_ble_eq_true rfl, Nat.le_of_ble_eq_true rfl⟩, rfl, hw _ wd_204⟩ (pre_S hK hE hX hP hD hS hA [9] (by decide) rfl) rfl rfl hl.1 rfl (lv_room (Nat.le_of_ble_eq_true rfl)) dX1_init_20 ⟨Nat.le_of_ble_eq_true rfl, Nat.le_of_ble_eq_true rfl⟩) hP hD hS hA [9] [0, 1, 2, 3, 4, 5, 6, 7, 8] rfl rfl (by decide) (by decide) (fun u_6 H locs hp_7 hP hD hS => ?_)
  have hP : va_P D vwCl ([(h0, .inr (1, [.int 0, .ref q_1, .null, .null]))] ++ G2 k q_1 u_2 ++ G6 k q_5 u_6) H := hP
  have hD : va_D A ([(h0, .inr (1, [.int 0, .ref q_1, .null, .null]))] ++ G2 k q_1 u_2 ++ G6 k q_5 u_6) := hD
  refine W.widen (k := 18) (n := 253) (Nat.le_of_ble_eq_true rfl) (Nat.le_of_ble_eq_true rfl) ?_
  refine va_putF (D := D) (ci := 1) (v := .ref q_5) (ty := .object "RaftForest$State") (C := RX1) (T := TX1) (N := 4) hx hb hw inlX1 tyX1 tyX1_ok nmX1 hown hK hP hD hS 0 rfl rfl 2 (by decide) (hw _ wd_408) (fun _ h9 => h9) rfl hin rfl (by decide +kernel) rfl rfl (Nat.le_of_ble_eq_true rfl) dX1_init_23 (fun H locs hP hD hS => ?_)
  have hP : va_P D vwCl ([(h0, .inr (1, [.int 0, .ref q_1, .ref q_5, .null]))] ++ G2 k q_1 u_2 ++ G6 k q_5 u_6) H := hP
  have hD : va_D A ([(h0, .inr (1, [.int 0, .ref q_1, .ref q_5, .null]))] ++ G2 k q_1 u_2 ++ G6 k q_5 u_6) := hD
  refine lv_aload_n hx hb dX1_init_26 rfl (lv_at hl 0 rfl) ?_
  refine va_new (ci := 0) (fs := [.int 0, .int 0, .null, .null, .int 0, .null, .int 0, .null, .null, .null, .null, .int 0, .null, .null, .null, .null, .null]) (C := RX0) (T := TX0) (N := 17) hx hb hw inlX0 tyX0 tyX0_ok hown (hw _ wd_403) (hw _ wd_284) (hw _ wd_9) hK hP hD hS hA rfl (fun j hj => by rcases (show j = 0 ∨ j = 1 ∨ j = 2 ∨ j = 3 ∨ j = 4 ∨ j = 5 ∨ j = 6 ∨ j = 7 ∨ j = 8 ∨ j = 9 ∨ j = 10 ∨ j = 11 ∨ j = 12 ∨ j = 13 ∨ j = 14 ∨ j = 15 ∨ j = 16 by omega) with rfl | rfl | rfl | rfl | rfl | rfl | rfl | rfl | rfl | rfl | rfl | rfl | rfl | rfl | rfl | rfl | rfl <;> rfl) (Nat.le_of_ble_eq_true rfl) (Nat.le_of_ble_eq_true rfl) dX1_init_27 (fun q_9 H hP hD hS => ?_)
  have hP : va_P D vwCl ([(h0, .inr (1, [.int 0, .ref q_1, .ref q_5, .null]))] ++ G2 k q_1 u_2 ++ G6 k q_5 u_6 ++ [(q_9, .inr (0, [.int 0, .int 0, .null, .null, .int 0, .null, .int 0, .null, .null, .null, .null, .int 0, .null, .null, .null, .null, .null]))]) H := hP
  have hD : va_D A ([(h0, .inr (1, [.int 0, .ref q_1, .ref q_5, .null]))] ++ G2 k q_1 u_2 ++ G6 k q_5 u_6 ++ [(q_9, .inr (0, [.int 0, .int 0, .null, .null, .int 0, .null, .int 0, .null, .null, .null, .null, .int 0, .null, .null, .null, .null, .null]))]) := hD
  refine W.widen (k := 19) (n := 270) (Nat.le_of_ble_eq_true rfl) (Nat.le_of_ble_eq_true rfl) ?_
  refine lv_dup hx hb dX1_init_30 rfl ?_
  refine x_v (wr := [(h0, .inr (1, [.int 0, .ref q_1, .ref q_5, .null]))] ++ G2 k q_1 u_2 ++ G6 k q_5 u_6) (va_runIN (As := []) (rest := [.ref q_9, .ref h0]) ⟨hx, hb, hml, hown, hw⟩ (kX0_init l D k sd q_9  H.size) ⟨va_cnB 0 hw (gM wd_287) rfl rfl rfl (hE.1 _ (List.mem_of_getElem? (i := 9) rfl)) (hw _ wd_9) (by decide +kernel) ⟨Nat.le_of_ble_eq_true rfl, Nat.le_of_ble_eq_true rfl⟩, rfl, hw _ wd_286⟩ (pre_S hK hE hX hP hD hS hA [19] (by decide) rfl) rfl rfl hl.1 rfl (lv_room (Nat.le_of_ble_eq_true rfl)) dX1_init_31 ⟨Nat.le_of_ble_eq_true rfl, Nat.le_of_ble_eq_true rfl⟩) hP hD hS hA [19] [0, 1, 2, 3, 4, 5, 6, 7, 8, 9, 10, 11, 12, 13, 14, 15, 16, 17, 18] rfl rfl (by decide) (by decide) (fun u_10 H locs hp_11 hP hD hS => ?_)
  have hP : va_P D vwCl ([(h0, .inr (1, [.int 0, .ref q_1, .ref q_5, .null]))] ++ G2 k q_1 u_2 ++ G6 k q_5 u_6 ++ G0 k q_9 u_10) H := hP
  have hD : va_D A ([(h0, .inr (1, [.int 0, .ref q_1, .ref q_5, .null]))] ++ G2 k q_1 u_2 ++ G6 k q_5 u_6 ++ G0 k q_9 u_10) := hD
  refine W.widen (k := 31) (n := 820) (Nat.le_of_ble_eq_true rfl) (Nat.le_of_ble_eq_true rfl) ?_
  refine va_putF (D := D) (ci := 1) (v := .ref q_9) (ty := .object "RaftForest$Books") (C := RX1) (T := TX1) (N := 4) hx hb hw inlX1 tyX1 tyX1_ok nmX1 hown hK hP hD hS 0 rfl rfl 3 (by decide) (hw _ wd_409) (fun _ h9 => h9) rfl hin rfl (by decide +kernel) rfl rfl (Nat.le_of_ble_eq_true rfl) dX1_init_34 (fun H locs hP hD hS => ?_)
  have hP : va_P D vwCl ([(h0, .inr (1, [.int 0, .ref q_1, .ref q_5, .ref q_9]))] ++ G2 k q_1 u_2 ++ G6 k q_5 u_6 ++ G0 k q_9 u_10) H := hP
  have hD : va_D A ([(h0, .inr (1, [.int 0, .ref q_1, .ref q_5, .ref q_9]))] ++ G2 k q_1 u_2 ++ G6 k q_5 u_6 ++ G0 k q_9 u_10) := hD
  refine W.widen (k := 31) (n := 820) (Nat.le_of_ble_eq_true rfl) (Nat.le_of_ble_eq_true rfl) ?_
  have hP9 : va_P D vwCl ((fun u => G1 k h0 u) (xu [q_1, u_2 0, u_2 1, u_2 2, u_2 3, u_2 4, u_2 5, u_2 6, q_5, u_6 0, u_6 1, u_6 2, u_6 3, u_6 4, u_6 5, u_6 6, u_6 7, u_6 8, q_9, u_10 0, u_10 1, u_10 2, u_10 3, u_10 4, u_10 5, u_10 6, u_10 7, u_10 8, u_10 9, u_10 10, u_10 11])) H := hP.sub [0, 1, 2, 3, 4, 5, 6, 7, 8, 9, 10, 11, 12, 13, 14, 15, 16, 17, 18, 19, 20, 21, 22, 23, 24, 25, 26, 27, 28, 29, 30, 31] rfl
  have hD9 : va_D A ((fun u => G1 k h0 u) (xu [q_1, u_2 0, u_2 1, u_2 2, u_2 3, u_2 4, u_2 5, u_2 6, q_5, u_6 0, u_6 1, u_6 2, u_6 3, u_6 4, u_6 5, u_6 6, u_6 7, u_6 8, q_9, u_10 0, u_10 1, u_10 2, u_10 3, u_10 4, u_10 5, u_10 6, u_10 7, u_10 8, u_10 9, u_10 10, u_10 11])) := hD.sub [0, 1, 2, 3, 4, 5, 6, 7, 8, 9, 10, 11, 12, 13, 14, 15, 16, 17, 18, 19, 20, 21, 22, 23, 24, 25, 26, 27, 28, 29, 30, 31] (by decide) rfl
  exact W.vret hx hb hr (fun t ht hW => ⟨⟨(xu [q_1, u_2 0, u_2 1, u_2 2, u_2 3, u_2 4, u_2 5, u_2 6, q_5, u_6 0, u_6 1, u_6 2, u_6 3, u_6 4, u_6 5, u_6 6, u_6 7, u_6 8, q_9, u_10 0, u_10 1, u_10 2, u_10 3, u_10 4, u_10 5, u_10 6, u_10 7, u_10 8, u_10 9, u_10 10, u_10 11]), rfl, trivial, by rw [ht]; exact hP9, hD9⟩, hS.F ht⟩) hS.2.2 dX1_init_37
