set_option maxHeartbeats 4000000 in
set_option maxRecDepth 100000 in
theorem kX7_append_0 (l : Launch) (D : va_G) (k : Nat → ClassId) (sd : Nat → Nat) (h : Nat) (a : Nat) (f : Nat → Int32) (p0 : Int32) (sz : Nat) : Met l yX7_append (wB yX7_append cX7_append 3 none) ({ frames := 0, cells := 0, slots := 0, locals := 0 }) (va_Pc [.ref h, .int p0] (PRE D k sd ([(h, .inr (7, [.ref a, .int 0, .int 0, .int 0, .int 0, .int 0])), (a, .inl (k 0, 400, .inl (f)))]) sz)) (va_Qv (S := Nat → Int32) (fun _ => True) (fun u t => PO D (va_A ([(h, .inr (7, [.ref a, .int 0, .int 0, .int 0, .int 0, .int 0])), (a, .inl (k 0, 400, .inl (f)))]) sz) ((fun u => [(h, .inr (7, [.ref a, .int 4, .int 0, .int 0, .int 0, .int 0])), (a, .inl (k 0, 400, .inl (u)))]) u) t) (va_A ([(h, .inr (7, [.ref a, .int 0, .int 0, .int 0, .int 0, .int 0])), (a, .inl (k 0, 400, .inl (f)))]) sz)) 0 0 (va_A ([(h, .inr (7, [.ref a, .int 0, .int 0, .int 0, .int 0, .int 0])), (a, .inl (k 0, 400, .inl (f)))]) sz) := by
  refine Met.ofW (cc := cX7_append) (maxL := 3) (ret := none) (by decide) rfl ?_
  intro p e s m args below meth c s₁ B hml hv
  obtain ⟨rfl, hsz, hP, hK, hD0, hE, hX⟩ := hv
  have hx := B.exec
  have hb := B.bytes
  have hr := B.returns
  have hw : ∀ w ∈ wsB, w.before _ s = true := fun w h => atoms_spec (ws := wB yX7_append cX7_append 3 none) B.pre w (List.mem_cons_of_mem _ h)
  have hown : s.vm.findClass RX7 = some m.cls := findClass_of_methodNamed B.named
  have hlocks := B.notSynchronized
  subst hsz
  have hD := hD0.self (sz := s.heap.size)
  generalize hAe : va_A ([(h, .inr (7, [.ref a, .int 0, .int 0, .int 0, .int 0, .int 0])), (a, .inl (k 0, 400, .inl (f)))]) s.heap.size = A at hD hX ⊢
  have hA : ∀ q : Nat, s.heap.size ≤ q → A q := fun q h => by rw [← hAe]; exact Or.inr h
  have hS : va_S A s.heap s.heap [] := va_S.rf
  have hl := lv_entry ([.ref h, .int p0]) (n := 3) (Nat.le_of_ble_eq_true rfl)
  rw [lg_entry_eq]
  generalize (lg_sl ([.ref h, .int p0]) ++ List.replicate (3 - (lg_sl ([.ref h, .int p0])).length) Slot.unset).toArray = ls at hl ⊢
  have hl : lv_has ls 3 [(0, .ref h), (1, .int p0)] := hl
  refine lv_bipush (v := 24) hx hb dX7_append_0 (by decide) ?_
  refine lv_istore_n (lv' := [(2, .int 24), (0, .ref h), (1, .int p0)]) hx hb dX7_append_2 rfl hl (by decide) rfl (fun ls hl => ?_)
  refine lv_iload_n hx hb dX7_append_3 rfl (lv_at hl 0 rfl) ?_
  refine lv_if_lt (tgt := 49) hx hb dX7_append_4 (by decide) (fun h => absurd h (by decide)) (fun _ => ?_)
  refine lv_aload_n hx hb dX7_append_7 rfl (lv_at hl 1 rfl) ?_
  refine va_get (D := D) (ci := 7) (v := .int 0) (C := RX7) (T := TX7) (N := 6) hx hb hw inlX7 hown hK hP 0 rfl rfl 1 (by decide) (hw _ wd_36) (fun _ h9 => h9) rfl dX7_append_8 ?_
  refine lv_sipush (v := 400) hx hb dX7_append_11 (by decide) ?_
  refine lv_icmp_ge (tgt := 49) hx hb dX7_append_14 (by decide) (fun h => absurd h (by decide)) (fun _ => ?_)
  refine lv_aload_n hx hb dX7_append_17 rfl (lv_at hl 1 rfl) ?_
  refine va_get (D := D) (ci := 7) (v := .ref a) (C := RX7) (T := TX7) (N := 6) hx hb hw inlX7 hown hK hP 0 rfl rfl 0 (by decide) (hw _ wd_34) (fun _ h9 => h9) rfl dX7_append_18 ?_
  refine lv_aload_n hx hb dX7_append_21 rfl (lv_at hl 1 rfl) ?_
  refine va_get (D := D) (ci := 7) (v := .int 0) (C := RX7) (T := TX7) (N := 6) hx hb hw inlX7 hown hK hP 0 rfl rfl 1 (by decide) (hw _ wd_36) (fun _ h9 => h9) rfl dX7_append_22 ?_
  refine lv_iload_n hx hb dX7_append_25 rfl (lv_at hl 2 rfl) ?_
  refine lv_iload_n hx hb dX7_append_26 rfl (lv_at hl 0 rfl) ?_
  refine lv_iushr hx hb dX7_append_27 rfl ?_
  refine lv_topi (fun z_2 ez_2 => ?_)
  refine lv_sipush (v := 255) hx hb dX7_append_28 (by decide) ?_
  refine lv_iand hx hb dX7_append_31 ?_
  refine lv_topi (fun z_3 ez_3 => ?_)
  refine va_iast hx hb hK hP hD hS 1 0 rfl rfl (i := 0) (by unfold vp_in; decide) dX7_append_32 (fun H locs hP hD hS => ?_)
  have hP : va_P D vwCl ([(h, .inr (7, [.ref a, .int 0, .int 0, .int 0, .int 0, .int 0])), (a, .inl (k 0, 400, .inl (upd (f) 0 z_3)))]) H := hP
  have hD : va_D A ([(h, .inr (7, [.ref a, .int 0, .int 0, .int 0, .int 0, .int 0])), (a, .inl (k 0, 400, .inl (upd (f) 0 z_3)))]) := hD
  refine lv_aload_n hx hb dX7_append_33 rfl (lv_at hl 1 rfl) ?_
  refine lv_dup hx hb dX7_append_34 rfl ?_
  refine va_get (D := D) (ci := 7) (v := .int 0) (C := RX7) (T := TX7) (N := 6) hx hb hw inlX7 hown hK hP 0 rfl rfl 1 (by decide) (hw _ wd_36) (fun _ h9 => h9) rfl dX7_append_35 ?_
  refine lv_iconst (v := 1) hx hb dX7_append_38 (by decide) ?_
  refine lv_iadd hx hb dX7_append_39 ?_
  refine x_top (v := 1) (by decide) ?_
  refine va_put (D := D) (ci := 7) (v := .int 1) (ty := .int) (C := RX7) (T := TX7) (N := 6) hx hb hw inlX7 tyX7 tyX7_ok nmX7 hown hK hP hD hS 0 rfl rfl 1 (by decide) (hw _ wd_36) (fun _ h9 => h9) rfl (by decide +kernel) rfl rfl (Nat.le_of_ble_eq_true rfl) dX7_append_40 (fun H locs hP hD hS => ?_)
  have hP : va_P D vwCl ([(h, .inr (7, [.ref a, .int 1, .int 0, .int 0, .int 0, .int 0])), (a, .inl (k 0, 400, .inl (upd (f) 0 z_3)))]) H := hP
  have hD : va_D A ([(h, .inr (7, [.ref a, .int 1, .int 0, .int 0, .int 0, .int 0])), (a, .inl (k 0, 400, .inl (upd (f) 0 z_3)))]) := hD
  refine lv_iinc (v := 16) (lv' := [(2, .int 16), (0, .ref h), (1, .int p0)]) hx hb dX7_append_43 hl (k := 0) rfl (by decide) (by decide) rfl (fun ls hl => ?_)
  refine lv_goto (tgt := 3) hx hb dX7_append_46 (by decide) ?_
  refine lv_iload_n hx hb dX7_append_3 rfl (lv_at hl 0 rfl) ?_
  refine lv_if_lt (tgt := 49) hx hb dX7_append_4 (by decide) (fun h => absurd h (by decide)) (fun _ => ?_)
  refine lv_aload_n hx hb dX7_append_7 rfl (lv_at hl 1 rfl) ?_
  refine va_get (D := D) (ci := 7) (v := .int 1) (C := RX7) (T := TX7) (N := 6) hx hb hw inlX7 hown hK hP 0 rfl rfl 1 (by decide) (hw _ wd_36) (fun _ h9 => h9) rfl dX7_append_8 ?_
  refine lv_sipush (v := 400) hx hb dX7_append_11 (by decide) ?_
  refine lv_icmp_ge (tgt := 49) hx hb dX7_append_14 (by decide) (fun h => absurd h (by decide)) (fun _ => ?_)
  refine lv_aload_n hx hb dX7_append_17 rfl (lv_at hl 1 rfl) ?_
  refine va_get (D := D) (ci := 7) (v := .ref a) (C := RX7) (T := TX7) (N := 6) hx hb hw inlX7 hown hK hP 0 rfl rfl 0 (by decide) (hw _ wd_34) (fun _ h9 => h9) rfl dX7_append_18 ?_
  refine lv_aload_n hx hb dX7_append_21 rfl (lv_at hl 1 rfl) ?_
  refine va_get (D := D) (ci := 7) (v := .int 1) (C := RX7) (T := TX7) (N := 6) hx hb hw inlX7 hown hK hP 0 rfl rfl 1 (by decide) (hw _ wd_36) (fun _ h9 => h9) rfl dX7_append_22 ?_
  refine lv_iload_n hx hb dX7_append_25 rfl (lv_at hl 2 rfl) ?_
  refine lv_iload_n hx hb dX7_append_26 rfl (lv_at hl 0 rfl) ?_
  refine lv_iushr hx hb dX7_append_27 rfl ?_
  refine lv_topi (fun z_5 ez_5 => ?_)
  refine lv_sipush (v := 255) hx hb dX7_append_28 (by decide) ?_
  refine lv_iand hx hb dX7_append_31 ?_
  refine lv_topi (fun z_6 ez_6 => ?_)
  refine va_iast hx hb hK hP hD hS 1 0 rfl rfl (i := 1) (by unfold vp_in; decide) dX7_append_32 (fun H locs hP hD hS => ?_)
  have hP : va_P D vwCl ([(h, .inr (7, [.ref a, .int 1, .int 0, .int 0, .int 0, .int 0])), (a, .inl (k 0, 400, .inl (upd (upd (f) 0 z_3) 1 z_6)))]) H := hP
  have hD : va_D A ([(h, .inr (7, [.ref a, .int 1, .int 0, .int 0, .int 0, .int 0])), (a, .inl (k 0, 400, .inl (upd (upd (f) 0 z_3) 1 z_6)))]) := hD
  refine lv_aload_n hx hb dX7_append_33 rfl (lv_at hl 1 rfl) ?_
  refine lv_dup hx hb dX7_append_34 rfl ?_
  refine va_get (D := D) (ci := 7) (v := .int 1) (C := RX7) (T := TX7) (N := 6) hx hb hw inlX7 hown hK hP 0 rfl rfl 1 (by decide) (hw _ wd_36) (fun _ h9 => h9) rfl dX7_append_35 ?_
  refine lv_iconst (v := 1) hx hb dX7_append_38 (by decide) ?_
  refine lv_iadd hx hb dX7_append_39 ?_
  refine x_top (v := 2) (by decide) ?_
  refine va_put (D := D) (ci := 7) (v := .int 2) (ty := .int) (C := RX7) (T := TX7) (N := 6) hx hb hw inlX7 tyX7 tyX7_ok nmX7 hown hK hP hD hS 0 rfl rfl 1 (by decide) (hw _ wd_36) (fun _ h9 => h9) rfl (by decide +kernel) rfl rfl (Nat.le_of_ble_eq_true rfl) dX7_append_40 (fun H locs hP hD hS => ?_)
  have hP : va_P D vwCl ([(h, .inr (7, [.ref a, .int 2, .int 0, .int 0, .int 0, .int 0])), (a, .inl (k 0, 400, .inl (upd (upd (f) 0 z_3) 1 z_6)))]) H := hP
  have hD : va_D A ([(h, .inr (7, [.ref a, .int 2, .int 0, .int 0, .int 0, .int 0])), (a, .inl (k 0, 400, .inl (upd (upd (f) 0 z_3) 1 z_6)))]) := hD
  refine lv_iinc (v := 8) (lv' := [(2, .int 8), (0, .ref h), (1, .int p0)]) hx hb dX7_append_43 hl (k := 0) rfl (by decide) (by decide) rfl (fun ls hl => ?_)
  refine lv_goto (tgt := 3) hx hb dX7_append_46 (by decide) ?_
  refine lv_iload_n hx hb dX7_append_3 rfl (lv_at hl 0 rfl) ?_
  refine lv_if_lt (tgt := 49) hx hb dX7_append_4 (by decide) (fun h => absurd h (by decide)) (fun _ => ?_)
  refine lv_aload_n hx hb dX7_append_7 rfl (lv_at hl 1 rfl) ?_
  refine va_get (D := D) (ci := 7) (v := .int 2) (C := RX7) (T := TX7) (N := 6) hx hb hw inlX7 hown hK hP 0 rfl rfl 1 (by decide) (hw _ wd_36) (fun _ h9 => h9) rfl dX7_append_8 ?_
  refine lv_sipush (v := 400) hx hb dX7_append_11 (by decide) ?_
  refine lv_icmp_ge (tgt := 49) hx hb dX7_append_14 (by decide) (fun h => absurd h (by decide)) (fun _ => ?_)
  refine lv_aload_n hx hb dX7_append_17 rfl (lv_at hl 1 rfl) ?_
  refine va_get (D := D) (ci := 7) (v := .ref a) (C := RX7) (T := TX7) (N := 6) hx hb hw inlX7 hown hK hP 0 rfl rfl 0 (by decide) (hw _ wd_34) (fun _ h9 => h9) rfl dX7_append_18 ?_
  refine lv_aload_n hx hb dX7_append_21 rfl (lv_at hl 1 rfl) ?_
  refine va_get (D := D) (ci := 7) (v := .int 2) (C := RX7) (T := TX7) (N := 6) hx hb hw inlX7 hown hK hP 0 rfl rfl 1 (by decide) (hw _ wd_36) (fun _ h9 => h9) rfl dX7_append_22 ?_
  refine lv_iload_n hx hb dX7_append_25 rfl (lv_at hl 2 rfl) ?_
  refine lv_iload_n hx hb dX7_append_26 rfl (lv_at hl 0 rfl) ?_
  refine lv_iushr hx hb dX7_append_27 rfl ?_
  refine lv_topi (fun z_8 ez_8 => ?_)
  refine lv_sipush (v := 255) hx hb dX7_append_28 (by decide) ?_
  refine lv_iand hx hb dX7_append_31 ?_
  refine lv_topi (fun z_9 ez_9 => ?_)
  refine va_iast hx hb hK hP hD hS 1 0 rfl rfl (i := 2) (by unfold vp_in; decide) dX7_append_32 (fun H locs hP hD hS => ?_)
  have hP : va_P D vwCl ([(h, .inr (7, [.ref a, .int 2, .int 0, .int 0, .int 0, .int 0])), (a, .inl (k 0, 400, .inl (upd (upd (upd (f) 0 z_3) 1 z_6) 2 z_9)))]) H := hP
  have hD : va_D A ([(h, .inr (7, [.ref a, .int 2, .int 0, .int 0, .int 0, .int 0])), (a, .inl (k 0, 400, .inl (upd (upd (upd (f) 0 z_3) 1 z_6) 2 z_9)))]) := hD
  refine lv_aload_n hx hb dX7_append_33 rfl (lv_at hl 1 rfl) ?_
  refine lv_dup hx hb dX7_append_34 rfl ?_
  refine va_get (D := D) (ci := 7) (v := .int 2) (C := RX7) (T := TX7) (N := 6) hx hb hw inlX7 hown hK hP 0 rfl rfl 1 (by decide) (hw _ wd_36) (fun _ h9 => h9) rfl dX7_append_35 ?_
  refine lv_iconst (v := 1) hx hb dX7_append_38 (by decide) ?_
  refine lv_iadd hx hb dX7_append_39 ?_
  refine x_top (v := 3) (by decide) ?_
  refine va_put (D := D) (ci := 7) (v := .int 3) (ty := .int) (C := RX7) (T := TX7) (N := 6) hx hb hw inlX7 tyX7 tyX7_ok nmX7 hown hK hP hD hS 0 rfl rfl 1 (by decide) (hw _ wd_36) (fun _ h9 => h9) rfl (by decide +kernel) rfl rfl (Nat.le_of_ble_eq_true rfl) dX7_append_40 (fun H locs hP hD hS => ?_)
  have hP : va_P D vwCl ([(h, .inr (7, [.ref a, .int 3, .int 0, .int 0, .int 0, .int 0])), (a, .inl (k 0, 400, .inl (upd (upd (upd (f) 0 z_3) 1 z_6) 2 z_9)))]) H := hP
  have hD : va_D A ([(h, .inr (7, [.ref a, .int 3, .int 0, .int 0, .int 0, .int 0])), (a, .inl (k 0, 400, .inl (upd (upd (upd (f) 0 z_3) 1 z_6) 2 z_9)))]) := hD
  refine lv_iinc (v := 0) (lv' := [(2, .int 0), (0, .ref h), (1, .int p0)]) hx hb dX7_append_43 hl (k := 0) rfl (by decide) (by decide) rfl (fun ls hl => ?_)
  refine lv_goto (tgt := 3) hx hb dX7_append_46 (by decide) ?_
  refine lv_iload_n hx hb dX7_append_3 rfl (lv_at hl 0 rfl) ?_
  refine lv_if_lt (tgt := 49) hx hb dX7_append_4 (by decide) (fun h => absurd h (by decide)) (fun _ => ?_)
  refine lv_aload_n hx hb dX7_append_7 rfl (lv_at hl 1 rfl) ?_
  refine va_get (D := D) (ci := 7) (v := .int 3) (C := RX7) (T := TX7) (N := 6) hx hb hw inlX7 hown hK hP 0 rfl rfl 1 (by decide) (hw _ wd_36) (fun _ h9 => h9) rfl dX7_append_8 ?_
  refine lv_sipush (v := 400) hx hb dX7_append_11 (by decide) ?_
  refine lv_icmp_ge (tgt := 49) hx hb dX7_append_14 (by decide) (fun h => absurd h (by decide)) (fun _ => ?_)
  refine lv_aload_n hx hb dX7_append_17 rfl (lv_at hl 1 rfl) ?_
  refine va_get (D := D) (ci := 7) (v := .ref a) (C := RX7) (T := TX7) (N := 6) hx hb hw inlX7 hown hK hP 0 rfl rfl 0 (by decide) (hw _ wd_34) (fun _ h9 => h9) rfl dX7_append_18 ?_
  refine lv_aload_n hx hb dX7_append_21 rfl (lv_at hl 1 rfl) ?_
  refine va_get (D := D) (ci := 7) (v := .int 3) (C := RX7) (T := TX7) (N := 6) hx hb hw inlX7 hown hK hP 0 rfl rfl 1 (by decide) (hw _ wd_36) (fun _ h9 => h9) rfl dX7_append_22 ?_
  refine lv_iload_n hx hb dX7_append_25 rfl (lv_at hl 2 rfl) ?_
  refine lv_iload_n hx hb dX7_append_26 rfl (lv_at hl 0 rfl) ?_
  refine lv_iushr hx hb dX7_append_27 rfl ?_
  refine lv_topi (fun z_11 ez_11 => ?_)
  refine lv_sipush (v := 255) hx hb dX7_append_28 (by decide) ?_
  refine lv_iand hx hb dX7_append_31 ?_
  refine lv_topi (fun z_12 ez_12 => ?_)
  refine va_iast hx hb hK hP hD hS 1 0 rfl rfl (i := 3) (by unfold vp_in; decide) dX7_append_32 (fun H locs hP hD hS => ?_)
  have hP : va_P D vwCl ([(h, .inr (7, [.ref a, .int 3, .int 0, .int 0, .int 0, .int 0])), (a, .inl (k 0, 400, .inl (upd (upd (upd (upd (f) 0 z_3) 1 z_6) 2 z_9) 3 z_12)))]) H := hP
  have hD : va_D A ([(h, .inr (7, [.ref a, .int 3, .int 0, .int 0, .int 0, .int 0])), (a, .inl (k 0, 400, .inl (upd (upd (upd (upd (f) 0 z_3) 1 z_6) 2 z_9) 3 z_12)))]) := hD
  refine lv_aload_n hx hb dX7_append_33 rfl (lv_at hl 1 rfl) ?_
  refine lv_dup hx hb dX7_append_34 rfl ?_
  refine va_get (D := D) (ci := 7) (v := .int 3) (C := RX7) (T := TX7) (N := 6) hx hb hw inlX7 hown hK hP 0 rfl rfl 1 (by decide) (hw _ wd_36) (fun _ h9 => h9) rfl dX7_append_35 ?_
  refine lv_iconst (v := 1) hx hb dX7_append_38 (by decide) ?_
  refine lv_iadd hx hb dX7_append_39 ?_
  refine x_top (v := 4) (by decide) ?_
  refine va_put (D := D) (ci := 7) (v := .int 4) (ty := .int) (C := RX7) (T := TX7) (N := 6) hx hb hw inlX7 tyX7 tyX7_ok nmX7 hown hK hP hD hS 0 rfl rfl 1 (by decide) (hw _ wd_36) (fun _ h9 => h9) rfl (by decide +kernel) rfl rfl (Nat.le_of_ble_eq_true rfl) dX7_append_40 (fun H locs hP hD hS => ?_)
  have hP : va_P D vwCl ([(h, .inr (7, [.ref a, .int 4, .int 0, .int 0, .int 0, .int 0])), (a, .inl (k 0, 400, .inl (upd (upd (upd (upd (f) 0 z_3) 1 z_6) 2 z_9) 3 z_12)))]) H := hP
  have hD : va_D A ([(h, .inr (7, [.ref a, .int 4, .int 0, .int 0, .int 0, .int 0])), (a, .inl (k 0, 400, .inl (upd (upd (upd (upd (f) 0 z_3) 1 z_6) 2 z_9) 3 z_12)))]) := hD
  refine lv_iinc (v := (-8)) (lv' := [(2, .int (-8)), (0, .ref h), (1, .int p0)]) hx hb dX7_append_43 hl (k := 0) rfl (by decide) (by decide) rfl (fun ls hl => ?_)
  refine lv_goto (tgt := 3) hx hb dX7_append_46 (by decide) ?_
  refine lv_iload_n hx hb dX7_append_3 rfl (lv_at hl 0 rfl) ?_
  refine lv_if_lt (tgt := 49) hx hb dX7_append_4 (by decide) (fun _ => ?_) (fun h => absurd (by decide) h)
  refine W.widen (k := 0) (n := 0) (Nat.le_of_ble_eq_true rfl) (Nat.le_of_ble_eq_true rfl) ?_
  have hP9 : va_P D vwCl ((fun u => [(h, .inr (7, [.ref a, .int 4, .int 0, .int 0, .int 0, .int 0])), (a, .inl (k 0, 400, .inl (u)))]) (upd (upd (upd (upd (f) 0 z_3) 1 z_6) 2 z_9) 3 z_12)) H := hP.sub [0, 1] rfl
  have hD9 : va_D A ((fun u => [(h, .inr (7, [.ref a, .int 4, .int 0, .int 0, .int 0, .int 0])), (a, .inl (k 0, 400, .inl (u)))]) (upd (upd (upd (upd (f) 0 z_3) 1 z_6) 2 z_9) 3 z_12)) := hD.sub [0, 1] (by decide) rfl
  exact W.vret hx hb hr (fun t ht hW => ⟨⟨(upd (upd (upd (upd (f) 0 z_3) 1 z_6) 2 z_9) 3 z_12), rfl, trivial, by rw [ht]; exact hP9, hD9⟩, hS.F ht⟩) hS.2.2 dX7_append_49

set_option maxHeartbeats 4000000 in
set_option maxRecDepth 100000 in
theorem kX7_append_4 (l : Launch) (D : va_G) (k : Nat → ClassId) (sd : Nat → Nat) (h : Nat) (a : Nat) (f : Nat → Int32) (p0 : Int32) (sz : Nat) : Met l yX7_append (wB yX7_append cX7_append 3 none) ({ frames := 0, cells := 0, slots := 0, locals := 0 }) (va_Pc [.ref h, .int p0] (PRE D k sd ([(h, .inr (7, [.ref a, .int 4, .int 0, .int 0, .int 0, .int 0])), (a, .inl (k 0, 400, .inl (f)))]) sz)) (va_Qv (S := Nat → Int32) (fun _ => True) (fun u t => PO D (va_A ([(h, .inr (7, [.ref a, .int 4, .int 0, .int 0, .int 0, .int 0])), (a, .inl (k 0, 400, .inl (f)))]) sz) ((fun u => [(h, .inr (7, [.ref a, .int 8, .int 0, .int 0, .int 0, .int 0])), (a, .inl (k 0, 400, .inl (u)))]) u) t) (va_A ([(h, .inr (7, [.ref a, .int 4, .int 0, .int 0, .int 0, .int 0])), (a, .inl (k 0, 400, .inl (f)))]) sz)) 0 0 (va_A ([(h, .inr (7, [.ref a, .int 4, .int 0, .int 0, .int 0, .int 0])), (a, .inl (k 0, 400, .inl (f)))]) sz) := by
  refine Met.ofW (cc := cX7_append) (maxL := 3) (ret := none) (by decide) rfl ?_
  intro p e s m args below meth c s₁ B hml hv
  obtain ⟨rfl, hsz, hP, hK, hD0, hE, hX⟩ := hv
  have hx := B.exec
  have hb := B.bytes
  have hr := B.returns
  have hw : ∀ w ∈ wsB, w.before _ s = true := fun w h => atoms_spec (ws := wB yX7_append cX7_append 3 none) B.pre w (List.mem_cons_of_mem _ h)
  have hown : s.vm.findClass RX7 = some m.cls := findClass_of_methodNamed B.named
  have hlocks := B.notSynchronized
  subst hsz
  have hD := hD0.self (sz := s.heap.size)
  generalize hAe : va_A ([(h, .inr (7, [.ref a, .int 4, .int 0, .int 0, .int 0, .int 0])), (a, .inl (k 0, 400, .inl (f)))]) s.heap.size = A at hD hX ⊢
  have hA : ∀ q : Nat, s.heap.size ≤ q → A q := fun q h => by rw [← hAe]; exact Or.inr h
  have hS : va_S A s.heap s.heap [] := va_S.rf
  have hl := lv_entry ([.ref h, .int p0]) (n := 3) (Nat.le_of_ble_eq_true rfl)
  rw [lg_entry_eq]
  generalize (lg_sl ([.ref h, .int p0]) ++ List.replicate (3 - (lg_sl ([.ref h, .int p0])).length) Slot.unset).toArray = ls at hl ⊢
  have hl : lv_has ls 3 [(0, .ref h), (1, .int p0)] := hl
  refine lv_bipush (v := 24) hx hb dX7_append_0 (by decide) ?_
  refine lv_istore_n (lv' := [(2, .int 24), (0, .ref h), (1, .int p0)]) hx hb dX7_append_2 rfl hl (by decide) rfl (fun ls hl => ?_)
  refine lv_iload_n hx hb dX7_append_3 rfl (lv_at hl 0 rfl) ?_
  refine lv_if_lt (tgt := 49) hx hb dX7_append_4 (by decide) (fun h => absurd h (by decide)) (fun _ => ?_)
  refine lv_aload_n hx hb dX7_append_7 rfl (lv_at hl 1 rfl) ?_
  refine va_get (D := D) (ci := 7) (v := .int 4) (C := RX7) (T := TX7) (N := 6) hx hb hw inlX7 hown hK hP 0 rfl rfl 1 (by decide) (hw _ wd_36) (fun _ h9 => h9) rfl dX7_append_8 ?_
  refine lv_sipush (v := 400) hx hb dX7_append_11 (by decide) ?_
  refine lv_icmp_ge (tgt := 49) hx hb dX7_append_14 (by decide) (fun h => absurd h (by decide)) (fun _ => ?_)
  refine lv_aload_n hx hb dX7_append_17 rfl (lv_at hl 1 rfl) ?_
  refine va_get (D := D) (ci := 7) (v := .ref a) (C := RX7) (T := TX7) (N := 6) hx hb hw inlX7 hown hK hP 0 rfl rfl 0 (by decide) (hw _ wd_34) (fun _ h9 => h9) rfl dX7_append_18 ?_
  refine lv_aload_n hx hb dX7_append_21 rfl (lv_at hl 1 rfl) ?_
  refine va_get (D := D) (ci := 7) (v := .int 4) (C := RX7) (T := TX7) (N := 6) hx hb hw inlX7 hown hK hP 0 rfl rfl 1 (by decide) (hw _ wd_36) (fun _ h9 => h9) rfl dX7_append_22 ?_
  refine lv_iload_n hx hb dX7_append_25 rfl (lv_at hl 2 rfl) ?_
  refine lv_iload_n hx hb dX7_append_26 rfl (lv_at hl 0 rfl) ?_
  refine lv_iushr hx hb dX7_append_27 rfl ?_
  refine lv_topi (fun z_2 ez_2 => ?_)
  refine lv_sipush (v := 255) hx hb dX7_append_28 (by decide) ?_
  refine lv_iand hx hb dX7_append_31 ?_
  refine lv_topi (fun z_3 ez_3 => ?_)
  refine va_iast hx hb hK hP hD hS 1 0 rfl rfl (i := 4) (by unfold vp_in; decide) dX7_append_32 (fun H locs hP hD hS => ?_)
  have hP : va_P D vwCl ([(h, .inr (7, [.ref a, .int 4, .int 0, .int 0, .int 0, .int 0])), (a, .inl (k 0, 400, .inl (upd (f) 4 z_3)))]) H := hP
  have hD : va_D A ([(h, .inr (7, [.ref a, .int 4, .int 0, .int 0, .int 0, .int 0])), (a, .inl (k 0, 400, .inl (upd (f) 4 z_3)))]) := hD
  refine lv_aload_n hx hb dX7_append_33 rfl (lv_at hl 1 rfl) ?_
  refine lv_dup hx hb dX7_append_34 rfl ?_
  refine va_get (D := D) (ci := 7) (v := .int 4) (C := RX7) (T := TX7) (N := 6) hx hb hw inlX7 hown hK hP 0 rfl rfl 1 (by decide) (hw _ wd_36) (fun _ h9 => h9) rfl dX7_append_35 ?_
  refine lv_iconst (v := 1) hx hb dX7_append_38 (by decide) ?_
  refine lv_iadd hx hb dX7_append_39 ?_
  refine x_top (v := 5) (by decide) ?_
  refine va_put (D := D) (ci := 7) (v := .int 5) (ty := .int) (C := RX7) (T := TX7) (N := 6) hx hb hw inlX7 tyX7 tyX7_ok nmX7 hown hK hP hD hS 0 rfl rfl 1 (by decide) (hw _ wd_36) (fun _ h9 => h9) rfl (by decide +kernel) rfl rfl (Nat.le_of_ble_eq_true rfl) dX7_append_40 (fun H locs hP hD hS => ?_)
  have hP : va_P D vwCl ([(h, .inr (7, [.ref a, .int 5, .int 0, .int 0, .int 0, .int 0])), (a, .inl (k 0, 400, .inl (upd (f) 4 z_3)))]) H := hP
  have hD : va_D A ([(h, .inr (7, [.ref a, .int 5, .int 0, .int 0, .int 0, .int 0])), (a, .inl (k 0, 400, .inl (upd (f) 4 z_3)))]) := hD
  refine lv_iinc (v := 16) (lv' := [(2, .int 16), (0, .ref h), (1, .int p0)]) hx hb dX7_append_43 hl (k := 0) rfl (by decide) (by decide) rfl (fun ls hl => ?_)
  refine lv_goto (tgt := 3) hx hb dX7_append_46 (by decide) ?_
  refine lv_iload_n hx hb dX7_append_3 rfl (lv_at hl 0 rfl) ?_
  refine lv_if_lt (tgt := 49) hx hb dX7_append_4 (by decide) (fun h => absurd h (by decide)) (fun _ => ?_)
  refine lv_aload_n hx hb dX7_append_7 rfl (lv_at hl 1 rfl) ?_
  refine va_get (D := D) (ci := 7) (v := .int 5) (C := RX7) (T := TX7) (N := 6) hx hb hw inlX7 hown hK hP 0 rfl rfl 1 (by decide) (hw _ wd_36) (fun _ h9 => h9) rfl dX7_append_8 ?_
  refine lv_sipush (v := 400) hx hb dX7_append_11 (by decide) ?_
  refine lv_icmp_ge (tgt := 49) hx hb dX7_append_14 (by decide) (fun h => absurd h (by decide)) (fun _ => ?_)
  refine lv_aload_n hx hb dX7_append_17 rfl (lv_at hl 1 rfl) ?_
  refine va_get (D := D) (ci := 7) (v := .ref a) (C := RX7) (T := TX7) (N := 6) hx hb hw inlX7 hown hK hP 0 rfl rfl 0 (by decide) (hw _ wd_34) (fun _ h9 => h9) rfl dX7_append_18 ?_
  refine lv_aload_n hx hb dX7_append_21 rfl (lv_at hl 1 rfl) ?_
  refine va_get (D := D) (ci := 7) (v := .int 5) (C := RX7) (T := TX7) (N := 6) hx hb hw inlX7 hown hK hP 0 rfl rfl 1 (by decide) (hw _ wd_36) (fun _ h9 => h9) rfl dX7_append_22 ?_
  refine lv_iload_n hx hb dX7_append_25 rfl (lv_at hl 2 rfl) ?_
  refine lv_iload_n hx hb dX7_append_26 rfl (lv_at hl 0 rfl) ?_
  refine lv_iushr hx hb dX7_append_27 rfl ?_
  refine lv_topi (fun z_5 ez_5 => ?_)
  refine lv_sipush (v := 255) hx hb dX7_append_28 (by decide) ?_
  refine lv_iand hx hb dX7_append_31 ?_
  refine lv_topi (fun z_6 ez_6 => ?_)
  refine va_iast hx hb hK hP hD hS 1 0 rfl rfl (i := 5) (by unfold vp_in; decide) dX7_append_32 (fun H locs hP hD hS => ?_)
  have hP : va_P D vwCl ([(h, .inr (7, [.ref a, .int 5, .int 0, .int 0, .int 0, .int 0])), (a, .inl (k 0, 400, .inl (upd (upd (f) 4 z_3) 5 z_6)))]) H := hP
  have hD : va_D A ([(h, .inr (7, [.ref a, .int 5, .int 0, .int 0, .int 0, .int 0])), (a, .inl (k 0, 400, .inl (upd (upd (f) 4 z_3) 5 z_6)))]) := hD
  refine lv_aload_n hx hb dX7_append_33 rfl (lv_at hl 1 rfl) ?_
  refine lv_dup hx hb dX7_append_34 rfl ?_
  refine va_get (D := D) (ci := 7) (v := .int 5) (C := RX7) (T := TX7) (N := 6) hx hb hw inlX7 hown hK hP 0 rfl rfl 1 (by decide) (hw _ wd_36) (fun _ h9 => h9) rfl dX7_append_35 ?_
  refine lv_iconst (v := 1) hx hb dX7_append_38 (by decide) ?_
  refine lv_iadd hx hb dX7_append_39 ?_
  refine x_top (v := 6) (by decide) ?_
  refine va_put (D := D) (ci := 7) (v := .int 6) (ty := .int) (C := RX7) (T := TX7) (N := 6) hx hb hw inlX7 tyX7 tyX7_ok nmX7 hown hK hP hD hS 0 rfl rfl 1 (by decide) (hw _ wd_36) (fun _ h9 => h9) rfl (by decide +kernel) rfl rfl (Nat.le_of_ble_eq_true rfl) dX7_append_40 (fun H locs hP hD hS => ?_)
  have hP : va_P D vwCl ([(h, .inr (7, [.ref a, .int 6, .int 0, .int 0, .int 0, .int 0])), (a, .inl (k 0, 400, .inl (upd (upd (f) 4 z_3) 5 z_6)))]) H := hP
  have hD : va_D A ([(h, .inr (7, [.ref a, .int 6, .int 0, .int 0, .int 0, .int 0])), (a, .inl (k 0, 400, .inl (upd (upd (f) 4 z_3) 5 z_6)))]) := hD
  refine lv_iinc (v := 8) (lv' := [(2, .int 8), (0, .ref h), (1, .int p0)]) hx hb dX7_append_43 hl (k := 0) rfl (by decide) (by decide) rfl (fun ls hl => ?_)
  refine lv_goto (tgt := 3) hx hb dX7_append_46 (by decide) ?_
  refine lv_iload_n hx hb dX7_append_3 rfl (lv_at hl 0 rfl) ?_
  refine lv_if_lt (tgt := 49) hx hb dX7_append_4 (by decide) (fun h => absurd h (by decide)) (fun _ => ?_)
  refine lv_aload_n hx hb dX7_append_7 rfl (lv_at hl 1 rfl) ?_
  refine va_get (D := D) (ci := 7) (v := .int 6) (C := RX7) (T := TX7) (N := 6) hx hb hw inlX7 hown hK hP 0 rfl rfl 1 (by decide) (hw _ wd_36) (fun _ h9 => h9) rfl dX7_append_8 ?_
  refine lv_sipush (v := 400) hx hb dX7_append_11 (by decide) ?_
  refine lv_icmp_ge (tgt := 49) hx hb dX7_append_14 (by decide) (fun h => absurd h (by decide)) (fun _ => ?_)
  refine lv_aload_n hx hb dX7_append_17 rfl (lv_at hl 1 rfl) ?_
  refine va_get (D := D) (ci := 7) (v := .ref a) (C := RX7) (T := TX7) (N := 6) hx hb hw inlX7 hown hK hP 0 rfl rfl 0 (by decide) (hw _ wd_34) (fun _ h9 => h9) rfl dX7_append_18 ?_
  refine lv_aload_n hx hb dX7_append_21 rfl (lv_at hl 1 rfl) ?_
  refine va_get (D := D) (ci := 7) (v := .int 6) (C := RX7) (T := TX7) (N := 6) hx hb hw inlX7 hown hK hP 0 rfl rfl 1 (by decide) (hw _ wd_36) (fun _ h9 => h9) rfl dX7_append_22 ?_
  refine lv_iload_n hx hb dX7_append_25 rfl (lv_at hl 2 rfl) ?_
  refine lv_iload_n hx hb dX7_append_26 rfl (lv_at hl 0 rfl) ?_
  refine lv_iushr hx hb dX7_append_27 rfl ?_
  refine lv_topi (fun z_8 ez_8 => ?_)
  refine lv_sipush (v := 255) hx hb dX7_append_28 (by decide) ?_
  refine lv_iand hx hb dX7_append_31 ?_
  refine lv_topi (fun z_9 ez_9 => ?_)
  refine va_iast hx hb hK hP hD hS 1 0 rfl rfl (i := 6) (by unfold vp_in; decide) dX7_append_32 (fun H locs hP hD hS => ?_)
  have hP : va_P D vwCl ([(h, .inr (7, [.ref a, .int 6, .int 0, .int 0, .int 0, .int 0])), (a, .inl (k 0, 400, .inl (upd (upd (upd (f) 4 z_3) 5 z_6) 6 z_9)))]) H := hP
  have hD : va_D A ([(h, .inr (7, [.ref a, .int 6, .int 0, .int 0, .int 0, .int 0])), (a, .inl (k 0, 400, .inl (upd (upd (upd (f) 4 z_3) 5 z_6) 6 z_9)))]) := hD
  refine lv_aload_n hx hb dX7_append_33 rfl (lv_at hl 1 rfl) ?_
  refine lv_dup hx hb dX7_append_34 rfl ?_
  refine va_get (D := D) (ci := 7) (v := .int 6) (C := RX7) (T := TX7) (N := 6) hx hb hw inlX7 hown hK hP 0 rfl rfl 1 (by decide) (hw _ wd_36) (fun _ h9 => h9) rfl dX7_append_35 ?_
  refine lv_iconst (v := 1) hx hb dX7_append_38 (by decide) ?_
  refine lv_iadd hx hb dX7_append_39 ?_
  refine x_top (v := 7) (by decide) ?_
  refine va_put (D := D) (ci := 7) (v := .int 7) (ty := .int) (C := RX7) (T := TX7) (N := 6) hx hb hw inlX7 tyX7 tyX7_ok nmX7 hown hK hP hD hS 0 rfl rfl 1 (by decide) (hw _ wd_36) (fun _ h9 => h9) rfl (by decide +kernel) rfl rfl (Nat.le_of_ble_eq_true rfl) dX7_append_40 (fun H locs hP hD hS => ?_)
  have hP : va_P D vwCl ([(h, .inr (7, [.ref a, .int 7, .int 0, .int 0, .int 0, .int 0])), (a, .inl (k 0, 400, .inl (upd (upd (upd (f) 4 z_3) 5 z_6) 6 z_9)))]) H := hP
  have hD : va_D A ([(h, .inr (7, [.ref a, .int 7, .int 0, .int 0, .int 0, .int 0])), (a, .inl (k 0, 400, .inl (upd (upd (upd (f) 4 z_3) 5 z_6) 6 z_9)))]) := hD
  refine lv_iinc (v := 0) (lv' := [(2, .int 0), (0, .ref h), (1, .int p0)]) hx hb dX7_append_43 hl (k := 0) rfl (by decide) (by decide) rfl (fun ls hl => ?_)
  refine lv_goto (tgt := 3) hx hb dX7_append_46 (by decide) ?_
  refine lv_iload_n hx hb dX7_append_3 rfl (lv_at hl 0 rfl) ?_
  refine lv_if_lt (tgt := 49) hx hb dX7_append_4 (by decide) (fun h => absurd h (by decide)) (fun _ => ?_)
  refine lv_aload_n hx hb dX7_append_7 rfl (lv_at hl 1 rfl) ?_
  refine va_get (D := D) (ci := 7) (v := .int 7) (C := RX7) (T := TX7) (N := 6) hx hb hw inlX7 hown hK hP 0 rfl rfl 1 (by decide) (hw _ wd_36) (fun _ h9 => h9) rfl dX7_append_8 ?_
  refine lv_sipush (v := 400) hx hb dX7_append_11 (by decide) ?_
  refine lv_icmp_ge (tgt := 49) hx hb dX7_append_14 (by decide) (fun h => absurd h (by decide)) (fun _ => ?_)
  refine lv_aload_n hx hb dX7_append_17 rfl (lv_at hl 1 rfl) ?_
  refine va_get (D := D) (ci := 7) (v := .ref a) (C := RX7) (T := TX7) (N := 6) hx hb hw inlX7 hown hK hP 0 rfl rfl 0 (by decide) (hw _ wd_34) (fun _ h9 => h9) rfl dX7_append_18 ?_
  refine lv_aload_n hx hb dX7_append_21 rfl (lv_at hl 1 rfl) ?_
  refine va_get (D := D) (ci := 7) (v := .int 7) (C := RX7) (T := TX7) (N := 6) hx hb hw inlX7 hown hK hP 0 rfl rfl 1 (by decide) (hw _ wd_36) (fun _ h9 => h9) rfl dX7_append_22 ?_
  refine lv_iload_n hx hb dX7_append_25 rfl (lv_at hl 2 rfl) ?_
  refine lv_iload_n hx hb dX7_append_26 rfl (lv_at hl 0 rfl) ?_
  refine lv_iushr hx hb dX7_append_27 rfl ?_
  refine lv_topi (fun z_11 ez_11 => ?_)
  refine lv_sipush (v := 255) hx hb dX7_append_28 (by decide) ?_
  refine lv_iand hx hb dX7_append_31 ?_
  refine lv_topi (fun z_12 ez_12 => ?_)
  refine va_iast hx hb hK hP hD hS 1 0 rfl rfl (i := 7) (by unfold vp_in; decide) dX7_append_32 (fun H locs hP hD hS => ?_)
  have hP : va_P D vwCl ([(h, .inr (7, [.ref a, .int 7, .int 0, .int 0, .int 0, .int 0])), (a, .inl (k 0, 400, .inl (upd (upd (upd (upd (f) 4 z_3) 5 z_6) 6 z_9) 7 z_12)))]) H := hP
  have hD : va_D A ([(h, .inr (7, [.ref a, .int 7, .int 0, .int 0, .int 0, .int 0])), (a, .inl (k 0, 400, .inl (upd (upd (upd (upd (f) 4 z_3) 5 z_6) 6 z_9) 7 z_12)))]) := hD
  refine lv_aload_n hx hb dX7_append_33 rfl (lv_at hl 1 rfl) ?_
  refine lv_dup hx hb dX7_append_34 rfl ?_
  refine va_get (D := D) (ci := 7) (v := .int 7) (C := RX7) (T := TX7) (N := 6) hx hb hw inlX7 hown hK hP 0 rfl rfl 1 (by decide) (hw _ wd_36) (fun _ h9 => h9) rfl dX7_append_35 ?_
  refine lv_iconst (v := 1) hx hb dX7_append_38 (by decide) ?_
  refine lv_iadd hx hb dX7_append_39 ?_
  refine x_top (v := 8) (by decide) ?_
  refine va_put (D := D) (ci := 7) (v := .int 8) (ty := .int) (C := RX7) (T := TX7) (N := 6) hx hb hw inlX7 tyX7 tyX7_ok nmX7 hown hK hP hD hS 0 rfl rfl 1 (by decide) (hw _ wd_36) (fun _ h9 => h9) rfl (by decide +kernel) rfl rfl (Nat.le_of_ble_eq_true rfl) dX7_append_40 (fun H locs hP hD hS => ?_)
  have hP : va_P D vwCl ([(h, .inr (7, [.ref a, .int 8, .int 0, .int 0, .int 0, .int 0])), (a, .inl (k 0, 400, .inl (upd (upd (upd (upd (f) 4 z_3) 5 z_6) 6 z_9) 7 z_12)))]) H := hP
  have hD : va_D A ([(h, .inr (7, [.ref a, .int 8, .int 0, .int 0, .int 0, .int 0])), (a, .inl (k 0, 400, .inl (upd (upd (upd (upd (f) 4 z_3) 5 z_6) 6 z_9) 7 z_12)))]) := hD
  refine lv_iinc (v := (-8)) (lv' := [(2, .int (-8)), (0, .ref h), (1, .int p0)]) hx hb dX7_append_43 hl (k := 0) rfl (by decide) (by decide) rfl (fun ls hl => ?_)
  refine lv_goto (tgt := 3) hx hb dX7_append_46 (by decide) ?_
  refine lv_iload_n hx hb dX7_append_3 rfl (lv_at hl 0 rfl) ?_
  refine lv_if_lt (tgt := 49) hx hb dX7_append_4 (by decide) (fun _ => ?_) (fun h => absurd (by decide) h)
  refine W.widen (k := 0) (n := 0) (Nat.le_of_ble_eq_true rfl) (Nat.le_of_ble_eq_true rfl) ?_
  have hP9 : va_P D vwCl ((fun u => [(h, .inr (7, [.ref a, .int 8, .int 0, .int 0, .int 0, .int 0])), (a, .inl (k 0, 400, .inl (u)))]) (upd (upd (upd (upd (f) 4 z_3) 5 z_6) 6 z_9) 7 z_12)) H := hP.sub [0, 1] rfl
  have hD9 : va_D A ((fun u => [(h, .inr (7, [.ref a, .int 8, .int 0, .int 0, .int 0, .int 0])), (a, .inl (k 0, 400, .inl (u)))]) (upd (upd (upd (upd (f) 4 z_3) 5 z_6) 6 z_9) 7 z_12)) := hD.sub [0, 1] (by decide) rfl
  exact W.vret hx hb hr (fun t ht hW => ⟨⟨(upd (upd (upd (upd (f) 4 z_3) 5 z_6) 6 z_9) 7 z_12), rfl, trivial, by rw [ht]; exact hP9, hD9⟩, hS.F ht⟩) hS.2.2 dX7_append_49

set_option maxHeartbeats 4000000 in
set_option maxRecDepth 100000 in
theorem kX7_append_8 (l : Launch) (D : va_G) (k : Nat → ClassId) (sd : Nat → Nat) (h : Nat) (a : Nat) (f : Nat → Int32) (p0 : Int32) (sz : Nat) : Met l yX7_append (wB yX7_append cX7_append 3 none) ({ frames := 0, cells := 0, slots := 0, locals := 0 }) (va_Pc [.ref h, .int p0] (PRE D k sd ([(h, .inr (7, [.ref a, .int 8, .int 0, .int 0, .int 0, .int 0])), (a, .inl (k 0, 400, .inl (f)))]) sz)) (va_Qv (S := Nat → Int32) (fun _ => True) (fun u t => PO D (va_A ([(h, .inr (7, [.ref a, .int 8, .int 0, .int 0, .int 0, .int 0])), (a, .inl (k 0, 400, .inl (f)))]) sz) ((fun u => [(h, .inr (7, [.ref a, .int 12, .int 0, .int 0, .int 0, .int 0])), (a, .inl (k 0, 400, .inl (u)))]) u) t) (va_A ([(h, .inr (7, [.ref a, .int 8, .int 0, .int 0, .int 0, .int 0])), (a, .inl (k 0, 400, .inl (f)))]) sz)) 0 0 (va_A ([(h, .inr (7, [.ref a, .int 8, .int 0, .int 0, .int 0, .int 0])), (a, .inl (k 0, 400, .inl (f)))]) sz) := by
  refine Met.ofW (cc := cX7_append) (maxL := 3) (ret := none) (by decide) rfl ?_
  intro p e s m args below meth c s₁ B hml hv
  obtain ⟨rfl, hsz, hP, hK, hD0, hE, hX⟩ := hv
  have hx := B.exec
  have hb := B.bytes
  have hr := B.returns
  have hw : ∀ w ∈ wsB, w.before _ s = true := fun w h => atoms_spec (ws := wB yX7_append cX7_append 3 none) B.pre w (List.mem_cons_of_mem _ h)
  have hown : s.vm.findClass RX7 = some m.cls := findClass_of_methodNamed B.named
  have hlocks := B.notSynchronized
  subst hsz
  have hD := hD0.self (sz := s.heap.size)
  generalize hAe : va_A ([(h, .inr (7, [.ref a, .int 8, .int 0, .int 0, .int 0, .int 0])), (a, .inl (k 0, 400, .inl (f)))]) s.heap.size = A at hD hX ⊢
  have hA : ∀ q : Nat, s.heap.size ≤ q → A q := fun q h => by rw [← hAe]; exact Or.inr h
  have hS : va_S A s.heap s.heap [] := va_S.rf
  have hl := lv_entry ([.ref h, .int p0]) (n := 3) (Nat.le_of_ble_eq_true rfl)
  rw [lg_entry_eq]
  generalize (lg_sl ([.ref h, .int p0]) ++ List.replicate (3 - (lg_sl ([.ref h, .int p0])).length) Slot.unset).toArray = ls at hl ⊢
  have hl : lv_has ls 3 [(0, .ref h), (1, .int p0)] := hl
  refine lv_bipush (v := 24) hx hb dX7_append_0 (by decide) ?_
  refine lv_istore_n (lv' := [(2, .int 24), (0, .ref h), (1, .int p0)]) hx hb dX7_append_2 rfl hl (by decide) rfl (fun ls hl => ?_)
  refine lv_iload_n hx hb dX7_append_3 rfl (lv_at hl 0 rfl) ?_
  refine lv_if_lt (tgt := 49) hx hb dX7_append_4 (by decide) (fun h => absurd h (by decide)) (fun _ => ?_)
  refine lv_aload_n hx hb dX7_append_7 rfl (lv_at hl 1 rfl) ?_
  refine va_get (D := D) (ci := 7) (v := .int 8) (C := RX7) (T := TX7) (N := 6) hx hb hw inlX7 hown hK hP 0 rfl rfl 1 (by decide) (hw _ wd_36) (fun _ h9 => h9) rfl dX7_append_8 ?_
  refine lv_sipush (v := 400) hx hb dX7_append_11 (by decide) ?_
  refine lv_icmp_ge (tgt := 49) hx hb dX7_append_14 (by decide) (fun h => absurd h (by decide)) (fun _ => ?_)
  refine lv_aload_n hx hb dX7_append_17 rfl (lv_at hl 1 rfl) ?_
  refine va_get (D := D) (ci := 7) (v := .ref a) (C := RX7) (T := TX7) (N := 6) hx hb hw inlX7 hown hK hP 0 rfl rfl 0 (by decide) (hw _ wd_34) (fun _ h9 => h9) rfl dX7_append_18 ?_
  refine lv_aload_n hx hb dX7_append_21 rfl (lv_at hl 1 rfl) ?_
  refine va_get (D := D) (ci := 7) (v := .int 8) (C := RX7) (T := TX7) (N := 6) hx hb hw inlX7 hown hK hP 0 rfl rfl 1 (by decide) (hw _ wd_36) (fun _ h9 => h9) rfl dX7_append_22 ?_
  refine lv_iload_n hx hb dX7_append_25 rfl (lv_at hl 2 rfl) ?_
  refine lv_iload_n hx hb dX7_append_26 rfl (lv_at hl 0 rfl) ?_
  refine lv_iushr hx hb dX7_append_27 rfl ?_
  refine lv_topi (fun z_2 ez_2 => ?_)
  refine lv_sipush (v := 255) hx hb dX7_append_28 (by decide) ?_
  refine lv_iand hx hb dX7_append_31 ?_
  refine lv_topi (fun z_3 ez_3 => ?_)
  refine va_iast hx hb hK hP hD hS 1 0 rfl rfl (i := 8) (by unfold vp_in; decide) dX7_append_32 (fun H locs hP hD hS => ?_)
  have hP : va_P D vwCl ([(h, .inr (7, [.ref a, .int 8, .int 0, .int 0, .int 0, .int 0])), (a, .inl (k 0, 400, .inl (upd (f) 8 z_3)))]) H := hP
  have hD : va_D A ([(h, .inr (7, [.ref a, .int 8, .int 0, .int 0, .int 0, .int 0])), (a, .inl (k 0, 400, .inl (upd (f) 8 z_3)))]) := hD
  refine lv_aload_n hx hb dX7_append_33 rfl (lv_at hl 1 rfl) ?_
  refine lv_dup hx hb dX7_append_34 rfl ?_
  refine va_get (D := D) (ci := 7) (v := .int 8) (C := RX7) (T := TX7) (N := 6) hx hb hw inlX7 hown hK hP 0 rfl rfl 1 (by decide) (hw _ wd_36) (fun _ h9 => h9) rfl dX7_append_35 ?_
  refine lv_iconst (v := 1) hx hb dX7_append_38 (by decide) ?_
  refine lv_iadd hx hb dX7_append_39 ?_
  refine x_top (v := 9) (by decide) ?_
  refine va_put (D := D) (ci := 7) (v := .int 9) (ty := .int) (C := RX7) (T := TX7) (N := 6) hx hb hw inlX7 tyX7 tyX7_ok nmX7 hown hK hP hD hS 0 rfl rfl 1 (by decide) (hw _ wd_36) (fun _ h9 => h9) rfl (by decide +kernel) rfl rfl (Nat.le_of_ble_eq_true rfl) dX7_append_40 (fun H locs hP hD hS => ?_)
  have hP : va_P D vwCl ([(h, .inr (7, [.ref a, .int 9, .int 0, .int 0, .int 0, .int 0])), (a, .inl (k 0, 400, .inl (upd (f) 8 z_3)))]) H := hP
  have hD : va_D A ([(h, .inr (7, [.ref a, .int 9, .int 0, .int 0, .int 0, .int 0])), (a, .inl (k 0, 400, .inl (upd (f) 8 z_3)))]) := hD
  refine lv_iinc (v := 16) (lv' := [(2, .int 16), (0, .ref h), (1, .int p0)]) hx hb dX7_append_43 hl (k := 0) rfl (by decide) (by decide) rfl (fun ls hl => ?_)
  refine lv_goto (tgt := 3) hx hb dX7_append_46 (by decide) ?_
  refine lv_iload_n hx hb dX7_append_3 rfl (lv_at hl 0 rfl) ?_
  refine lv_if_lt (tgt := 49) hx hb dX7_append_4 (by decide) (fun h => absurd h (by decide)) (fun _ => ?_)
  refine lv_aload_n hx hb dX7_append_7 rfl (lv_at hl 1 rfl) ?_
  refine va_get (D := D) (ci := 7) (v := .int 9) (C := RX7) (T := TX7) (N := 6) hx hb hw inlX7 hown hK hP 0 rfl rfl 1 (by decide) (hw _ wd_36) (fun _ h9 => h9) rfl dX7_append_8 ?_
  refine lv_sipush (v := 400) hx hb dX7_append_11 (by decide) ?_
  refine lv_icmp_ge (tgt := 49) hx hb dX7_append_14 (by decide) (fun h => absurd h (by decide)) (fun _ => ?_)
  refine lv_aload_n hx hb dX7_append_17 rfl (lv_at hl 1 rfl) ?_
  refine va_get (D := D) (ci := 7) (v := .ref a) (C := RX7) (T := TX7) (N := 6) hx hb hw inlX7 hown hK hP 0 rfl rfl 0 (by decide) (hw _ wd_34) (fun _ h9 => h9) rfl dX7_append_18 ?_
  refine lv_aload_n hx hb dX7_append_21 rfl (lv_at hl 1 rfl) ?_
  refine va_get (D := D) (ci := 7) (v := .int 9) (C := RX7) (T := TX7) (N := 6) hx hb hw inlX7 hown hK hP 0 rfl rfl 1 (by decide) (hw _ wd_36) (fun _ h9 => h9) rfl dX7_append_22 ?_
  refine lv_iload_n hx hb dX7_append_25 rfl (lv_at hl 2 rfl) ?_
  refine lv_iload_n hx hb dX7_append_26 rfl (lv_at hl 0 rfl) ?_
  refine lv_iushr hx hb dX7_append_27 rfl ?_
  refine lv_topi (fun z_5 ez_5 => ?_)
  refine lv_sipush (v := 255) hx hb dX7_append_28 (by decide) ?_
  refine lv_iand hx hb dX7_append_31 ?_
  refine lv_topi (fun z_6 ez_6 => ?_)
  refine va_iast hx hb hK hP hD hS 1 0 rfl rfl (i := 9) (by unfold vp_in; decide) dX7_append_32 (fun H locs hP hD hS => ?_)
  have hP : va_P D vwCl ([(h, .inr (7, [.ref a, .int 9, .int 0, .int 0, .int 0, .int 0])), (a, .inl (k 0, 400, .inl (upd (upd (f) 8 z_3) 9 z_6)))]) H := hP
  have hD : va_D A ([(h, .inr (7, [.ref a, .int 9, .int 0, .int 0, .int 0, .int 0])), (a, .inl (k 0, 400, .inl (upd (upd (f) 8 z_3) 9 z_6)))]) := hD
  refine lv_aload_n hx hb dX7_append_33 rfl (lv_at hl 1 rfl) ?_
  refine lv_dup hx hb dX7_append_34 rfl ?_
  refine va_get (D := D) (ci := 7) (v := .int 9) (C := RX7) (T := TX7) (N := 6) hx hb hw inlX7 hown hK hP 0 rfl rfl 1 (by decide) (hw _ wd_36) (fun _ h9 => h9) rfl dX7_append_35 ?_
  refine lv_iconst (v := 1) hx hb dX7_append_38 (by decide) ?_
  refine lv_iadd hx hb dX7_append_39 ?_
  refine x_top (v := 10) (by decide) ?_
  refine va_put (D := D) (ci := 7) (v := .int 10) (ty := .int) (C := RX7) (T := TX7) (N := 6) hx hb hw inlX7 tyX7 tyX7_ok nmX7 hown hK hP hD hS 0 rfl rfl 1 (by decide) (hw _ wd_36) (fun _ h9 => h9) rfl (by decide +kernel) rfl rfl (Nat.le_of_ble_eq_true rfl) dX7_append_40 (fun H locs hP hD hS => ?_)
  have hP : va_P D vwCl ([(h, .inr (7, [.ref a, .int 10, .int 0, .int 0, .int 0, .int 0])), (a, .inl (k 0, 400, .inl (upd (upd (f) 8 z_3) 9 z_6)))]) H := hP
  have hD : va_D A ([(h, .inr (7, [.ref a, .int 10, .int 0, .int 0, .int 0, .int 0])), (a, .inl (k 0, 400, .inl (upd (upd (f) 8 z_3) 9 z_6)))]) := hD
  refine lv_iinc (v := 8) (lv' := [(2, .int 8), (0, .ref h), (1, .int p0)]) hx hb dX7_append_43 hl (k := 0) rfl (by decide) (by decide) rfl (fun ls hl => ?_)
  refine lv_goto (tgt := 3) hx hb dX7_append_46 (by decide) ?_
  refine lv_iload_n hx hb dX7_append_3 rfl (lv_at hl 0 rfl) ?_
  refine lv_if_lt (tgt := 49) hx hb dX7_append_4 (by decide) (fun h => absurd h (by decide)) (fun _ => ?_)
  refine lv_aload_n hx hb dX7_append_7 rfl (lv_at hl 1 rfl) ?_
  refine va_get (D := D) (ci := 7) (v := .int 10) (C := RX7) (T := TX7) (N := 6) hx hb hw inlX7 hown hK hP 0 rfl rfl 1 (by decide) (hw _ wd_36) (fun _ h9 => h9) rfl dX7_append_8 ?_
  refine lv_sipush (v := 400) hx hb dX7_append_11 (by decide) ?_
  refine lv_icmp_ge (tgt := 49) hx hb dX7_append_14 (by decide) (fun h => absurd h (by decide)) (fun _ => ?_)
  refine lv_aload_n hx hb dX7_append_17 rfl (lv_at hl 1 rfl) ?_
  refine va_get (D := D) (ci := 7) (v := .ref a) (C := RX7) (T := TX7) (N := 6) hx hb hw inlX7 hown hK hP 0 rfl rfl 0 (by decide) (hw _ wd_34) (fun _ h9 => h9) rfl dX7_append_18 ?_
  refine lv_aload_n hx hb dX7_append_21 rfl (lv_at hl 1 rfl) ?_
  refine va_get (D := D) (ci := 7) (v := .int 10) (C := RX7) (T := TX7) (N := 6) hx hb hw inlX7 hown hK hP 0 rfl rfl 1 (by decide) (hw _ wd_36) (fun _ h9 => h9) rfl dX7_append_22 ?_
  refine lv_iload_n hx hb dX7_append_25 rfl (lv_at hl 2 rfl) ?_
  refine lv_iload_n hx hb dX7_append_26 rfl (lv_at hl 0 rfl) ?_
  refine lv_iushr hx hb dX7_append_27 rfl ?_
  refine lv_topi (fun z_8 ez_8 => ?_)
  refine lv_sipush (v := 255) hx hb dX7_append_28 (by decide) ?_
  refine lv_iand hx hb dX7_append_31 ?_
  refine lv_topi (fun z_9 ez_9 => ?_)
  refine va_iast hx hb hK hP hD hS 1 0 rfl rfl (i := 10) (by unfold vp_in; decide) dX7_append_32 (fun H locs hP hD hS => ?_)
  have hP : va_P D vwCl ([(h, .inr (7, [.ref a, .int 10, .int 0, .int 0, .int 0, .int 0])), (a, .inl (k 0, 400, .inl (upd (upd (upd (f) 8 z_3) 9 z_6) 10 z_9)))]) H := hP
  have hD : va_D A ([(h, .inr (7, [.ref a, .int 10, .int 0, .int 0, .int 0, .int 0])), (a, .inl (k 0, 400, .inl (upd (upd (upd (f) 8 z_3) 9 z_6) 10 z_9)))]) := hD
  refine lv_aload_n hx hb dX7_append_33 rfl (lv_at hl 1 rfl) ?_
  refine lv_dup hx hb dX7_append_34 rfl ?_
  refine va_get (D := D) (ci := 7) (v := .int 10) (C := RX7) (T := TX7) (N := 6) hx hb hw inlX7 hown hK hP 0 rfl rfl 1 (by decide) (hw _ wd_36) (fun _ h9 => h9) rfl dX7_append_35 ?_
  refine lv_iconst (v := 1) hx hb dX7_append_38 (by decide) ?_
  refine lv_iadd hx hb dX7_append_39 ?_
  refine x_top (v := 11) (by decide) ?_
  refine va_put (D := D) (ci := 7) (v := .int 11) (ty := .int) (C := RX7) (T := TX7) (N := 6) hx hb hw inlX7 tyX7 tyX7_ok nmX7 hown hK hP hD hS 0 rfl rfl 1 (by decide) (hw _ wd_36) (fun _ h9 => h9) rfl (by decide +kernel) rfl rfl (Nat.le_of_ble_eq_true rfl) dX7_append_40 (fun H locs hP hD hS => ?_)
  have hP : va_P D vwCl ([(h, .inr (7, [.ref a, .int 11, .int 0, .int 0, .int 0, .int 0])), (a, .inl (k 0, 400, .inl (upd (upd (upd (f) 8 z_3) 9 z_6) 10 z_9)))]) H := hP
  have hD : va_D A ([(h, .inr (7, [.ref a, .int 11, .int 0, .int 0, .int 0, .int 0])), (a, .inl (k 0, 400, .inl (upd (upd (upd (f) 8 z_3) 9 z_6) 10 z_9)))]) := hD
  refine lv_iinc (v := 0) (lv' := [(2, .int 0), (0, .ref h), (1, .int p0)]) hx hb dX7_append_43 hl (k := 0) rfl (by decide) (by decide) rfl (fun ls hl => ?_)
  refine lv_goto (tgt := 3) hx hb dX7_append_46 (by decide) ?_
  refine lv_iload_n hx hb dX7_append_3 rfl (lv_at hl 0 rfl) ?_
  refine lv_if_lt (tgt := 49) hx hb dX7_append_4 (by decide) (fun h => absurd h (by decide)) (fun _ => ?_)
  refine lv_aload_n hx hb dX7_append_7 rfl (lv_at hl 1 rfl) ?_
  refine va_get (D := D) (ci := 7) (v := .int 11) (C := RX7) (T := TX7) (N := 6) hx hb hw inlX7 hown hK hP 0 rfl rfl 1 (by decide) (hw _ wd_36) (fun _ h9 => h9) rfl dX7_append_8 ?_
  refine lv_sipush (v := 400) hx hb dX7_append_11 (by decide) ?_
  refine lv_icmp_ge (tgt := 49) hx hb dX7_append_14 (by decide) (fun h => absurd h (by decide)) (fun _ => ?_)
  refine lv_aload_n hx hb dX7_append_17 rfl (lv_at hl 1 rfl) ?_
  refine va_get (D := D) (ci := 7) (v := .ref a) (C := RX7) (T := TX7) (N := 6) hx hb hw inlX7 hown hK hP 0 rfl rfl 0 (by decide) (hw _ wd_34) (fun _ h9 => h9) rfl dX7_append_18 ?_
  refine lv_aload_n hx hb dX7_append_21 rfl (lv_at hl 1 rfl) ?_
  refine va_get (D := D) (ci := 7) (v := .int 11) (C := RX7) (T := TX7) (N := 6) hx hb hw inlX7 hown hK hP 0 rfl rfl 1 (by decide) (hw _ wd_36) (fun _ h9 => h9) rfl dX7_append_22 ?_
  refine lv_iload_n hx hb dX7_append_25 rfl (lv_at hl 2 rfl) ?_
  refine lv_iload_n hx hb dX7_append_26 rfl (lv_at hl 0 rfl) ?_
  refine lv_iushr hx hb dX7_append_27 rfl ?_
  refine lv_topi (fun z_11 ez_11 => ?_)
  refine lv_sipush (v := 255) hx hb dX7_append_28 (by decide) ?_
  refine lv_iand hx hb dX7_append_31 ?_
  refine lv_topi (fun z_12 ez_12 => ?_)
  refine va_iast hx hb hK hP hD hS 1 0 rfl rfl (i := 11) (by unfold vp_in; decide) dX7_append_32 (fun H locs hP hD hS => ?_)
  have hP : va_P D vwCl ([(h, .inr (7, [.ref a, .int 11, .int 0, .int 0, .int 0, .int 0])), (a, .inl (k 0, 400, .inl (upd (upd (upd (upd (f) 8 z_3) 9 z_6) 10 z_9) 11 z_12)))]) H := hP
  have hD : va_D A ([(h, .inr (7, [.ref a, .int 11, .int 0, .int 0, .int 0, .int 0])), (a, .inl (k 0, 400, .inl (upd (upd (upd (upd (f) 8 z_3) 9 z_6) 10 z_9) 11 z_12)))]) := hD
  refine lv_aload_n hx hb dX7_append_33 rfl (lv_at hl 1 rfl) ?_
  refine lv_dup hx hb dX7_append_34 rfl ?_
  refine va_get (D := D) (ci := 7) (v := .int 11) (C := RX7) (T := TX7) (N := 6) hx hb hw inlX7 hown hK hP 0 rfl rfl 1 (by decide) (hw _ wd_36) (fun _ h9 => h9) rfl dX7_append_35 ?_
  refine lv_iconst (v := 1) hx hb dX7_append_38 (by decide) ?_
  refine lv_iadd hx hb dX7_append_39 ?_
  refine x_top (v := 12) (by decide) ?_
  refine va_put (D := D) (ci := 7) (v := .int 12) (ty := .int) (C := RX7) (T := TX7) (N := 6) hx hb hw inlX7 tyX7 tyX7_ok nmX7 hown hK hP hD hS 0 rfl rfl 1 (by decide) (hw _ wd_36) (fun _ h9 => h9) rfl (by decide +kernel) rfl rfl (Nat.le_of_ble_eq_true rfl) dX7_append_40 (fun H locs hP hD hS => ?_)
  have hP : va_P D vwCl ([(h, .inr (7, [.ref a, .int 12, .int 0, .int 0, .int 0, .int 0])), (a, .inl (k 0, 400, .inl (upd (upd (upd (upd (f) 8 z_3) 9 z_6) 10 z_9) 11 z_12)))]) H := hP
  have hD : va_D A ([(h, .inr (7, [.ref a, .int 12, .int 0, .int 0, .int 0, .int 0])), (a, .inl (k 0, 400, .inl (upd (upd (upd (upd (f) 8 z_3) 9 z_6) 10 z_9) 11 z_12)))]) := hD
  refine lv_iinc (v := (-8)) (lv' := [(2, .int (-8)), (0, .ref h), (1, .int p0)]) hx hb dX7_append_43 hl (k := 0) rfl (by decide) (by decide) rfl (fun ls hl => ?_)
  refine lv_goto (tgt := 3) hx hb dX7_append_46 (by decide) ?_
  refine lv_iload_n hx hb dX7_append_3 rfl (lv_at hl 0 rfl) ?_
  refine lv_if_lt (tgt := 49) hx hb dX7_append_4 (by decide) (fun _ => ?_) (fun h => absurd (by decide) h)
  refine W.widen (k := 0) (n := 0) (Nat.le_of_ble_eq_true rfl) (Nat.le_of_ble_eq_true rfl) ?_
  have hP9 : va_P D vwCl ((fun u => [(h, .inr (7, [.ref a, .int 12, .int 0, .int 0, .int 0, .int 0])), (a, .inl (k 0, 400, .inl (u)))]) (upd (upd (upd (upd (f) 8 z_3) 9 z_6) 10 z_9) 11 z_12)) H := hP.sub [0, 1] rfl
  have hD9 : va_D A ((fun u => [(h, .inr (7, [.ref a, .int 12, .int 0, .int 0, .int 0, .int 0])), (a, .inl (k 0, 400, .inl (u)))]) (upd (upd (upd (upd (f) 8 z_3) 9 z_6) 10 z_9) 11 z_12)) := hD.sub [0, 1] (by decide) rfl
  exact W.vret hx hb hr (fun t ht hW => ⟨⟨(upd (upd (upd (upd (f) 8 z_3) 9 z_6) 10 z_9) 11 z_12), rfl, trivial, by rw [ht]; exact hP9, hD9⟩, hS.F ht⟩) hS.2.2 dX7_append_49

set_option maxHeartbeats 4000000 in
set_option maxRecDepth 100000 in
theorem kX7_append_12 (l : Launch) (D : va_G) (k : Nat → ClassId) (sd : Nat → Nat) (h : Nat) (a : Nat) (f : Nat → Int32) (p0 : Int32) (sz : Nat) : Met l yX7_append (wB yX7_append cX7_append 3 none) ({ frames := 0, cells := 0, slots := 0, locals := 0 }) (va_Pc [.ref h, .int p0] (PRE D k sd ([(h, .inr (7, [.ref a, .int 12, .int 0, .int 0, .int 0, .int 0])), (a, .inl (k 0, 400, .inl (f)))]) sz)) (va_Qv (S := Nat → Int32) (fun _ => True) (fun u t => PO D (va_A ([(h, .inr (7, [.ref a, .int 12, .int 0, .int 0, .int 0, .int 0])), (a, .inl (k 0, 400, .inl (f)))]) sz) ((fun u => [(h, .inr (7, [.ref a, .int 16, .int 0, .int 0, .int 0, .int 0])), (a, .inl (k 0, 400, .inl (u)))]) u) t) (va_A ([(h, .inr (7, [.ref a, .int 12, .int 0, .int 0, .int 0, .int 0])), (a, .inl (k 0, 400, .inl (f)))]) sz)) 0 0 (va_A ([(h, .inr (7, [.ref a, .int 12, .int 0, .int 0, .int 0, .int 0])), (a, .inl (k 0, 400, .inl (f)))]) sz) := by
  refine Met.ofW (cc := cX7_append) (maxL := 3) (ret := none) (by decide) rfl ?_
  intro p e s m args below meth c s₁ B hml hv
  obtain ⟨rfl, hsz, hP, hK, hD0, hE, hX⟩ := hv
  have hx := B.exec
  have hb := B.bytes
  have hr := B.returns
  have hw : ∀ w ∈ wsB, w.before _ s = true := fun w h => atoms_spec (ws := wB yX7_append cX7_append 3 none) B.pre w (List.mem_cons_of_mem _ h)
  have hown : s.vm.findClass RX7 = some m.cls := findClass_of_methodNamed B.named
  have hlocks := B.notSynchronized
  subst hsz
  have hD := hD0.self (sz := s.heap.size)
  generalize hAe : va_A ([(h, .inr (7, [.ref a, .int 12, .int 0, .int 0, .int 0, .int 0])), (a, .inl (k 0, 400, .inl (f)))]) s.heap.size = A at hD hX ⊢
  have hA : ∀ q : Nat, s.heap.size ≤ q → A q := fun q h => by rw [← hAe]; exact Or.inr h
  have hS : va_S A s.heap s.heap [] := va_S.rf
  have hl := lv_entry ([.ref h, .int p0]) (n := 3) (Nat.le_of_ble_eq_true rfl)
  rw [lg_entry_eq]
  generalize (lg_sl ([.ref h, .int p0]) ++ List.replicate (3 - (lg_sl ([.ref h, .int p0])).length) Slot.unset).toArray = ls at hl ⊢
  have hl : lv_has ls 3 [(0, .ref h), (1, .int p0)] := hl
  refine lv_bipush (v := 24) hx hb dX7_append_0 (by decide) ?_
  refine lv_istore_n (lv' := [(2, .int 24), (0, .ref h), (1, .int p0)]) hx hb dX7_append_2 rfl hl (by decide) rfl (fun ls hl => ?_)
  refine lv_iload_n hx hb dX7_append_3 rfl (lv_at hl 0 rfl) ?_
  refine lv_if_lt (tgt := 49) hx hb dX7_append_4 (by decide) (fun h => absurd h (by decide)) (fun _ => ?_)
  refine lv_aload_n hx hb dX7_append_7 rfl (lv_at hl 1 rfl) ?_
  refine va_get (D := D) (ci := 7) (v := .int 12) (C := RX7) (T := TX7) (N := 6) hx hb hw inlX7 hown hK hP 0 rfl rfl 1 (by decide) (hw _ wd_36) (fun _ h9 => h9) rfl dX7_append_8 ?_
  refine lv_sipush (v := 400) hx hb dX7_append_11 (by decide) ?_
  refine lv_icmp_ge (tgt := 49) hx hb dX7_append_14 (by decide) (fun h => absurd h (by decide)) (fun _ => ?_)
  refine lv_aload_n hx hb dX7_append_17 rfl (lv_at hl 1 rfl) ?_
  refine va_get (D := D) (ci := 7) (v := .ref a) (C := RX7) (T := TX7) (N := 6) hx hb hw inlX7 hown hK hP 0 rfl rfl 0 (by decide) (hw _ wd_34) (fun _ h9 => h9) rfl dX7_append_18 ?_
  refine lv_aload_n hx hb dX7_append_21 rfl (lv_at hl 1 rfl) ?_
  refine va_get (D := D) (ci := 7) (v := .int 12) (C := RX7) (T := TX7) (N := 6) hx hb hw inlX7 hown hK hP 0 rfl rfl 1 (by decide) (hw _ wd_36) (fun _ h9 => h9) rfl dX7_append_22 ?_
  refine lv_iload_n hx hb dX7_append_25 rfl (lv_at hl 2 rfl) ?_
  refine lv_iload_n hx hb dX7_append_26 rfl (lv_at hl 0 rfl) ?_
  refine lv_iushr hx hb dX7_append_27 rfl ?_
  refine lv_topi (fun z_2 ez_2 => ?_)
  refine lv_sipush (v := 255) hx hb dX7_append_28 (by decide) ?_
  refine lv_iand hx hb dX7_append_31 ?_
  refine lv_topi (fun z_3 ez_3 => ?_)
  refine va_iast hx hb hK hP hD hS 1 0 rfl rfl (i := 12) (by unfold vp_in; decide) dX7_append_32 (fun H locs hP hD hS => ?_)
  have hP : va_P D vwCl ([(h, .inr (7, [.ref a, .int 12, .int 0, .int 0, .int 0, .int 0])), (a, .inl (k 0, 400, .inl (upd (f) 12 z_3)))]) H := hP
  have hD : va_D A ([(h, .inr (7, [.ref a, .int 12, .int 0, .int 0, .int 0, .int 0])), (a, .inl (k 0, 400, .inl (upd (f) 12 z_3)))]) := hD
  refine lv_aload_n hx hb dX7_append_33 rfl (lv_at hl 1 rfl) ?_
  refine lv_dup hx hb dX7_append_34 rfl ?_
  refine va_get (D := D) (ci := 7) (v := .int 12) (C := RX7) (T := TX7) (N := 6) hx hb hw inlX7 hown hK hP 0 rfl rfl 1 (by decide) (hw _ wd_36) (fun _ h9 => h9) rfl dX7_append_35 ?_
  refine lv_iconst (v := 1) hx hb dX7_append_38 (by decide) ?_
  refine lv_iadd hx hb dX7_append_39 ?_
  refine x_top (v := 13) (by decide) ?_
  refine va_put (D := D) (ci := 7) (v := .int 13) (ty := .int) (C := RX7) (T := TX7) (N := 6) hx hb hw inlX7 tyX7 tyX7_ok nmX7 hown hK hP hD hS 0 rfl rfl 1 (by decide) (hw _ wd_36) (fun _ h9 => h9) rfl (by decide +kernel) rfl rfl (Nat.le_of_ble_eq_true rfl) dX7_append_40 (fun H locs hP hD hS => ?_)
  have hP : va_P D vwCl ([(h, .inr (7, [.ref a, .int 13, .int 0, .int 0, .int 0, .int 0])), (a, .inl (k 0, 400, .inl (upd (f) 12 z_3)))]) H := hP
  have hD : va_D A ([(h, .inr (7, [.ref a, .int 13, .int 0, .int 0, .int 0, .int 0])), (a, .inl (k 0, 400, .inl (upd (f) 12 z_3)))]) := hD
  refine lv_iinc (v := 16) (lv' := [(2, .int 16), (0, .ref h), (1, .int p0)]) hx hb dX7_append_43 hl (k := 0) rfl (by decide) (by decide) rfl (fun ls hl => ?_)
  refine lv_goto (tgt := 3) hx hb dX7_append_46 (by decide) ?_
  refine lv_iload_n hx hb dX7_append_3 rfl (lv_at hl 0 rfl) ?_
  refine lv_if_lt (tgt := 49) hx hb dX7_append_4 (by decide) (fun h => absurd h (by decide)) (fun _ => ?_)
  refine lv_aload_n hx hb dX7_append_7 rfl (lv_at hl 1 rfl) ?_
  refine va_get (D := D) (ci := 7) (v := .int 13) (C := RX7) (T := TX7) (N := 6) hx hb hw inlX7 hown hK hP 0 rfl rfl 1 (by decide) (hw _ wd_36) (fun _ h9 => h9) rfl dX7_append_8 ?_
  refine lv_sipush (v := 400) hx hb dX7_append_11 (by decide) ?_
  refine lv_icmp_ge (tgt := 49) hx hb dX7_append_14 (by decide) (fun h => absurd h (by decide)) (fun _ => ?_)
  refine lv_aload_n hx hb dX7_append_17 rfl (lv_at hl 1 rfl) ?_
  refine va_get (D := D) (ci := 7) (v := .ref a) (C := RX7) (T := TX7) (N := 6) hx hb hw inlX7 hown hK hP 0 rfl rfl 0 (by decide) (hw _ wd_34) (fun _ h9 => h9) rfl dX7_append_18 ?_
  refine lv_aload_n hx hb dX7_append_21 rfl (lv_at hl 1 rfl) ?_
  refine va_get (D := D) (ci := 7) (v := .int 13) (C := RX7) (T := TX7) (N := 6) hx hb hw inlX7 hown hK hP 0 rfl rfl 1 (by decide) (hw _ wd_36) (fun _ h9 => h9) rfl dX7_append_22 ?_
  refine lv_iload_n hx hb dX7_append_25 rfl (lv_at hl 2 rfl) ?_
  refine lv_iload_n hx hb dX7_append_26 rfl (lv_at hl 0 rfl) ?_
  refine lv_iushr hx hb dX7_append_27 rfl ?_
  refine lv_topi (fun z_5 ez_5 => ?_)
  refine lv_sipush (v := 255) hx hb dX7_append_28 (by decide) ?_
  refine lv_iand hx hb dX7_append_31 ?_
  refine lv_topi (fun z_6 ez_6 => ?_)
  refine va_iast hx hb hK hP hD hS 1 0 rfl rfl (i := 13) (by unfold vp_in; decide) dX7_append_32 (fun H locs hP hD hS => ?_)
  have hP : va_P D vwCl ([(h, .inr (7, [.ref a, .int 13, .int 0, .int 0, .int 0, .int 0])), (a, .inl (k 0, 400, .inl (upd (upd (f) 12 z_3) 13 z_6)))]) H := hP
  have hD : va_D A ([(h, .inr (7, [.ref a, .int 13, .int 0, .int 0, .int 0, .int 0])), (a, .inl (k 0, 400, .inl (upd (upd (f) 12 z_3) 13 z_6)))]) := hD
  refine lv_aload_n hx hb dX7_append_33 rfl (lv_at hl 1 rfl) ?_
  refine lv_dup hx hb dX7_append_34 rfl ?_
  refine va_get (D := D) (ci := 7) (v := .int 13) (C := RX7) (T := TX7) (N := 6) hx hb hw inlX7 hown hK hP 0 rfl rfl 1 (by decide) (hw _ wd_36) (fun _ h9 => h9) rfl dX7_append_35 ?_
  refine lv_iconst (v := 1) hx hb dX7_append_38 (by decide) ?_
  refine lv_iadd hx hb dX7_append_39 ?_
  refine x_top (v := 14) (by decide) ?_
  refine va_put (D := D) (ci := 7) (v := .int 14) (ty := .int) (C := RX7) (T := TX7) (N := 6) hx hb hw inlX7 tyX7 tyX7_ok nmX7 hown hK hP hD hS 0 rfl rfl 1 (by decide) (hw _ wd_36) (fun _ h9 => h9) rfl (by decide +kernel) rfl rfl (Nat.le_of_ble_eq_true rfl) dX7_append_40 (fun H locs hP hD hS => ?_)
  have hP : va_P D vwCl ([(h, .inr (7, [.ref a, .int 14, .int 0, .int 0, .int 0, .int 0])), (a, .inl (k 0, 400, .inl (upd (upd (f) 12 z_3) 13 z_6)))]) H := hP
  have hD : va_D A ([(h, .inr (7, [.ref a, .int 14, .int 0, .int 0, .int 0, .int 0])), (a, .inl (k 0, 400, .inl (upd (upd (f) 12 z_3) 13 z_6)))]) := hD
  refine lv_iinc (v := 8) (lv' := [(2, .int 8), (0, .ref h), (1, .int p0)]) hx hb dX7_append_43 hl (k := 0) rfl (by decide) (by decide) rfl (fun ls hl => ?_)
  refine lv_goto (tgt := 3) hx hb dX7_append_46 (by decide) ?_
  refine lv_iload_n hx hb dX7_append_3 rfl (lv_at hl 0 rfl) ?_
  refine lv_if_lt (tgt := 49) hx hb dX7_append_4 (by decide) (fun h => absurd h (by decide)) (fun _ => ?_)
  refine lv_aload_n hx hb dX7_append_7 rfl (lv_at hl 1 rfl) ?_
  refine va_get (D := D) (ci := 7) (v := .int 14) (C := RX7) (T := TX7) (N := 6) hx hb hw inlX7 hown hK hP 0 rfl rfl 1 (by decide) (hw _ wd_36) (fun _ h9 => h9) rfl dX7_append_8 ?_
  refine lv_sipush (v := 400) hx hb dX7_append_11 (by decide) ?_
  refine lv_icmp_ge (tgt := 49) hx hb dX7_append_14 (by decide) (fun h => absurd h (by decide)) (fun _ => ?_)
  refine lv_aload_n hx hb dX7_append_17 rfl (lv_at hl 1 rfl) ?_
  refine va_get (D := D) (ci := 7) (v := .ref a) (C := RX7) (T := TX7) (N := 6) hx hb hw inlX7 hown hK hP 0 rfl rfl 0 (by decide) (hw _ wd_34) (fun _ h9 => h9) rfl dX7_append_18 ?_
  refine lv_aload_n hx hb dX7_append_21 rfl (lv_at hl 1 rfl) ?_
  refine va_get (D := D) (ci := 7) (v := .int 14) (C := RX7) (T := TX7) (N := 6) hx hb hw inlX7 hown hK hP 0 rfl rfl 1 (by decide) (hw _ wd_36) (fun _ h9 => h9) rfl dX7_append_22 ?_
  refine lv_iload_n hx hb dX7_append_25 rfl (lv_at hl 2 rfl) ?_
  refine lv_iload_n hx hb dX7_append_26 rfl (lv_at hl 0 rfl) ?_
  refine lv_iushr hx hb dX7_append_27 rfl ?_
  refine lv_topi (fun z_8 ez_8 => ?_)
  refine lv_sipush (v := 255) hx hb dX7_append_28 (by decide) ?_
  refine lv_iand hx hb dX7_append_31 ?_
  refine lv_topi (fun z_9 ez_9 => ?_)
  refine va_iast hx hb hK hP hD hS 1 0 rfl rfl (i := 14) (by unfold vp_in; decide) dX7_append_32 (fun H locs hP hD hS => ?_)
  have hP : va_P D vwCl ([(h, .inr (7, [.ref a, .int 14, .int 0, .int 0, .int 0, .int 0])), (a, .inl (k 0, 400, .inl (upd (upd (upd (f) 12 z_3) 13 z_6) 14 z_9)))]) H := hP
  have hD : va_D A ([(h, .inr (7, [.ref a, .int 14, .int 0, .int 0, .int 0, .int 0])), (a, .inl (k 0, 400, .inl (upd (upd (upd (f) 12 z_3) 13 z_6) 14 z_9)))]) := hD
  refine lv_aload_n hx hb dX7_append_33 rfl (lv_at hl 1 rfl) ?_
  refine lv_dup hx hb dX7_append_34 rfl ?_
  refine va_get (D := D) (ci := 7) (v := .int 14) (C := RX7) (T := TX7) (N := 6) hx hb hw inlX7 hown hK hP 0 rfl rfl 1 (by decide) (hw _ wd_36) (fun _ h9 => h9) rfl dX7_append_35 ?_
  refine lv_iconst (v := 1) hx hb dX7_append_38 (by decide) ?_
  refine lv_iadd hx hb dX7_append_39 ?_
  refine x_top (v := 15) (by decide) ?_
  refine va_put (D := D) (ci := 7) (v := .int 15) (ty := .int) (C := RX7) (T := TX7) (N := 6) hx hb hw inlX7 tyX7 tyX7_ok nmX7 hown hK hP hD hS 0 rfl rfl 1 (by decide) (hw _ wd_36) (fun _ h9 => h9) rfl (by decide +kernel) rfl rfl (Nat.le_of_ble_eq_true rfl) dX7_append_40 (fun H locs hP hD hS => ?_)
  have hP : va_P D vwCl ([(h, .inr (7, [.ref a, .int 15, .int 0, .int 0, .int 0, .int 0])), (a, .inl (k 0, 400, .inl (upd (upd (upd (f) 12 z_3) 13 z_6) 14 z_9)))]) H := hP
  have hD : va_D A ([(h, .inr (7, [.ref a, .int 15, .int 0, .int 0, .int 0, .int 0])), (a, .inl (k 0, 400, .inl (upd (upd (upd (f) 12 z_3) 13 z_6) 14 z_9)))]) := hD
  refine lv_iinc (v := 0) (lv' := [(2, .int 0), (0, .ref h), (1, .int p0)]) hx hb dX7_append_43 hl (k := 0) rfl (by decide) (by decide) rfl (fun ls hl => ?_)
  refine lv_goto (tgt := 3) hx hb dX7_append_46 (by decide) ?_
  refine lv_iload_n hx hb dX7_append_3 rfl (lv_at hl 0 rfl) ?_
  refine lv_if_lt (tgt := 49) hx hb dX7_append_4 (by decide) (fun h => absurd h (by decide)) (fun _ => ?_)
  refine lv_aload_n hx hb dX7_append_7 rfl (lv_at hl 1 rfl) ?_
  refine va_get (D := D) (ci := 7) (v := .int 15) (C := RX7) (T := TX7) (N := 6) hx hb hw inlX7 hown hK hP 0 rfl rfl 1 (by decide) (hw _ wd_36) (fun _ h9 => h9) rfl dX7_append_8 ?_
  refine lv_sipush (v := 400) hx hb dX7_append_11 (by decide) ?_
  refine lv_icmp_ge (tgt := 49) hx hb dX7_append_14 (by decide) (fun h => absurd h (by decide)) (fun _ => ?_)
  refine lv_aload_n hx hb dX7_append_17 rfl (lv_at hl 1 rfl) ?_
  refine va_get (D := D) (ci := 7) (v := .ref a) (C := RX7) (T := TX7) (N := 6) hx hb hw inlX7 hown hK hP 0 rfl rfl 0 (by decide) (hw _ wd_34) (fun _ h9 => h9) rfl dX7_append_18 ?_
  refine lv_aload_n hx hb dX7_append_21 rfl (lv_at hl 1 rfl) ?_
  refine va_get (D := D) (ci := 7) (v := .int 15) (C := RX7) (T := TX7) (N := 6) hx hb hw inlX7 hown hK hP 0 rfl rfl 1 (by decide) (hw _ wd_36) (fun _ h9 => h9) rfl dX7_append_22 ?_
  refine lv_iload_n hx hb dX7_append_25 rfl (lv_at hl 2 rfl) ?_
  refine lv_iload_n hx hb dX7_append_26 rfl (lv_at hl 0 rfl) ?_
  refine lv_iushr hx hb dX7_append_27 rfl ?_
  refine lv_topi (fun z_11 ez_11 => ?_)
  refine lv_sipush (v := 255) hx hb dX7_append_28 (by decide) ?_
  refine lv_iand hx hb dX7_append_31 ?_
  refine lv_topi (fun z_12 ez_12 => ?_)
  refine va_iast hx hb hK hP hD hS 1 0 rfl rfl (i := 15) (by unfold vp_in; decide) dX7_append_32 (fun H locs hP hD hS => ?_)
  have hP : va_P D vwCl ([(h, .inr (7, [.ref a, .int 15, .int 0, .int 0, .int 0, .int 0])), (a, .inl (k 0, 400, .inl (upd (upd (upd (upd (f) 12 z_3) 13 z_6) 14 z_9) 15 z_12)))]) H := hP
  have hD : va_D A ([(h, .inr (7, [.ref a, .int 15, .int 0, .int 0, .int 0, .int 0])), (a, .inl (k 0, 400, .inl (upd (upd (upd (upd (f) 12 z_3) 13 z_6) 14 z_9) 15 z_12)))]) := hD
  refine lv_aload_n hx hb dX7_append_33 rfl (lv_at hl 1 rfl) ?_
  refine lv_dup hx hb dX7_append_34 rfl ?_
  refine va_get (D := D) (ci := 7) (v := .int 15) (C := RX7) (T := TX7) (N := 6) hx hb hw inlX7 hown hK hP 0 rfl rfl 1 (by decide) (hw _ wd_36) (fun _ h9 => h9) rfl dX7_append_35 ?_
  refine lv_iconst (v := 1) hx hb dX7_append_38 (by decide) ?_
  refine lv_iadd hx hb dX7_append_39 ?_
  refine x_top (v := 16) (by decide) ?_
  refine va_put (D := D) (ci := 7) (v := .int 16) (ty := .int) (C := RX7) (T := TX7) (N := 6) hx hb hw inlX7 tyX7 tyX7_ok nmX7 hown hK hP hD hS 0 rfl rfl 1 (by decide) (hw _ wd_36) (fun _ h9 => h9) rfl (by decide +kernel) rfl rfl (Nat.le_of_ble_eq_true rfl) dX7_append_40 (fun H locs hP hD hS => ?_)
  have hP : va_P D vwCl ([(h, .inr (7, [.ref a, .int 16, .int 0, .int 0, .int 0, .int 0])), (a, .inl (k 0, 400, .inl (upd (upd (upd (upd (f) 12 z_3) 13 z_6) 14 z_9) 15 z_12)))]) H := hP
  have hD : va_D A ([(h, .inr (7, [.ref a, .int 16, .int 0, .int 0, .int 0, .int 0])), (a, .inl (k 0, 400, .inl (upd (upd (upd (upd (f) 12 z_3) 13 z_6) 14 z_9) 15 z_12)))]) := hD
  refine lv_iinc (v := (-8)) (lv' := [(2, .int (-8)), (0, .ref h), (1, .int p0)]) hx hb dX7_append_43 hl (k := 0) rfl (by decide) (by decide) rfl (fun ls hl => ?_)
  refine lv_goto (tgt := 3) hx hb dX7_append_46 (by decide) ?_
  refine lv_iload_n hx hb dX7_append_3 rfl (lv_at hl 0 rfl) ?_
  refine lv_if_lt (tgt := 49) hx hb dX7_append_4 (by decide) (fun _ => ?_) (fun h => absurd (by decide) h)
  refine W.widen (k := 0) (n := 0) (Nat.le_of_ble_eq_true rfl) (Nat.le_of_ble_eq_true rfl) ?_
  have hP9 : va_P D vwCl ((fun u => [(h, .inr (7, [.ref a, .int 16, .int 0, .int 0, .int 0, .int 0])), (a, .inl (k 0, 400, .inl (u)))]) (upd (upd (upd (upd (f) 12 z_3) 13 z_6) 14 z_9) 15 z_12)) H := hP.sub [0, 1] rfl
  have hD9 : va_D A ((fun u => [(h, .inr (7, [.ref a, .int 16, .int 0, .int 0, .int 0, .int 0])), (a, .inl (k 0, 400, .inl (u)))]) (upd (upd (upd (upd (f) 12 z_3) 13 z_6) 14 z_9) 15 z_12)) := hD.sub [0, 1] (by decide) rfl
  exact W.vret hx hb hr (fun t ht hW => ⟨⟨(upd (upd (upd (upd (f) 12 z_3) 13 z_6) 14 z_9) 15 z_12), rfl, trivial, by rw [ht]; exact hP9, hD9⟩, hS.F ht⟩) hS.2.2 dX7_append_49

set_option maxHeartbeats 4000000 in
set_option maxRecDepth 100000 in
theorem kX7_append_16 (l : Launch) (D : va_G) (k : Nat → ClassId) (sd : Nat → Nat) (h : Nat) (a : Nat) (f : Nat → Int32) (p0 : Int32) (sz : Nat) : Met l yX7_append (wB yX7_append cX7_append 3 none) ({ frames := 0, cells := 0, slots := 0, locals := 0 }) (va_Pc [.ref h, .int p0] (PRE D k sd ([(h, .inr (7, [.ref a, .int 16, .int 0, .int 0, .int 0, .int 0])), (a, .inl (k 0, 400, .inl (f)))]) sz)) (va_Qv (S := Nat → Int32) (fun _ => True) (fun u t => PO D (va_A ([(h, .inr (7, [.ref a, .int 16, .int 0, .int 0, .int 0, .int 0])), (a, .inl (k 0, 400, .inl (f)))]) sz) ((fun u => [(h, .inr (7, [.ref a, .int 20, .int 0, .int 0, .int 0, .int 0])), (a, .inl (k 0, 400, .inl (u)))]) u) t) (va_A ([(h, .inr (7, [.ref a, .int 16, .int 0, .int 0, .int 0, .int 0])), (a, .inl (k 0, 400, .inl (f)))]) sz)) 0 0 (va_A ([(h, .inr (7, [.ref a, .int 16, .int 0, .int 0, .int 0, .int 0])), (a, .inl (k 0, 400, .inl (f)))]) sz) := by
  refine Met.ofW (cc := cX7_append) (maxL := 3) (ret := none) (by decide) rfl ?_
  intro p e s m args below meth c s₁ B hml hv
  obtain ⟨rfl, hsz, hP, hK, hD0, hE, hX⟩ := hv
  have hx := B.exec
  have hb := B.bytes
  have hr := B.returns
  have hw : ∀ w ∈ wsB, w.before _ s = true := fun w h => atoms_spec (ws := wB yX7_append cX7_append 3 none) B.pre w (List.mem_cons_of_mem _ h)
  have hown : s.vm.findClass RX7 = some m.cls := findClass_of_methodNamed B.named
  have hlocks := B.notSynchronized
  subst hsz
  have hD := hD0.self (sz := s.heap.size)
  generalize hAe : va_A ([(h, .inr (7, [.ref a, .int 16, .int 0, .int 0, .int 0, .int 0])), (a, .inl (k 0, 400, .inl (f)))]) s.heap.size = A at hD hX ⊢
  have hA : ∀ q : Nat, s.heap.size ≤ q → A q := fun q h => by rw [← hAe]; exact Or.inr h
  have hS : va_S A s.heap s.heap [] := va_S.rf
  have hl := lv_entry ([.ref h, .int p0]) (n := 3) (Nat.le_of_ble_eq_true rfl)
  rw [lg_entry_eq]
  generalize (lg_sl ([.ref h, .int p0]) ++ List.replicate (3 - (lg_sl ([.ref h, .int p0])).length) Slot.unset).toArray = ls at hl ⊢
  have hl : lv_has ls 3 [(0, .ref h), (1, .int p0)] := hl
  refine lv_bipush (v := 24) hx hb dX7_append_0 (by decide) ?_
  refine lv_istore_n (lv' := [(2, .int 24), (0, .ref h), (1, .int p0)]) hx hb dX7_append_2 rfl hl (by decide) rfl (fun ls hl => ?_)
  refine lv_iload_n hx hb dX7_append_3 rfl (lv_at hl 0 rfl) ?_
  refine lv_if_lt (tgt := 49) hx hb dX7_append_4 (by decide) (fun h => absurd h (by decide)) (fun _ => ?_)
  refine lv_aload_n hx hb dX7_append_7 rfl (lv_at hl 1 rfl) ?_
  refine va_get (D := D) (ci := 7) (v := .int 16) (C := RX7) (T := TX7) (N := 6) hx hb hw inlX7 hown hK hP 0 rfl rfl 1 (by decide) (hw _ wd_36) (fun _ h9 => h9) rfl dX7_append_8 ?_
  refine lv_sipush (v := 400) hx hb dX7_append_11 (by decide) ?_
  refine lv_icmp_ge (tgt := 49) hx hb dX7_append_14 (by decide) (fun h => absurd h (by decide)) (fun _ => ?_)
  refine lv_aload_n hx hb dX7_append_17 rfl (lv_at hl 1 rfl) ?_
  refine va_get (D := D) (ci := 7) (v := .ref a) (C := RX7) (T := TX7) (N := 6) hx hb hw inlX7 hown hK hP 0 rfl rfl 0 (by decide) (hw _ wd_34) (fun _ h9 => h9) rfl dX7_append_18 ?_
  refine lv_aload_n hx hb dX7_append_21 rfl (lv_at hl 1 rfl) ?_
  refine va_get (D := D) (ci := 7) (v := .int 16) (C := RX7) (T := TX7) (N := 6) hx hb hw inlX7 hown hK hP 0 rfl rfl 1 (by decide) (hw _ wd_36) (fun _ h9 => h9) rfl dX7_append_22 ?_
  refine lv_iload_n hx hb dX7_append_25 rfl (lv_at hl 2 rfl) ?_
  refine lv_iload_n hx hb dX7_append_26 rfl (lv_at hl 0 rfl) ?_
  refine lv_iushr hx hb dX7_append_27 rfl ?_
  refine lv_topi (fun z_2 ez_2 => ?_)
  refine lv_sipush (v := 255) hx hb dX7_append_28 (by decide) ?_
  refine lv_iand hx hb dX7_append_31 ?_
  refine lv_topi (fun z_3 ez_3 => ?_)
  refine va_iast hx hb hK hP hD hS 1 0 rfl rfl (i := 16) (by unfold vp_in; decide) dX7_append_32 (fun H locs hP hD hS => ?_)
  have hP : va_P D vwCl ([(h, .inr (7, [.ref a, .int 16, .int 0, .int 0, .int 0, .int 0])), (a, .inl (k 0, 400, .inl (upd (f) 16 z_3)))]) H := hP
  have hD : va_D A ([(h, .inr (7, [.ref a, .int 16, .int 0, .int 0, .int 0, .int 0])), (a, .inl (k 0, 400, .inl (upd (f) 16 z_3)))]) := hD
  refine lv_aload_n hx hb dX7_append_33 rfl (lv_at hl 1 rfl) ?_
  refine lv_dup hx hb dX7_append_34 rfl ?_
  refine va_get (D := D) (ci := 7) (v := .int 16) (C := RX7) (T := TX7) (N := 6) hx hb hw inlX7 hown hK hP 0 rfl rfl 1 (by decide) (hw _ wd_36) (fun _ h9 => h9) rfl dX7_append_35 ?_
  refine lv_iconst (v := 1) hx hb dX7_append_38 (by decide) ?_
  refine lv_iadd hx hb dX7_append_39 ?_
  refine x_top (v := 17) (by decide) ?_
  refine va_put (D := D) (ci := 7) (v := .int 17) (ty := .int) (C := RX7) (T := TX7) (N := 6) hx hb hw inlX7 tyX7 tyX7_ok nmX7 hown hK hP hD hS 0 rfl rfl 1 (by decide) (hw _ wd_36) (fun _ h9 => h9) rfl (by decide +kernel) rfl rfl (Nat.le_of_ble_eq_true rfl) dX7_append_40 (fun H locs hP hD hS => ?_)
  have hP : va_P D vwCl ([(h, .inr (7, [.ref a, .int 17, .int 0, .int 0, .int 0, .int 0])), (a, .inl (k 0, 400, .inl (upd (f) 16 z_3)))]) H := hP
  have hD : va_D A ([(h, .inr (7, [.ref a, .int 17, .int 0, .int 0, .int 0, .int 0])), (a, .inl (k 0, 400, .inl (upd (f) 16 z_3)))]) := hD
  refine lv_iinc (v := 16) (lv' := [(2, .int 16), (0, .ref h), (1, .int p0)]) hx hb dX7_append_43 hl (k := 0) rfl (by decide) (by decide) rfl (fun ls hl => ?_)
  refine lv_goto (tgt := 3) hx hb dX7_append_46 (by decide) ?_
  refine lv_iload_n hx hb dX7_append_3 rfl (lv_at hl 0 rfl) ?_
  refine lv_if_lt (tgt := 49) hx hb dX7_append_4 (by decide) (fun h => absurd h (by decide)) (fun _ => ?_)
  refine lv_aload_n hx hb dX7_append_7 rfl (lv_at hl 1 rfl) ?_
  refine va_get (D := D) (ci := 7) (v := .int 17) (C := RX7) (T := TX7) (N := 6) hx hb hw inlX7 hown hK hP 0 rfl rfl 1 (by decide) (hw _ wd_36) (fun _ h9 => h9) rfl dX7_append_8 ?_
  refine lv_sipush (v := 400) hx hb dX7_append_11 (by decide) ?_
  refine lv_icmp_ge (tgt := 49) hx hb dX7_append_14 (by decide) (fun h => absurd h (by decide)) (fun _ => ?_)
  refine lv_aload_n hx hb dX7_append_17 rfl (lv_at hl 1 rfl) ?_
  refine va_get (D := D) (ci := 7) (v := .ref a) (C := RX7) (T := TX7) (N := 6) hx hb hw inlX7 hown hK hP 0 rfl rfl 0 (by decide) (hw _ wd_34) (fun _ h9 => h9) rfl dX7_append_18 ?_
  refine lv_aload_n hx hb dX7_append_21 rfl (lv_at hl 1 rfl) ?_
  refine va_get (D := D) (ci := 7) (v := .int 17) (C := RX7) (T := TX7) (N := 6) hx hb hw inlX7 hown hK hP 0 rfl rfl 1 (by decide) (hw _ wd_36) (fun _ h9 => h9) rfl dX7_append_22 ?_
  refine lv_iload_n hx hb dX7_append_25 rfl (lv_at hl 2 rfl) ?_
  refine lv_iload_n hx hb dX7_append_26 rfl (lv_at hl 0 rfl) ?_
  refine lv_iushr hx hb dX7_append_27 rfl ?_
  refine lv_topi (fun z_5 ez_5 => ?_)
  refine lv_sipush (v := 255) hx hb dX7_append_28 (by decide) ?_
  refine lv_iand hx hb dX7_append_31 ?_
  refine lv_topi (fun z_6 ez_6 => ?_)
  refine va_iast hx hb hK hP hD hS 1 0 rfl rfl (i := 17) (by unfold vp_in; decide) dX7_append_32 (fun H locs hP hD hS => ?_)
  have hP : va_P D vwCl ([(h, .inr (7, [.ref a, .int 17, .int 0, .int 0, .int 0, .int 0])), (a, .inl (k 0, 400, .inl (upd (upd (f) 16 z_3) 17 z_6)))]) H := hP
  have hD : va_D A ([(h, .inr (7, [.ref a, .int 17, .int 0, .int 0, .int 0, .int 0])), (a, .inl (k 0, 400, .inl (upd (upd (f) 16 z_3) 17 z_6)))]) := hD
  refine lv_aload_n hx hb dX7_append_33 rfl (lv_at hl 1 rfl) ?_
  refine lv_dup hx hb dX7_append_34 rfl ?_
  refine va_get (D := D) (ci := 7) (v := .int 17) (C := RX7) (T := TX7) (N := 6) hx hb hw inlX7 hown hK hP 0 rfl rfl 1 (by decide) (hw _ wd_36) (fun _ h9 => h9) rfl dX7_append_35 ?_
  refine lv_iconst (v := 1) hx hb dX7_append_38 (by decide) ?_
  refine lv_iadd hx hb dX7_append_39 ?_
  refine x_top (v := 18) (by decide) ?_
  refine va_put (D := D) (ci := 7) (v := .int 18) (ty := .int) (C := RX7) (T := TX7) (N := 6) hx hb hw inlX7 tyX7 tyX7_ok nmX7 hown hK hP hD hS 0 rfl rfl 1 (by decide) (hw _ wd_36) (fun _ h9 => h9) rfl (by decide +kernel) rfl rfl (Nat.le_of_ble_eq_true rfl) dX7_append_40 (fun H locs hP hD hS => ?_)
  have hP : va_P D vwCl ([(h, .inr (7, [.ref a, .int 18, .int 0, .int 0, .int 0, .int 0])), (a, .inl (k 0, 400, .inl (upd (upd (f) 16 z_3) 17 z_6)))]) H := hP
  have hD : va_D A ([(h, .inr (7, [.ref a, .int 18, .int 0, .int 0, .int 0, .int 0])), (a, .inl (k 0, 400, .inl (upd (upd (f) 16 z_3) 17 z_6)))]) := hD
  refine lv_iinc (v := 8) (lv' := [(2, .int 8), (0, .ref h), (1, .int p0)]) hx hb dX7_append_43 hl (k := 0) rfl (by decide) (by decide) rfl (fun ls hl => ?_)
  refine lv_goto (tgt := 3) hx hb dX7_append_46 (by decide) ?_
  refine lv_iload_n hx hb dX7_append_3 rfl (lv_at hl 0 rfl) ?_
  refine lv_if_lt (tgt := 49) hx hb dX7_append_4 (by decide) (fun h => absurd h (by decide)) (fun _ => ?_)
  refine lv_aload_n hx hb dX7_append_7 rfl (lv_at hl 1 rfl) ?_
  refine va_get (D := D) (ci := 7) (v := .int 18) (C := RX7) (T := TX7) (N := 6) hx hb hw inlX7 hown hK hP 0 rfl rfl 1 (by decide) (hw _ wd_36) (fun _ h9 => h9) rfl dX7_append_8 ?_
  refine lv_sipush (v := 400) hx hb dX7_append_11 (by decide) ?_
  refine lv_icmp_ge (tgt := 49) hx hb dX7_append_14 (by decide) (fun h => absurd h (by decide)) (fun _ => ?_)
  refine lv_aload_n hx hb dX7_append_17 rfl (lv_at hl 1 rfl) ?_
  refine va_get (D := D) (ci := 7) (v := .ref a) (C := RX7) (T := TX7) (N := 6) hx hb hw inlX7 hown hK hP 0 rfl rfl 0 (by decide) (hw _ wd_34) (fun _ h9 => h9) rfl dX7_append_18 ?_
  refine lv_aload_n hx hb dX7_append_21 rfl (lv_at hl 1 rfl) ?_
  refine va_get (D := D) (ci := 7) (v := .int 18) (C := RX7) (T := TX7) (N := 6) hx hb hw inlX7 hown hK hP 0 rfl rfl 1 (by decide) (hw _ wd_36) (fun _ h9 => h9) rfl dX7_append_22 ?_
  refine lv_iload_n hx hb dX7_append_25 rfl (lv_at hl 2 rfl) ?_
  refine lv_iload_n hx hb dX7_append_26 rfl (lv_at hl 0 rfl) ?_
  refine lv_iushr hx hb dX7_append_27 rfl ?_
  refine lv_topi (fun z_8 ez_8 => ?_)
  refine lv_sipush (v := 255) hx hb dX7_append_28 (by decide) ?_
  refine lv_iand hx hb dX7_append_31 ?_
  refine lv_topi (fun z_9 ez_9 => ?_)
  refine va_iast hx hb hK hP hD hS 1 0 rfl rfl (i := 18) (by unfold vp_in; decide) dX7_append_32 (fun H locs hP hD hS => ?_)
  have hP : va_P D vwCl ([(h, .inr (7, [.ref a, .int 18, .int 0, .int 0, .int 0, .int 0])), (a, .inl (k 0, 400, .inl (upd (upd (upd (f) 16 z_3) 17 z_6) 18 z_9)))]) H := hP
  have hD : va_D A ([(h, .inr (7, [.ref a, .int 18, .int 0, .int 0, .int 0, .int 0])), (a, .inl (k 0, 400, .inl (upd (upd (upd (f) 16 z_3) 17 z_6) 18 z_9)))]) := hD
  refine lv_aload_n hx hb dX7_append_33 rfl (lv_at hl 1 rfl) ?_
  refine lv_dup hx hb dX7_append_34 rfl ?_
  refine va_get (D := D) (ci := 7) (v := .int 18) (C := RX7) (T := TX7) (N := 6) hx hb hw inlX7 hown hK hP 0 rfl rfl 1 (by decide) (hw _ wd_36) (fun _ h9 => h9) rfl dX7_append_35 ?_
  refine lv_iconst (v := 1) hx hb dX7_append_38 (by decide) ?_
  refine lv_iadd hx hb dX7_append_39 ?_
  refine x_top (v := 19) (by decide) ?_
  refine va_put (D := D) (ci := 7) (v := .int 19) (ty := .int) (C := RX7) (T := TX7) (N := 6) hx hb hw inlX7 tyX7 tyX7_ok nmX7 hown hK hP hD hS 0 rfl rfl 1 (by decide) (hw _ wd_36) (fun _ h9 => h9) rfl (by decide +kernel) rfl rfl (Nat.le_of_ble_eq_true rfl) dX7_append_40 (fun H locs hP hD hS => ?_)
  have hP : va_P D vwCl ([(h, .inr (7, [.ref a, .int 19, .int 0, .int 0, .int 0, .int 0])), (a, .inl (k 0, 400, .inl (upd (upd (upd (f) 16 z_3) 17 z_6) 18 z_9)))]) H := hP
  have hD : va_D A ([(h, .inr (7, [.ref a, .int 19, .int 0, .int 0, .int 0, .int 0])), (a, .inl (k 0, 400, .inl (upd (upd (upd (f) 16 z_3) 17 z_6) 18 z_9)))]) := hD
  refine lv_iinc (v := 0) (lv' := [(2, .int 0), (0, .ref h), (1, .int p0)]) hx hb dX7_append_43 hl (k := 0) rfl (by decide) (by decide) rfl (fun ls hl => ?_)
  refine lv_goto (tgt := 3) hx hb dX7_append_46 (by decide) ?_
  refine lv_iload_n hx hb dX7_append_3 rfl (lv_at hl 0 rfl) ?_
  refine lv_if_lt (tgt := 49) hx hb dX7_append_4 (by decide) (fun h => absurd h (by decide)) (fun _ => ?_)
  refine lv_aload_n hx hb dX7_append_7 rfl (lv_at hl 1 rfl) ?_
  refine va_get (D := D) (ci := 7) (v := .int 19) (C := RX7) (T := TX7) (N := 6) hx hb hw inlX7 hown hK hP 0 rfl rfl 1 (by decide) (hw _ wd_36) (fun _ h9 => h9) rfl dX7_append_8 ?_
  refine lv_sipush (v := 400) hx hb dX7_append_11 (by decide) ?_
  refine lv_icmp_ge (tgt := 49) hx hb dX7_append_14 (by decide) (fun h => absurd h (by decide)) (fun _ => ?_)
  refine lv_aload_n hx hb dX7_append_17 rfl (lv_at hl 1 rfl) ?_
  refine va_get (D := D) (ci := 7) (v := .ref a) (C := RX7) (T := TX7) (N := 6) hx hb hw inlX7 hown hK hP 0 rfl rfl 0 (by decide) (hw _ wd_34) (fun _ h9 => h9) rfl dX7_append_18 ?_
  refine lv_aload_n hx hb dX7_append_21 rfl (lv_at hl 1 rfl) ?_
  refine va_get (D := D) (ci := 7) (v := .int 19) (C := RX7) (T := TX7) (N := 6) hx hb hw inlX7 hown hK hP 0 rfl rfl 1 (by decide) (hw _ wd_36) (fun _ h9 => h9) rfl dX7_append_22 ?_
  refine lv_iload_n hx hb dX7_append_25 rfl (lv_at hl 2 rfl) ?_
  refine lv_iload_n hx hb dX7_append_26 rfl (lv_at hl 0 rfl) ?_
  refine lv_iushr hx hb dX7_append_27 rfl ?_
  refine lv_topi (fun z_11 ez_11 => ?_)
  refine lv_sipush (v := 255) hx hb dX7_append_28 (by decide) ?_
  refine lv_iand hx hb dX7_append_31 ?_
  refine lv_topi (fun z_12 ez_12 => ?_)
  refine va_iast hx hb hK hP hD hS 1 0 rfl rfl (i := 19) (by unfold vp_in; decide) dX7_append_32 (fun H locs hP hD hS => ?_)
  have hP : va_P D vwCl ([(h, .inr (7, [.ref a, .int 19, .int 0, .int 0, .int 0, .int 0])), (a, .inl (k 0, 400, .inl (upd (upd (upd (upd (f) 16 z_3) 17 z_6) 18 z_9) 19 z_12)))]) H := hP
  have hD : va_D A ([(h, .inr (7, [.ref a, .int 19, .int 0, .int 0, .int 0, .int 0])), (a, .inl (k 0, 400, .inl (upd (upd (upd (upd (f) 16 z_3) 17 z_6) 18 z_9) 19 z_12)))]) := hD
  refine lv_aload_n hx hb dX7_append_33 rfl (lv_at hl 1 rfl) ?_
  refine lv_dup hx hb dX7_append_34 rfl ?_
  refine va_get (D := D) (ci := 7) (v := .int 19) (C := RX7) (T := TX7) (N := 6) hx hb hw inlX7 hown hK hP 0 rfl rfl 1 (by decide) (hw _ wd_36) (fun _ h9 => h9) rfl dX7_append_35 ?_
  refine lv_iconst (v := 1) hx hb dX7_append_38 (by decide) ?_
  refine lv_iadd hx hb dX7_append_39 ?_
  refine x_top (v := 20) (by decide) ?_
  refine va_put (D := D) (ci := 7) (v := .int 20) (ty := .int) (C := RX7) (T := TX7) (N := 6) hx hb hw inlX7 tyX7 tyX7_ok nmX7 hown hK hP hD hS 0 rfl rfl 1 (by decide) (hw _ wd_36) (fun _ h9 => h9) rfl (by decide +kernel) rfl rfl (Nat.le_of_ble_eq_true rfl) dX7_append_40 (fun H locs hP hD hS => ?_)
  have hP : va_P D vwCl ([(h, .inr (7, [.ref a, .int 20, .int 0, .int 0, .int 0, .int 0])), (a, .inl (k 0, 400, .inl (upd (upd (upd (upd (f) 16 z_3) 17 z_6) 18 z_9) 19 z_12)))]) H := hP
  have hD : va_D A ([(h, .inr (7, [.ref a, .int 20, .int 0, .int 0, .int 0, .int 0])), (a, .inl (k 0, 400, .inl (upd (upd (upd (upd (f) 16 z_3) 17 z_6) 18 z_9) 19 z_12)))]) := hD
  refine lv_iinc (v := (-8)) (lv' := [(2, .int (-8)), (0, .ref h), (1, .int p0)]) hx hb dX7_append_43 hl (k := 0) rfl (by decide) (by decide) rfl (fun ls hl => ?_)
  refine lv_goto (tgt := 3) hx hb dX7_append_46 (by decide) ?_
  refine lv_iload_n hx hb dX7_append_3 rfl (lv_at hl 0 rfl) ?_
  refine lv_if_lt (tgt := 49) hx hb dX7_append_4 (by decide) (fun _ => ?_) (fun h => absurd (by decide) h)
  refine W.widen (k := 0) (n := 0) (Nat.le_of_ble_eq_true rfl) (Nat.le_of_ble_eq_true rfl) ?_
  have hP9 : va_P D vwCl ((fun u => [(h, .inr (7, [.ref a, .int 20, .int 0, .int 0, .int 0, .int 0])), (a, .inl (k 0, 400, .inl (u)))]) (upd (upd (upd (upd (f) 16 z_3) 17 z_6) 18 z_9) 19 z_12)) H := hP.sub [0, 1] rfl
  have hD9 : va_D A ((fun u => [(h, .inr (7, [.ref a, .int 20, .int 0, .int 0, .int 0, .int 0])), (a, .inl (k 0, 400, .inl (u)))]) (upd (upd (upd (upd (f) 16 z_3) 17 z_6) 18 z_9) 19 z_12)) := hD.sub [0, 1] (by decide) rfl
  exact W.vret hx hb hr (fun t ht hW => ⟨⟨(upd (upd (upd (upd (f) 16 z_3) 17 z_6) 18 z_9) 19 z_12), rfl, trivial, by rw [ht]; exact hP9, hD9⟩, hS.F ht⟩) hS.2.2 dX7_append_49

set_option maxHeartbeats 4000000 in
set_option maxRecDepth 100000 in
theorem kX9_feed (l : Launch) (D : va_G) (k : Nat → ClassId) (sd : Nat → Nat) (x : Nat) (a0 : Nat) (a1 : Nat) (a2 : Nat) (a3 : Nat) (a4 : Nat) (a5 : Nat) (a6 : Nat) (a7 : Nat) (a8 : Nat) (a9 : Nat) (a10 : Nat) (b0 : Nat) (f : Nat → Int32) (p0 : Int32) (p1 : Int32) (p2 : Int32) (p3 : Int32) (p4 : Int32) (sz : Nat) : Met l yX9_feed (wB yX9_feed cX9_feed 6 (some .int)) ({ frames := 1, cells := 0, slots := 0, locals := 22 }) (va_Pc [.ref x, .int p0, .int p1, .int p2, .int p3, .int p4] (PRE D k sd ([(x, .inr (9, [.ref a0, .ref a1, .ref a2, .ref a3, .int 0, .ref a4, .ref a5, .ref a6, .ref a7, .ref a8, .ref a9, .ref a10])), (a0, .inr (7, [.ref b0, .int 0, .int 0, .int 0, .int 0, .int 0])), (b0, .inl (k 0, 400, .inl (f)))]) sz)) (va_Qi (S := Unit) (fun r _ => r = 20) (fun u t => PO D (va_A ([(x, .inr (9, [.ref a0, .ref a1, .ref a2, .ref a3, .int 0, .ref a4, .ref a5, .ref a6, .ref a7, .ref a8, .ref a9, .ref a10])), (a0, .inr (7, [.ref b0, .int 0, .int 0, .int 0, .int 0, .int 0])), (b0, .inl (k 0, 400, .inl (f)))]) sz) ((fun _ => ([] : va_W)) u) t) (va_A ([(x, .inr (9, [.ref a0, .ref a1, .ref a2, .ref a3, .int 0, .ref a4, .ref a5, .ref a6, .ref a7, .ref a8, .ref a9, .ref a10])), (a0, .inr (7, [.ref b0, .int 0, .int 0, .int 0, .int 0, .int 0])), (b0, .inl (k 0, 400, .inl (f)))]) sz)) 0 0 (va_A ([(x, .inr (9, [.ref a0, .ref a1, .ref a2, .ref a3, .int 0, .ref a4, .ref a5, .ref a6, .ref a7, .ref a8, .ref a9, .ref a10])), (a0, .inr (7, [.ref b0, .int 0, .int 0, .int 0, .int 0, .int 0])), (b0, .inl (k 0, 400, .inl (f)))]) sz) := by
  refine Met.ofW (cc := cX9_feed) (maxL := 6) (ret := (some .int)) (by decide) rfl ?_
  intro p e s m args below meth c s₁ B hml hv
  obtain ⟨rfl, hsz, hP, hK, hD0, hE, hX⟩ := hv
  have hx := B.exec
  have hb := B.bytes
  have hr := B.returns
  have hw : ∀ w ∈ wsB, w.before _ s = true := fun w h => atoms_spec (ws := wB yX9_feed cX9_feed 6 (some .int)) B.pre w (List.mem_cons_of_mem _ h)
  have hown : s.vm.findClass RX9 = some m.cls := findClass_of_methodNamed B.named
  have hlocks := B.notSynchronized
  subst hsz
  have hD := hD0.self (sz := s.heap.size)
  generalize hAe : va_A ([(x, .inr (9, [.ref a0, .ref a1, .ref a2, .ref a3, .int 0, .ref a4, .ref a5, .ref a6, .ref a7, .ref a8, .ref a9, .ref a10])), (a0, .inr (7, [.ref b0, .int 0, .int 0, .int 0, .int 0, .int 0])), (b0, .inl (k 0, 400, .inl (f)))]) s.heap.size = A at hD hX ⊢
  have hA : ∀ q : Nat, s.heap.size ≤ q → A q := fun q h => by rw [← hAe]; exact Or.inr h
  have hS : va_S A s.heap s.heap [] := va_S.rf
  have hl := lv_entry ([.ref x, .int p0, .int p1, .int p2, .int p3, .int p4]) (n := 6) (Nat.le_of_ble_eq_true rfl)
  rw [lg_entry_eq]
  generalize (lg_sl ([.ref x, .int p0, .int p1, .int p2, .int p3, .int p4]) ++ List.replicate (6 - (lg_sl ([.ref x, .int p0, .int p1, .int p2, .int p3, .int p4])).length) Slot.unset).toArray = ls at hl ⊢
  have hl : lv_has ls 6 [(0, .ref x), (1, .int p0), (2, .int p1), (3, .int p2), (4, .int p3), (5, .int p4)] := hl
  refine lv_aload_n hx hb dX9_feed_0 rfl (lv_at hl 0 rfl) ?_
  refine va_get (D := D) (ci := 9) (v := .ref a0) (C := RX9) (T := TX9) (N := 12) hx hb hw inlX9 hown hK hP 0 rfl rfl 0 (by decide) (hw _ wd_419) (fun _ h9 => h9) rfl dX9_feed_1 ?_
  refine va_get (D := D) (ci := 7) (v := .int 0) (C := RX7) (T := TX7) (N := 6) hx hb hw inlX7 hown hK hP 1 rfl rfl 1 (by decide) (hw _ wd_35) (fun _ h9 => h9) rfl dX9_feed_4 ?_
  refine lv_bipush (v := 20) hx hb dX9_feed_7 (by decide) ?_
  refine lv_iadd hx hb dX9_feed_9 ?_
  refine x_top (v := 20) (by decide) ?_
  refine lv_sipush (v := 400) hx hb dX9_feed_10 (by decide) ?_
  refine lv_icmp_le (tgt := 18) hx hb dX9_feed_13 (by decide) (fun _ => ?_) (fun h => absurd (by decide) h)
  refine lv_aload_n hx hb dX9_feed_18 rfl (lv_at hl 0 rfl) ?_
  refine va_get (D := D) (ci := 9) (v := .ref a0) (C := RX9) (T := TX9) (N := 12) hx hb hw inlX9 hown hK hP 0 rfl rfl 0 (by decide) (hw _ wd_419) (fun _ h9 => h9) rfl dX9_feed_19 ?_
  refine lv_iload_n hx hb dX9_feed_22 rfl (lv_at hl 1 rfl) ?_
  refine x_v (wr := [(x, .inr (9, [.ref a0, .ref a1, .ref a2, .ref a3, .int 0, .ref a4, .ref a5, .ref a6, .ref a7, .ref a8, .ref a9, .ref a10]))]) (va_runV (As := [.int p0]) (rest := []) ⟨hx, hb, hml, hown, hw⟩ (kX7_append_0 l D k sd a0 b0 (f) p0 s.heap.size) (cwV 1 hw (gV wd_460 wd_461 wd_462 wd_2 wd_463) rfl rfl rfl (by decide +kernel) ⟨Nat.le_of_ble_eq_true rfl, Nat.le_of_ble_eq_true rfl⟩) (pre_V (ci := 7) (r := (RX7, TX7, 6)) hK hE hX hP hD hS hA [1, 2] (by decide) rfl rfl (q0 := 1) rfl) rfl rfl hl.1 rfl (lv_room (Nat.le_of_ble_eq_true rfl)) dX9_feed_23 ⟨Nat.le_of_ble_eq_true rfl, Nat.le_of_ble_eq_true rfl⟩) hP hD hS hA [1, 2] [0] rfl rfl (by decide) (by decide) (fun u_1 H locs hp_2 hP hD hS => ?_)
  have hP : va_P D vwCl ([(x, .inr (9, [.ref a0, .ref a1, .ref a2, .ref a3, .int 0, .ref a4, .ref a5, .ref a6, .ref a7, .ref a8, .ref a9, .ref a10])), (a0, .inr (7, [.ref b0, .int 4, .int 0, .int 0, .int 0, .int 0])), (b0, .inl (k 0, 400, .inl (u_1)))]) H := hP
  have hD : va_D A ([(x, .inr (9, [.ref a0, .ref a1, .ref a2, .ref a3, .int 0, .ref a4, .ref a5, .ref a6, .ref a7, .ref a8, .ref a9, .ref a10])), (a0, .inr (7, [.ref b0, .int 4, .int 0, .int 0, .int 0, .int 0])), (b0, .inl (k 0, 400, .inl (u_1)))]) := hD
  refine lv_aload_n hx hb dX9_feed_26 rfl (lv_at hl 0 rfl) ?_
  refine va_get (D := D) (ci := 9) (v := .ref a0) (C := RX9) (T := TX9) (N := 12) hx hb hw inlX9 hown hK hP 0 rfl rfl 0 (by decide) (hw _ wd_419) (fun _ h9 => h9) rfl dX9_feed_27 ?_
  refine lv_iload_n hx hb dX9_feed_30 rfl (lv_at hl 2 rfl) ?_
  refine x_v (wr := [(x, .inr (9, [.ref a0, .ref a1, .ref a2, .ref a3, .int 0, .ref a4, .ref a5, .ref a6, .ref a7, .ref a8, .ref a9, .ref a10]))]) (va_runV (As := [.int p1]) (rest := []) ⟨hx, hb, hml, hown, hw⟩ (kX7_append_4 l D k sd a0 b0 (u_1) p1 H.size) (cwV 1 hw (gV wd_460 wd_461 wd_462 wd_2 wd_463) rfl rfl rfl (by decide +kernel) ⟨Nat.le_of_ble_eq_true rfl, Nat.le_of_ble_eq_true rfl⟩) (pre_V (ci := 7) (r := (RX7, TX7, 6)) hK hE hX hP hD hS hA [1, 2] (by decide) rfl rfl (q0 := 1) rfl) rfl rfl hl.1 rfl (lv_room (Nat.le_of_ble_eq_true rfl)) dX9_feed_31 ⟨Nat.le_of_ble_eq_true rfl, Nat.le_of_ble_eq_true rfl⟩) hP hD hS hA [1, 2] [0] rfl rfl (by decide) (by decide) (fun u_4 H locs hp_5 hP hD hS => ?_)
  have hP : va_P D vwCl ([(x, .inr (9, [.ref a0, .ref a1, .ref a2, .ref a3, .int 0, .ref a4, .ref a5, .ref a6, .ref a7, .ref a8, .ref a9, .ref a10])), (a0, .inr (7, [.ref b0, .int 8, .int 0, .int 0, .int 0, .int 0])), (b0, .inl (k 0, 400, .inl (u_4)))]) H := hP
  have hD : va_D A ([(x, .inr (9, [.ref a0, .ref a1, .ref a2, .ref a3, .int 0, .ref a4, .ref a5, .ref a6, .ref a7, .ref a8, .ref a9, .ref a10])), (a0, .inr (7, [.ref b0, .int 8, .int 0, .int 0, .int 0, .int 0])), (b0, .inl (k 0, 400, .inl (u_4)))]) := hD
  refine lv_aload_n hx hb dX9_feed_34 rfl (lv_at hl 0 rfl) ?_
  refine va_get (D := D) (ci := 9) (v := .ref a0) (C := RX9) (T := TX9) (N := 12) hx hb hw inlX9 hown hK hP 0 rfl rfl 0 (by decide) (hw _ wd_419) (fun _ h9 => h9) rfl dX9_feed_35 ?_
  refine lv_iload_n hx hb dX9_feed_38 rfl (lv_at hl 3 rfl) ?_
  refine x_v (wr := [(x, .inr (9, [.ref a0, .ref a1, .ref a2, .ref a3, .int 0, .ref a4, .ref a5, .ref a6, .ref a7, .ref a8, .ref a9, .ref a10]))]) (va_runV (As := [.int p2]) (rest := []) ⟨hx, hb, hml, hown, hw⟩ (kX7_append_8 l D k sd a0 b0 (u_4) p2 H.size) (cwV 1 hw (gV wd_460 wd_461 wd_462 wd_2 wd_463) rfl rfl rfl (by decide +kernel) ⟨Nat.le_of_ble_eq_true rfl, Nat.le_of_ble_eq_true rfl⟩) (pre_V (ci := 7) (r := (RX7, TX7, 6)) hK hE hX hP hD hS hA [1, 2] (by decide) rfl rfl (q0 := 1) rfl) rfl rfl hl.1 rfl (lv_room (Nat.le_of_ble_eq_true rfl)) dX9_feed_39 ⟨Nat.le_of_ble_eq_true rfl, Nat.le_of_ble_eq_true rfl⟩) hP hD hS hA [1, 2] [0] rfl rfl (by decide) (by decide) (fun u_7 H locs hp_8 hP hD hS => ?_)
  have hP : va_P D vwCl ([(x, .inr (9, [.ref a0, .ref a1, .ref a2, .ref a3, .int 0, .ref a4, .ref a5, .ref a6, .ref a7, .ref a8, .ref a9, .ref a10])), (a0, .inr (7, [.ref b0, .int 12, .int 0, .int 0, .int 0, .int 0])), (b0, .inl (k 0, 400, .inl (u_7)))]) H := hP
  have hD : va_D A ([(x, .inr (9, [.ref a0, .ref a1, .ref a2, .ref a3, .int 0, .ref a4, .ref a5, .ref a6, .ref a7, .ref a8, .ref a9, .ref a10])), (a0, .inr (7, [.ref b0, .int 12, .int 0, .int 0, .int 0, .int 0])), (b0, .inl (k 0, 400, .inl (u_7)))]) := hD
  refine lv_aload_n hx hb dX9_feed_42 rfl (lv_at hl 0 rfl) ?_
  refine va_get (D := D) (ci := 9) (v := .ref a0) (C := RX9) (T := TX9) (N := 12) hx hb hw inlX9 hown hK hP 0 rfl rfl 0 (by decide) (hw _ wd_419) (fun _ h9 => h9) rfl dX9_feed_43 ?_
  refine lv_iload hx hb dX9_feed_46 (lv_at hl 4 rfl) ?_
  refine x_v (wr := [(x, .inr (9, [.ref a0, .ref a1, .ref a2, .ref a3, .int 0, .ref a4, .ref a5, .ref a6, .ref a7, .ref a8, .ref a9, .ref a10]))]) (va_runV (As := [.int p3]) (rest := []) ⟨hx, hb, hml, hown, hw⟩ (kX7_append_12 l D k sd a0 b0 (u_7) p3 H.size) (cwV 1 hw (gV wd_460 wd_461 wd_462 wd_2 wd_463) rfl rfl rfl (by decide +kernel) ⟨Nat.le_of_ble_eq_true rfl, Nat.le_of_ble_eq_true rfl⟩) (pre_V (ci := 7) (r := (RX7, TX7, 6)) hK hE hX hP hD hS hA [1, 2] (by decide) rfl rfl (q0 := 1) rfl) rfl rfl hl.1 rfl (lv_room (Nat.le_of_ble_eq_true rfl)) dX9_feed_48 ⟨Nat.le_of_ble_eq_true rfl, Nat.le_of_ble_eq_true rfl⟩) hP hD hS hA [1, 2] [0] rfl rfl (by decide) (by decide) (fun u_10 H locs hp_11 hP hD hS => ?_)
  have hP : va_P D vwCl ([(x, .inr (9, [.ref a0, .ref a1, .ref a2, .ref a3, .int 0, .ref a4, .ref a5, .ref a6, .ref a7, .ref a8, .ref a9, .ref a10])), (a0, .inr (7, [.ref b0, .int 16, .int 0, .int 0, .int 0, .int 0])), (b0, .inl (k 0, 400, .inl (u_10)))]) H := hP
  have hD : va_D A ([(x, .inr (9, [.ref a0, .ref a1, .ref a2, .ref a3, .int 0, .ref a4, .ref a5, .ref a6, .ref a7, .ref a8, .ref a9, .ref a10])), (a0, .inr (7, [.ref b0, .int 16, .int 0, .int 0, .int 0, .int 0])), (b0, .inl (k 0, 400, .inl (u_10)))]) := hD
  refine lv_aload_n hx hb dX9_feed_51 rfl (lv_at hl 0 rfl) ?_
  refine va_get (D := D) (ci := 9) (v := .ref a0) (C := RX9) (T := TX9) (N := 12) hx hb hw inlX9 hown hK hP 0 rfl rfl 0 (by decide) (hw _ wd_419) (fun _ h9 => h9) rfl dX9_feed_52 ?_
  refine lv_iload hx hb dX9_feed_55 (lv_at hl 5 rfl) ?_
  refine x_v (wr := [(x, .inr (9, [.ref a0, .ref a1, .ref a2, .ref a3, .int 0, .ref a4, .ref a5, .ref a6, .ref a7, .ref a8, .ref a9, .ref a10]))]) (va_runV (As := [.int p4]) (rest := []) ⟨hx, hb, hml, hown, hw⟩ (kX7_append_16 l D k sd a0 b0 (u_10) p4 H.size) (cwV 1 hw (gV wd_460 wd_461 wd_462 wd_2 wd_463) rfl rfl rfl (by decide +kernel) ⟨Nat.le_of_ble_eq_true rfl, Nat.le_of_ble_eq_true rfl⟩) (pre_V (ci := 7) (r := (RX7, TX7, 6)) hK hE hX hP hD hS hA [1, 2] (by decide) rfl rfl (q0 := 1) rfl) rfl rfl hl.1 rfl (lv_room (Nat.le_of_ble_eq_true rfl)) dX9_feed_57 ⟨Nat.le_of_ble_eq_true rfl, Nat.le_of_ble_eq_true rfl⟩) hP hD hS hA [1, 2] [0] rfl rfl (by decide) (by decide) (fun u_13 H locs hp_14 hP hD hS => ?_)
  have hP : va_P D vwCl ([(x, .inr (9, [.ref a0, .ref a1, .ref a2, .ref a3, .int 0, .ref a4, .ref a5, .ref a6, .ref a7, .ref a8, .ref a9, .ref a10])), (a0, .inr (7, [.ref b0, .int 20, .int 0, .int 0, .int 0, .int 0])), (b0, .inl (k 0, 400, .inl (u_13)))]) H := hP
  have hD : va_D A ([(x, .inr (9, [.ref a0, .ref a1, .ref a2, .ref a3, .int 0, .ref a4, .ref a5, .ref a6, .ref a7, .ref a8, .ref a9, .ref a10])), (a0, .inr (7, [.ref b0, .int 20, .int 0, .int 0, .int 0, .int 0])), (b0, .inl (k 0, 400, .inl (u_13)))]) := hD
  refine lv_aload_n hx hb dX9_feed_60 rfl (lv_at hl 0 rfl) ?_
  refine va_get (D := D) (ci := 9) (v := .ref a0) (C := RX9) (T := TX9) (N := 12) hx hb hw inlX9 hown hK hP 0 rfl rfl 0 (by decide) (hw _ wd_419) (fun _ h9 => h9) rfl dX9_feed_61 ?_
  refine va_get (D := D) (ci := 7) (v := .int 20) (C := RX7) (T := TX7) (N := 6) hx hb hw inlX7 hown hK hP 1 rfl rfl 1 (by decide) (hw _ wd_35) (fun _ h9 => h9) rfl dX9_feed_64 ?_
  refine W.widen (k := 0) (n := 0) (Nat.le_of_ble_eq_true rfl) (Nat.le_of_ble_eq_true rfl) ?_
  have hP9 : va_P D vwCl ((fun _ => ([] : va_W)) ()) H := hP.sub [] rfl
  have hD9 : va_D A ((fun _ => ([] : va_W)) ()) := hD.sub [] (by decide) rfl
  exact W.iret (v := 20) hx hb hr (fun t ht hW => ⟨⟨20, (), rfl, rfl, by rw [ht]; exact hP9, hD9⟩, hS.F ht⟩) hS.2.2 dX9_feed_67

set_option maxHeartbeats 4000000 in
set_option maxRecDepth 100000 in
theorem kX7_pass (l : Launch) (D : va_G) (k : Nat → ClassId) (sd : Nat → Nat) (h : Nat) (a : Nat) (sz : Nat) : Met l yX7_pass (wB yX7_pass cX7_pass 4 none) ({ frames := 0, cells := 0, slots := 0, locals := 0 }) (va_Pc [.ref h] (PRE D k sd ([(h, .inr (7, [.ref a, .int 0, .int 0, .int 0, .int 0, .int 0]))]) sz)) (va_Qv (S := Unit) (fun _ => True) (fun u t => PO D (va_A ([(h, .inr (7, [.ref a, .int 0, .int 0, .int 0, .int 0, .int 0]))]) sz) ((fun _ => [(h, .inr (7, [.ref a, .int 0, .int 0, .int 0, .int (-1), .int 0]))]) u) t) (va_A ([(h, .inr (7, [.ref a, .int 0, .int 0, .int 0, .int 0, .int 0]))]) sz)) 0 0 (va_A ([(h, .inr (7, [.ref a, .int 0, .int 0, .int 0, .int 0, .int 0]))]) sz) := by
  refine Met.ofW (cc := cX7_pass) (maxL := 4) (ret := none) (by decide) rfl ?_
  intro p e s m args below meth c s₁ B hml hv
  obtain ⟨rfl, hsz, hP, hK, hD0, hE, hX⟩ := hv
  have hx := B.exec
  have hb := B.bytes
  have hr := B.returns
  have hw : ∀ w ∈ wsB, w.before _ s = true := fun w h => atoms_spec (ws := wB yX7_pass cX7_pass 4 none) B.pre w (List.mem_cons_of_mem _ h)
  have hown : s.vm.findClass RX7 = some m.cls := findClass_of_methodNamed B.named
  have hlocks := B.notSynchronized
  subst hsz
  have hD := hD0.self (sz := s.heap.size)
  generalize hAe : va_A ([(h, .inr (7, [.ref a, .int 0, .int 0, .int 0, .int 0, .int 0]))]) s.heap.size = A at hD hX ⊢
  have hA : ∀ q : Nat, s.heap.size ≤ q → A q := fun q h => by rw [← hAe]; exact Or.inr h
  have hS : va_S A s.heap s.heap [] := va_S.rf
  have hl := lv_entry ([.ref h]) (n := 4) (Nat.le_of_ble_eq_true rfl)
  rw [lg_entry_eq]
  generalize (lg_sl ([.ref h]) ++ List.replicate (4 - (lg_sl ([.ref h])).length) Slot.unset).toArray = ls at hl ⊢
  have hl : lv_has ls 4 [(0, .ref h)] := hl
  refine lv_aload_n hx hb dX7_pass_0 rfl (lv_at hl 0 rfl) ?_
  refine lv_aload_n hx hb dX7_pass_1 rfl (lv_at hl 0 rfl) ?_
  refine va_get (D := D) (ci := 7) (v := .int 0) (C := RX7) (T := TX7) (N := 6) hx hb hw inlX7 hown hK hP 0 rfl rfl 3 (by decide) (hw _ wd_38) (fun _ h9 => h9) rfl dX7_pass_2 ?_
  refine va_put (D := D) (ci := 7) (v := .int 0) (ty := .int) (C := RX7) (T := TX7) (N := 6) hx hb hw inlX7 tyX7 tyX7_ok nmX7 hown hK hP hD hS 0 rfl rfl 2 (by decide) (hw _ wd_37) (fun _ h9 => h9) rfl (by decide +kernel) rfl rfl (Nat.le_of_ble_eq_true rfl) dX7_pass_5 (fun H locs hP hD hS => ?_)
  have hP : va_P D vwCl ([(h, .inr (7, [.ref a, .int 0, .int 0, .int 0, .int 0, .int 0]))]) H := hP
  have hD : va_D A ([(h, .inr (7, [.ref a, .int 0, .int 0, .int 0, .int 0, .int 0]))]) := hD
  refine lv_aload_n hx hb dX7_pass_8 rfl (lv_at hl 0 rfl) ?_
  refine va_get (D := D) (ci := 7) (v := .int 0) (C := RX7) (T := TX7) (N := 6) hx hb hw inlX7 hown hK hP 0 rfl rfl 2 (by decide) (hw _ wd_37) (fun _ h9 => h9) rfl dX7_pass_9 ?_
  refine lv_aload_n hx hb dX7_pass_12 rfl (lv_at hl 0 rfl) ?_
  refine va_get (D := D) (ci := 7) (v := .int 0) (C := RX7) (T := TX7) (N := 6) hx hb hw inlX7 hown hK hP 0 rfl rfl 1 (by decide) (hw _ wd_36) (fun _ h9 => h9) rfl dX7_pass_13 ?_
  refine lv_icmp_ge (tgt := 46) hx hb dX7_pass_16 (by decide) (fun _ => ?_) (fun h => absurd (by decide) h)
  refine lv_aload_n hx hb dX7_pass_46 rfl (lv_at hl 0 rfl) ?_
  refine lv_aload_n hx hb dX7_pass_47 rfl (lv_at hl 0 rfl) ?_
  refine va_get (D := D) (ci := 7) (v := .int 0) (C := RX7) (T := TX7) (N := 6) hx hb hw inlX7 hown hK hP 0 rfl rfl 2 (by decide) (hw _ wd_37) (fun _ h9 => h9) rfl dX7_pass_48 ?_
  refine lv_aload_n hx hb dX7_pass_51 rfl (lv_at hl 0 rfl) ?_
  refine va_get (D := D) (ci := 7) (v := .int 0) (C := RX7) (T := TX7) (N := 6) hx hb hw inlX7 hown hK hP 0 rfl rfl 1 (by decide) (hw _ wd_36) (fun _ h9 => h9) rfl dX7_pass_52 ?_
  refine lv_icmp_ge (tgt := 70) hx hb dX7_pass_55 (by decide) (fun _ => ?_) (fun h => absurd (by decide) h)
  refine lv_iconst (v := (-1)) hx hb dX7_pass_70 (by decide) ?_
  refine va_put (D := D) (ci := 7) (v := .int (-1)) (ty := .int) (C := RX7) (T := TX7) (N := 6) hx hb hw inlX7 tyX7 tyX7_ok nmX7 hown hK hP hD hS 0 rfl rfl 4 (by decide) (hw _ wd_41) (fun _ h9 => h9) rfl (by decide +kernel) rfl rfl (Nat.le_of_ble_eq_true rfl) dX7_pass_71 (fun H locs hP hD hS => ?_)
  have hP : va_P D vwCl ([(h, .inr (7, [.ref a, .int 0, .int 0, .int 0, .int (-1), .int 0]))]) H := hP
  have hD : va_D A ([(h, .inr (7, [.ref a, .int 0, .int 0, .int 0, .int (-1), .int 0]))]) := hD
  refine lv_aload_n hx hb dX7_pass_74 rfl (lv_at hl 0 rfl) ?_
  refine lv_aload_n hx hb dX7_pass_75 rfl (lv_at hl 0 rfl) ?_
  refine va_get (D := D) (ci := 7) (v := .int 0) (C := RX7) (T := TX7) (N := 6) hx hb hw inlX7 hown hK hP 0 rfl rfl 2 (by decide) (hw _ wd_37) (fun _ h9 => h9) rfl dX7_pass_76 ?_
  refine lv_aload_n hx hb dX7_pass_79 rfl (lv_at hl 0 rfl) ?_
  refine va_get (D := D) (ci := 7) (v := .int 0) (C := RX7) (T := TX7) (N := 6) hx hb hw inlX7 hown hK hP 0 rfl rfl 1 (by decide) (hw _ wd_36) (fun _ h9 => h9) rfl dX7_pass_80 ?_
  refine lv_icmp_ge (tgt := 95) hx hb dX7_pass_83 (by decide) (fun _ => ?_) (fun h => absurd (by decide) h)
  refine lv_aload_n hx hb dX7_pass_95 rfl (lv_at hl 0 rfl) ?_
  refine va_get (D := D) (ci := 7) (v := .int 0) (C := RX7) (T := TX7) (N := 6) hx hb hw inlX7 hown hK hP 0 rfl rfl 1 (by decide) (hw _ wd_36) (fun _ h9 => h9) rfl dX7_pass_96 ?_
  refine va_put (D := D) (ci := 7) (v := .int 0) (ty := .int) (C := RX7) (T := TX7) (N := 6) hx hb hw inlX7 tyX7 tyX7_ok nmX7 hown hK hP hD hS 0 rfl rfl 3 (by decide) (hw _ wd_38) (fun _ h9 => h9) rfl (by decide +kernel) rfl rfl (Nat.le_of_ble_eq_true rfl) dX7_pass_99 (fun H locs hP hD hS => ?_)
  have hP : va_P D vwCl ([(h, .inr (7, [.ref a, .int 0, .int 0, .int 0, .int (-1), .int 0]))]) H := hP
  have hD : va_D A ([(h, .inr (7, [.ref a, .int 0, .int 0, .int 0, .int (-1), .int 0]))]) := hD
  refine lv_sipush (v := 256) hx hb dX7_pass_102 (by decide) ?_
  refine lv_istore_n (lv' := [(1, .int 256), (0, .ref h)]) hx hb dX7_pass_105 rfl hl (by decide) rfl (fun ls hl => ?_)
  refine lv_sipush (v := 256) hx hb dX7_pass_106 (by decide) ?_
  refine lv_istore_n (lv' := [(2, .int 256), (1, .int 256), (0, .ref h)]) hx hb dX7_pass_109 rfl hl (by decide) rfl (fun ls hl => ?_)
  refine lv_aload_n hx hb dX7_pass_110 rfl (lv_at hl 2 rfl) ?_
  refine va_get (D := D) (ci := 7) (v := .int 0) (C := RX7) (T := TX7) (N := 6) hx hb hw inlX7 hown hK hP 0 rfl rfl 1 (by decide) (hw _ wd_36) (fun _ h9 => h9) rfl dX7_pass_111 ?_
  refine lv_istore_n (lv' := [(3, .int 0), (2, .int 256), (1, .int 256), (0, .ref h)]) hx hb dX7_pass_114 rfl hl (by decide) rfl (fun ls hl => ?_)
  refine lv_aload_n hx hb dX7_pass_115 rfl (lv_at hl 3 rfl) ?_
  refine va_get (D := D) (ci := 7) (v := .int (-1)) (C := RX7) (T := TX7) (N := 6) hx hb hw inlX7 hown hK hP 0 rfl rfl 4 (by decide) (hw _ wd_41) (fun _ h9 => h9) rfl dX7_pass_116 ?_
  refine lv_bipush (v := 60) hx hb dX7_pass_119 (by decide) ?_
  refine lv_icmp_eq (tgt := 133) hx hb dX7_pass_121 (by decide) (fun h => absurd h (by decide)) (fun _ => ?_)
  refine lv_aload_n hx hb dX7_pass_124 rfl (lv_at hl 3 rfl) ?_
  refine va_get (D := D) (ci := 7) (v := .int (-1)) (C := RX7) (T := TX7) (N := 6) hx hb hw inlX7 hown hK hP 0 rfl rfl 4 (by decide) (hw _ wd_41) (fun _ h9 => h9) rfl dX7_pass_125 ?_
  refine lv_bipush (v := 62) hx hb dX7_pass_128 (by decide) ?_
  refine lv_icmp_ne (tgt := 149) hx hb dX7_pass_130 (by decide) (fun _ => ?_) (fun h => absurd h (by decide))
  refine lv_aload_n hx hb dX7_pass_149 rfl (lv_at hl 3 rfl) ?_
  refine va_get (D := D) (ci := 7) (v := .int (-1)) (C := RX7) (T := TX7) (N := 6) hx hb hw inlX7 hown hK hP 0 rfl rfl 4 (by decide) (hw _ wd_41) (fun _ h9 => h9) rfl dX7_pass_150 ?_
  refine lv_bipush (v := 97) hx hb dX7_pass_153 (by decide) ?_
  refine lv_icmp_lt (tgt := 176) hx hb dX7_pass_155 (by decide) (fun _ => ?_) (fun h => absurd (by decide) h)
  refine lv_aload_n hx hb dX7_pass_176 rfl (lv_at hl 3 rfl) ?_
  refine va_get (D := D) (ci := 7) (v := .int (-1)) (C := RX7) (T := TX7) (N := 6) hx hb hw inlX7 hown hK hP 0 rfl rfl 4 (by decide) (hw _ wd_41) (fun _ h9 => h9) rfl dX7_pass_177 ?_
  refine lv_bipush (v := 48) hx hb dX7_pass_180 (by decide) ?_
  refine lv_icmp_lt (tgt := 200) hx hb dX7_pass_182 (by decide) (fun _ => ?_) (fun h => absurd (by decide) h)
  refine lv_aload_n hx hb dX7_pass_200 rfl (lv_at hl 3 rfl) ?_
  refine va_get (D := D) (ci := 7) (v := .int 0) (C := RX7) (T := TX7) (N := 6) hx hb hw inlX7 hown hK hP 0 rfl rfl 3 (by decide) (hw _ wd_38) (fun _ h9 => h9) rfl dX7_pass_201 ?_
  refine lv_aload_n hx hb dX7_pass_204 rfl (lv_at hl 3 rfl) ?_
  refine va_get (D := D) (ci := 7) (v := .int 0) (C := RX7) (T := TX7) (N := 6) hx hb hw inlX7 hown hK hP 0 rfl rfl 1 (by decide) (hw _ wd_36) (fun _ h9 => h9) rfl dX7_pass_205 ?_
  refine lv_icmp_ge (tgt := 258) hx hb dX7_pass_208 (by decide) (fun _ => ?_) (fun h => absurd (by decide) h)
  refine W.widen (k := 0) (n := 0) (Nat.le_of_ble_eq_true rfl) (Nat.le_of_ble_eq_true rfl) ?_
  have hP9 : va_P D vwCl ((fun _ => [(h, .inr (7, [.ref a, .int 0, .int 0, .int 0, .int (-1), .int 0]))]) ()) H := hP.sub [0] rfl
  have hD9 : va_D A ((fun _ => [(h, .inr (7, [.ref a, .int 0, .int 0, .int 0, .int (-1), .int 0]))]) ()) := hD.sub [0] (by decide) rfl
  exact W.vret hx hb hr (fun t ht hW => ⟨⟨(), rfl, trivial, by rw [ht]; exact hP9, hD9⟩, hS.F ht⟩) hS.2.2 dX7_pass_258

set_option maxHeartbeats 4000000 in
set_option maxRecDepth 100000 in
theorem kX7_rewind (l : Launch) (D : va_G) (k : Nat → ClassId) (sd : Nat → Nat) (h : Nat) (a : Nat) (sz : Nat) : Met l yX7_rewind (wB yX7_rewind cX7_rewind 1 none) ({ frames := 1, cells := 0, slots := 0, locals := 23 }) (va_Pc [.ref h] (PRE D k sd ([(h, .inr (7, [.ref a, .int 0, .int 0, .int 0, .int 0, .int 0]))]) sz)) (va_Qv (S := Unit) (fun _ => True) (fun u t => PO D (va_A ([(h, .inr (7, [.ref a, .int 0, .int 0, .int 0, .int 0, .int 0]))]) sz) ((fun _ => [(h, .inr (7, [.ref a, .int 0, .int 0, .int 0, .int (-1), .int 0]))]) u) t) (va_A ([(h, .inr (7, [.ref a, .int 0, .int 0, .int 0, .int 0, .int 0]))]) sz)) 0 0 (va_A ([(h, .inr (7, [.ref a, .int 0, .int 0, .int 0, .int 0, .int 0]))]) sz) := by
  refine Met.ofW (cc := cX7_rewind) (maxL := 1) (ret := none) (by decide) rfl ?_
  intro p e s m args below meth c s₁ B hml hv
  obtain ⟨rfl, hsz, hP, hK, hD0, hE, hX⟩ := hv
  have hx := B.exec
  have hb := B.bytes
  have hr := B.returns
  have hw : ∀ w ∈ wsB, w.before _ s = true := fun w h => atoms_spec (ws := wB yX7_rewind cX7_rewind 1 none) B.pre w (List.mem_cons_of_mem _ h)
  have hown : s.vm.findClass RX7 = some m.cls := findClass_of_methodNamed B.named
  have hlocks := B.notSynchronized
  subst hsz
  have hD := hD0.self (sz := s.heap.size)
  generalize hAe : va_A ([(h, .inr (7, [.ref a, .int 0, .int 0, .int 0, .int 0, .int 0]))]) s.heap.size = A at hD hX ⊢
  have hA : ∀ q : Nat, s.heap.size ≤ q → A q := fun q h => by rw [← hAe]; exact Or.inr h
  have hS : va_S A s.heap s.heap [] := va_S.rf
  have hl := lv_entry ([.ref h]) (n := 1) (Nat.le_of_ble_eq_true rfl)
  rw [lg_entry_eq]
  generalize (lg_sl ([.ref h]) ++ List.replicate (1 - (lg_sl ([.ref h])).length) Slot.unset).toArray = ls at hl ⊢
  have hl : lv_has ls 1 [(0, .ref h)] := hl
  refine lv_aload_n hx hb dX7_rewind_0 rfl (lv_at hl 0 rfl) ?_
  refine lv_iconst (v := 0) hx hb dX7_rewind_1 (by decide) ?_
  refine va_put (D := D) (ci := 7) (v := .int 0) (ty := .int) (C := RX7) (T := TX7) (N := 6) hx hb hw inlX7 tyX7 tyX7_ok nmX7 hown hK hP hD hS 0 rfl rfl 5 (by decide) (hw _ wd_42) (fun _ h9 => h9) rfl (by decide +kernel) rfl rfl (Nat.le_of_ble_eq_true rfl) dX7_rewind_2 (fun H locs hP hD hS => ?_)
  have hP : va_P D vwCl ([(h, .inr (7, [.ref a, .int 0, .int 0, .int 0, .int 0, .int 0]))]) H := hP
  have hD : va_D A ([(h, .inr (7, [.ref a, .int 0, .int 0, .int 0, .int 0, .int 0]))]) := hD
  refine lv_aload_n hx hb dX7_rewind_5 rfl (lv_at hl 0 rfl) ?_
  refine lv_iconst (v := 0) hx hb dX7_rewind_6 (by decide) ?_
  refine va_put (D := D) (ci := 7) (v := .int 0) (ty := .int) (C := RX7) (T := TX7) (N := 6) hx hb hw inlX7 tyX7 tyX7_ok nmX7 hown hK hP hD hS 0 rfl rfl 3 (by decide) (hw _ wd_38) (fun _ h9 => h9) rfl (by decide +kernel) rfl rfl (Nat.le_of_ble_eq_true rfl) dX7_rewind_7 (fun H locs hP hD hS => ?_)
  have hP : va_P D vwCl ([(h, .inr (7, [.ref a, .int 0, .int 0, .int 0, .int 0, .int 0]))]) H := hP
  have hD : va_D A ([(h, .inr (7, [.ref a, .int 0, .int 0, .int 0, .int 0, .int 0]))]) := hD
  refine lv_aload_n hx hb dX7_rewind_10 rfl (lv_at hl 0 rfl) ?_
  refine x_v (wr := ([] : va_W)) (va_runV (As := []) (rest := []) ⟨hx, hb, hml, hown, hw⟩ (kX7_pass l D k sd h a H.size) (cwV 0 hw (gV wd_487 wd_488 wd_489 wd_2 wd_490) rfl rfl rfl (by decide +kernel) ⟨Nat.le_of_ble_eq_true rfl, Nat.le_of_ble_eq_true rfl⟩) (pre_V (ci := 7) (r := (RX7, TX7, 6)) hK hE hX hP hD hS hA [0] (by decide) rfl rfl (q0 := 0) rfl) rfl rfl hl.1 rfl (lv_room (Nat.le_of_ble_eq_true rfl)) dX7_rewind_11 ⟨Nat.le_of_ble_eq_true rfl, Nat.le_of_ble_eq_true rfl⟩) hP hD hS hA [0] [] rfl rfl (by decide) (by decide) (fun u_1 H locs hp_2 hP hD hS => ?_)
  have hP : va_P D vwCl ([(h, .inr (7, [.ref a, .int 0, .int 0, .int 0, .int (-1), .int 0]))]) H := hP
  have hD : va_D A ([(h, .inr (7, [.ref a, .int 0, .int 0, .int 0, .int (-1), .int 0]))]) := hD
  refine W.widen (k := 0) (n := 0) (Nat.le_of_ble_eq_true rfl) (Nat.le_of_ble_eq_true rfl) ?_
  have hP9 : va_P D vwCl ((fun _ => [(h, .inr (7, [.ref a, .int 0, .int 0, .int 0, .int (-1), .int 0]))]) ()) H := hP.sub [0] rfl
  have hD9 : va_D A ((fun _ => [(h, .inr (7, [.ref a, .int 0, .int 0, .int 0, .int (-1), .int 0]))]) ()) := hD.sub [0] (by decide) rfl
  exact W.vret hx hb hr (fun t ht hW => ⟨⟨(), rfl, trivial, by rw [ht]; exact hP9, hD9⟩, hS.F ht⟩) hS.2.2 dX7_rewind_14

set_option maxHeartbeats 4000000 in
set_option maxRecDepth 100000 in
theorem kX7_wordIn_0 (l : Launch) (D : va_G) (k : Nat → ClassId) (sd : Nat → Nat) (h : Nat) (a : Nat) (sz : Nat) : Met l yX7_wordIn (wB yX7_wordIn cX7_wordIn 6 (some .int)) ({ frames := 2, cells := 0, slots := 0, locals := 40 }) (va_Pc [.ref h, .ref (sd (2 * 0))] (PRE D k sd ([(h, .inr (7, [.ref a, .int 0, .int 0, .int 0, .int (-1), .int 0]))]) sz)) (va_Qi (S := Unit) (fun r _ => r = -1) (fun u t => PO D (va_A ([(h, .inr (7, [.ref a, .int 0, .int 0, .int 0, .int (-1), .int 0]))]) sz) ((fun _ => [(h, .inr (7, [.ref a, .int 0, .int 0, .int 0, .int (-1), .int 0]))]) u) t) (va_A ([(h, .inr (7, [.ref a, .int 0, .int 0, .int 0, .int (-1), .int 0]))]) sz)) 0 0 (va_A ([(h, .inr (7, [.ref a, .int 0, .int 0, .int 0, .int (-1), .int 0]))]) sz) := by
  refine Met.ofW (cc := cX7_wordIn) (maxL := 6) (ret := (some .int)) (by decide) rfl ?_
  intro p e s m args below meth c s₁ B hml hv
  obtain ⟨rfl, hsz, hP, hK, hD0, hE, hX⟩ := hv
  have hx := B.exec
  have hb := B.bytes
  have hr := B.returns
  have hw : ∀ w ∈ wsB, w.before _ s = true := fun w h => atoms_spec (ws := wB yX7_wordIn cX7_wordIn 6 (some .int)) B.pre w (List.mem_cons_of_mem _ h)
  have hown : s.vm.findClass RX7 = some m.cls := findClass_of_methodNamed B.named
  have hlocks := B.notSynchronized
  subst hsz
  have hD := hD0.self (sz := s.heap.size)
  generalize hAe : va_A ([(h, .inr (7, [.ref a, .int 0, .int 0, .int 0, .int (-1), .int 0]))]) s.heap.size = A at hD hX ⊢
  have hA : ∀ q : Nat, s.heap.size ≤ q → A q := fun q h => by rw [← hAe]; exact Or.inr h
  have hS : va_S A s.heap s.heap [] := va_S.rf
  have hl := lv_entry ([.ref h, .ref (sd (2 * 0))]) (n := 6) (Nat.le_of_ble_eq_true rfl)
  rw [lg_entry_eq]
  generalize (lg_sl ([.ref h, .ref (sd (2 * 0))]) ++ List.replicate (6 - (lg_sl ([.ref h, .ref (sd (2 * 0))])).length) Slot.unset).toArray = ls at hl ⊢
  have hl : lv_has ls 6 [(0, .ref h), (1, .ref (sd (2 * 0)))] := hl
  refine lv_aload_n hx hb dX7_wordIn_0 rfl (lv_at hl 0 rfl) ?_
  refine va_get (D := D) (ci := 7) (v := .int 0) (C := RX7) (T := TX7) (N := 6) hx hb hw inlX7 hown hK hP 0 rfl rfl 3 (by decide) (hw _ wd_38) (fun _ h9 => h9) rfl dX7_wordIn_1 ?_
  refine lv_aload_n hx hb dX7_wordIn_4 rfl (lv_at hl 0 rfl) ?_
  refine va_get (D := D) (ci := 7) (v := .int 0) (C := RX7) (T := TX7) (N := 6) hx hb hw inlX7 hown hK hP 0 rfl rfl 2 (by decide) (hw _ wd_37) (fun _ h9 => h9) rfl dX7_wordIn_5 ?_
  refine lv_isub hx hb dX7_wordIn_8 ?_
  refine x_top (v := 0) (by decide) ?_
  refine lv_istore_n (lv' := [(2, .int 0), (0, .ref h), (1, .ref (sd (2 * 0)))]) hx hb dX7_wordIn_9 rfl hl (by decide) rfl (fun ls hl => ?_)
  refine lv_iconst (v := 0) hx hb dX7_wordIn_10 (by decide) ?_
  refine lv_istore_n (lv' := [(3, .int 0), (2, .int 0), (0, .ref h), (1, .ref (sd (2 * 0)))]) hx hb dX7_wordIn_11 rfl hl (by decide) rfl (fun ls hl => ?_)
  refine lv_iconst (v := 0) hx hb dX7_wordIn_12 (by decide) ?_
  refine lv_istore (lv' := [(4, .int 0), (3, .int 0), (2, .int 0), (0, .ref h), (1, .ref (sd (2 * 0)))]) hx hb dX7_wordIn_13 hl (by decide) rfl (fun ls hl => ?_)
  refine lv_iconst (v := 0) hx hb dX7_wordIn_15 (by decide) ?_
  refine lv_istore (lv' := [(5, .int 0), (4, .int 0), (3, .int 0), (2, .int 0), (0, .ref h), (1, .ref (sd (2 * 0)))]) hx hb dX7_wordIn_16 hl (by decide) rfl (fun ls hl => ?_)
  refine lv_iload hx hb dX7_wordIn_18 (lv_at hl 0 rfl) ?_
  refine lv_aload_n hx hb dX7_wordIn_20 rfl (lv_at hl 5 rfl) ?_
  refine x_i (wr := [(h, .inr (7, [.ref a, .int 0, .int 0, .int 0, .int (-1), .int 0]))]) (va_runV (As := []) (rest := [.int 0]) ⟨hx, hb, hml, hown, hw⟩ (kJ0_length l D k sd 0 _ rfl s.heap.size) (cwV 0 hw (gV wd_496 wd_497 wd_498 wd_13 wd_499) rfl rfl rfl (by decide +kernel) ⟨Nat.le_of_ble_eq_true rfl, Nat.le_of_ble_eq_true rfl⟩) (pre_str (l := l) hK hE hX hP hD hS hA 0 _ rfl) rfl rfl hl.1 rfl (lv_room (Nat.le_of_ble_eq_true rfl)) dX7_wordIn_21 ⟨Nat.le_of_ble_eq_true rfl, Nat.le_of_ble_eq_true rfl⟩) hP hD hS hA [] [0] rfl rfl (by decide) (by decide) (fun r_1 _ H locs hp_2 hP hD hS => ?_)
  obtain rfl : r_1 = 33 := hp_2.trans (by decide)
  have hP : va_P D vwCl ([(h, .inr (7, [.ref a, .int 0, .int 0, .int 0, .int (-1), .int 0]))]) H := hP
  have hD : va_D A ([(h, .inr (7, [.ref a, .int 0, .int 0, .int 0, .int (-1), .int 0]))]) := hD
  refine lv_icmp_gt (tgt := 116) hx hb dX7_wordIn_24 (by decide) (fun h => absurd h (by decide)) (fun _ => ?_)
  refine lv_iload_n hx hb dX7_wordIn_27 rfl (lv_at hl 3 rfl) ?_
  refine lv_if_le (tgt := 116) hx hb dX7_wordIn_28 (by decide) (fun _ => ?_) (fun h => absurd (by decide) h)
  refine lv_iconst (v := (-1)) hx hb dX7_wordIn_116 (by decide) ?_
  refine W.widen (k := 0) (n := 0) (Nat.le_of_ble_eq_true rfl) (Nat.le_of_ble_eq_true rfl) ?_
  have hP9 : va_P D vwCl ((fun _ => [(h, .inr (7, [.ref a, .int 0, .int 0, .int 0, .int (-1), .int 0]))]) ()) H := hP.sub [0] rfl
  have hD9 : va_D A ((fun _ => [(h, .inr (7, [.ref a, .int 0, .int 0, .int 0, .int (-1), .int 0]))]) ()) := hD.sub [0] (by decide) rfl
  exact W.iret (v := (-1)) hx hb hr (fun t ht hW => ⟨⟨(-1), (), rfl, rfl, by rw [ht]; exact hP9, hD9⟩, hS.F ht⟩) hS.2.2 dX7_wordIn_117

set_option maxHeartbeats 4000000 in
set_option maxRecDepth 100000 in
theorem kX7_wordIn_1 (l : Launch) (D : va_G) (k : Nat → ClassId) (sd : Nat → Nat) (h : Nat) (a : Nat) (sz : Nat) : Met l yX7_wordIn (wB yX7_wordIn cX7_wordIn 6 (some .int)) ({ frames := 2, cells := 0, slots := 0, locals := 40 }) (va_Pc [.ref h, .ref (sd (2 * 1))] (PRE D k sd ([(h, .inr (7, [.ref a, .int 0, .int 0, .int 0, .int (-1), .int 0]))]) sz)) (va_Qi (S := Unit) (fun r _ => r = -1) (fun u t => PO D (va_A ([(h, .inr (7, [.ref a, .int 0, .int 0, .int 0, .int (-1), .int 0]))]) sz) ((fun _ => [(h, .inr (7, [.ref a, .int 0, .int 0, .int 0, .int (-1), .int 0]))]) u) t) (va_A ([(h, .inr (7, [.ref a, .int 0, .int 0, .int 0, .int (-1), .int 0]))]) sz)) 0 0 (va_A ([(h, .inr (7, [.ref a, .int 0, .int 0, .int 0, .int (-1), .int 0]))]) sz) := by
  refine Met.ofW (cc := cX7_wordIn) (maxL := 6) (ret := (some .int)) (by decide) rfl ?_
  intro p e s m args below meth c s₁ B hml hv
  obtain ⟨rfl, hsz, hP, hK, hD0, hE, hX⟩ := hv
  have hx := B.exec
  have hb := B.bytes
  have hr := B.returns
  have hw : ∀ w ∈ wsB, w.before _ s = true := fun w h => atoms_spec (ws := wB yX7_wordIn cX7_wordIn 6 (some .int)) B.pre w (List.mem_cons_of_mem _ h)
  have hown : s.vm.findClass RX7 = some m.cls := findClass_of_methodNamed B.named
  have hlocks := B.notSynchronized
  subst hsz
  have hD := hD0.self (sz := s.heap.size)
  generalize hAe : va_A ([(h, .inr (7, [.ref a, .int 0, .int 0, .int 0, .int (-1), .int 0]))]) s.heap.size = A at hD hX ⊢
  have hA : ∀ q : Nat, s.heap.size ≤ q → A q := fun q h => by rw [← hAe]; exact Or.inr h
  have hS : va_S A s.heap s.heap [] := va_S.rf
  have hl := lv_entry ([.ref h, .ref (sd (2 * 1))]) (n := 6) (Nat.le_of_ble_eq_true rfl)
  rw [lg_entry_eq]
  generalize (lg_sl ([.ref h, .ref (sd (2 * 1))]) ++ List.replicate (6 - (lg_sl ([.ref h, .ref (sd (2 * 1))])).length) Slot.unset).toArray = ls at hl ⊢
  have hl : lv_has ls 6 [(0, .ref h), (1, .ref (sd (2 * 1)))] := hl
  refine lv_aload_n hx hb dX7_wordIn_0 rfl (lv_at hl 0 rfl) ?_
  refine va_get (D := D) (ci := 7) (v := .int 0) (C := RX7) (T := TX7) (N := 6) hx hb hw inlX7 hown hK hP 0 rfl rfl 3 (by decide) (hw _ wd_38) (fun _ h9 => h9) rfl dX7_wordIn_1 ?_
  refine lv_aload_n hx hb dX7_wordIn_4 rfl (lv_at hl 0 rfl) ?_
  refine va_get (D := D) (ci := 7) (v := .int 0) (C := RX7) (T := TX7) (N := 6) hx hb hw inlX7 hown hK hP 0 rfl rfl 2 (by decide) (hw _ wd_37) (fun _ h9 => h9) rfl dX7_wordIn_5 ?_
  refine lv_isub hx hb dX7_wordIn_8 ?_
  refine x_top (v := 0) (by decide) ?_
  refine lv_istore_n (lv' := [(2, .int 0), (0, .ref h), (1, .ref (sd (2 * 1)))]) hx hb dX7_wordIn_9 rfl hl (by decide) rfl (fun ls hl => ?_)
  refine lv_iconst (v := 0) hx hb dX7_wordIn_10 (by decide) ?_
  refine lv_istore_n (lv' := [(3, .int 0), (2, .int 0), (0, .ref h), (1, .ref (sd (2 * 1)))]) hx hb dX7_wordIn_11 rfl hl (by decide) rfl (fun ls hl => ?_)
  refine lv_iconst (v := 0) hx hb dX7_wordIn_12 (by decide) ?_
  refine lv_istore (lv' := [(4, .int 0), (3, .int 0), (2, .int 0), (0, .ref h), (1, .ref (sd (2 * 1)))]) hx hb dX7_wordIn_13 hl (by decide) rfl (fun ls hl => ?_)
  refine lv_iconst (v := 0) hx hb dX7_wordIn_15 (by decide) ?_
  refine lv_istore (lv' := [(5, .int 0), (4, .int 0), (3, .int 0), (2, .int 0), (0, .ref h), (1, .ref (sd (2 * 1)))]) hx hb dX7_wordIn_16 hl (by decide) rfl (fun ls hl => ?_)
  refine lv_iload hx hb dX7_wordIn_18 (lv_at hl 0 rfl) ?_
  refine lv_aload_n hx hb dX7_wordIn_20 rfl (lv_at hl 5 rfl) ?_
  refine x_i (wr := [(h, .inr (7, [.ref a, .int 0, .int 0, .int 0, .int (-1), .int 0]))]) (va_runV (As := []) (rest := [.int 0]) ⟨hx, hb, hml, hown, hw⟩ (kJ0_length l D k sd 1 _ rfl s.heap.size) (cwV 0 hw (gV wd_496 wd_497 wd_498 wd_13 wd_499) rfl rfl rfl (by decide +kernel) ⟨Nat.le_of_ble_eq_true rfl, Nat.le_of_ble_eq_true rfl⟩) (pre_str (l := l) hK hE hX hP hD hS hA 1 _ rfl) rfl rfl hl.1 rfl (lv_room (Nat.le_of_ble_eq_true rfl)) dX7_wordIn_21 ⟨Nat.le_of_ble_eq_true rfl, Nat.le_of_ble_eq_true rfl⟩) hP hD hS hA [] [0] rfl rfl (by decide) (by decide) (fun r_1 _ H locs hp_2 hP hD hS => ?_)
  obtain rfl : r_1 = 23 := hp_2.trans (by decide)
  have hP : va_P D vwCl ([(h, .inr (7, [.ref a, .int 0, .int 0, .int 0, .int (-1), .int 0]))]) H := hP
  have hD : va_D A ([(h, .inr (7, [.ref a, .int 0, .int 0, .int 0, .int (-1), .int 0]))]) := hD
  refine lv_icmp_gt (tgt := 116) hx hb dX7_wordIn_24 (by decide) (fun h => absurd h (by decide)) (fun _ => ?_)
  refine lv_iload_n hx hb dX7_wordIn_27 rfl (lv_at hl 3 rfl) ?_
  refine lv_if_le (tgt := 116) hx hb dX7_wordIn_28 (by decide) (fun _ => ?_) (fun h => absurd (by decide) h)
  refine lv_iconst (v := (-1)) hx hb dX7_wordIn_116 (by decide) ?_
  refine W.widen (k := 0) (n := 0) (Nat.le_of_ble_eq_true rfl) (Nat.le_of_ble_eq_true rfl) ?_
  have hP9 : va_P D vwCl ((fun _ => [(h, .inr (7, [.ref a, .int 0, .int 0, .int 0, .int (-1), .int 0]))]) ()) H := hP.sub [0] rfl
  have hD9 : va_D A ((fun _ => [(h, .inr (7, [.ref a, .int 0, .int 0, .int 0, .int (-1), .int 0]))]) ()) := hD.sub [0] (by decide) rfl
  exact W.iret (v := (-1)) hx hb hr (fun t ht hW => ⟨⟨(-1), (), rfl, rfl, by rw [ht]; exact hP9, hD9⟩, hS.F ht⟩) hS.2.2 dX7_wordIn_117

set_option maxHeartbeats 4000000 in
set_option maxRecDepth 100000 in
theorem kX7_fails (l : Launch) (D : va_G) (k : Nat → ClassId) (sd : Nat → Nat) (h : Nat) (a : Nat) (sz : Nat) : Met l yX7_fails (wB yX7_fails cX7_fails 2 (some .boolean)) ({ frames := 0, cells := 0, slots := 0, locals := 0 }) (va_Pc [.ref h, .int 0] (PRE D k sd ([(h, .inr (7, [.ref a, .int 0, .int 0, .int 0, .int (-1), .int 0]))]) sz)) (va_Qi (S := Unit) (fun r _ => r = 0) (fun u t => PO D (va_A ([(h, .inr (7, [.ref a, .int 0, .int 0, .int 0, .int (-1), .int 0]))]) sz) ((fun _ => [(h, .inr (7, [.ref a, .int 0, .int 0, .int 0, .int (-1), .int 1]))]) u) t) (va_A ([(h, .inr (7, [.ref a, .int 0, .int 0, .int 0, .int (-1), .int 0]))]) sz)) 0 0 (va_A ([(h, .inr (7, [.ref a, .int 0, .int 0, .int 0, .int (-1), .int 0]))]) sz) := by
  refine Met.ofW (cc := cX7_fails) (maxL := 2) (ret := (some .boolean)) (by decide) rfl ?_
  intro p e s m args below meth c s₁ B hml hv
  obtain ⟨rfl, hsz, hP, hK, hD0, hE, hX⟩ := hv
  have hx := B.exec
  have hb := B.bytes
  have hr := B.returns
  have hw : ∀ w ∈ wsB, w.before _ s = true := fun w h => atoms_spec (ws := wB yX7_fails cX7_fails 2 (some .boolean)) B.pre w (List.mem_cons_of_mem _ h)
  have hown : s.vm.findClass RX7 = some m.cls := findClass_of_methodNamed B.named
  have hlocks := B.notSynchronized
  subst hsz
  have hD := hD0.self (sz := s.heap.size)
  generalize hAe : va_A ([(h, .inr (7, [.ref a, .int 0, .int 0, .int 0, .int (-1), .int 0]))]) s.heap.size = A at hD hX ⊢
  have hA : ∀ q : Nat, s.heap.size ≤ q → A q := fun q h => by rw [← hAe]; exact Or.inr h
  have hS : va_S A s.heap s.heap [] := va_S.rf
  have hl := lv_entry ([.ref h, .int 0]) (n := 2) (Nat.le_of_ble_eq_true rfl)
  rw [lg_entry_eq]
  generalize (lg_sl ([.ref h, .int 0]) ++ List.replicate (2 - (lg_sl ([.ref h, .int 0])).length) Slot.unset).toArray = ls at hl ⊢
  have hl : lv_has ls 2 [(0, .ref h), (1, .int 0)] := hl
  refine lv_aload_n hx hb dX7_fails_0 rfl (lv_at hl 0 rfl) ?_
  refine lv_iconst (v := 1) hx hb dX7_fails_1 (by decide) ?_
  refine lv_bipush (v := 8) hx hb dX7_fails_2 (by decide) ?_
  refine lv_aload_n hx hb dX7_fails_4 rfl (lv_at hl 0 rfl) ?_
  refine va_get (D := D) (ci := 7) (v := .int 0) (C := RX7) (T := TX7) (N := 6) hx hb hw inlX7 hown hK hP 0 rfl rfl 2 (by decide) (hw _ wd_37) (fun _ h9 => h9) rfl dX7_fails_5 ?_
  refine lv_imul hx hb dX7_fails_8 ?_
  refine x_top (v := 0) (by decide) ?_
  refine lv_iadd hx hb dX7_fails_9 ?_
  refine x_top (v := 1) (by decide) ?_
  refine lv_iload_n hx hb dX7_fails_10 rfl (lv_at hl 1 rfl) ?_
  refine lv_iadd hx hb dX7_fails_11 ?_
  refine x_top (v := 1) (by decide) ?_
  refine va_put (D := D) (ci := 7) (v := .int 1) (ty := .int) (C := RX7) (T := TX7) (N := 6) hx hb hw inlX7 tyX7 tyX7_ok nmX7 hown hK hP hD hS 0 rfl rfl 5 (by decide) (hw _ wd_42) (fun _ h9 => h9) rfl (by decide +kernel) rfl rfl (Nat.le_of_ble_eq_true rfl) dX7_fails_12 (fun H locs hP hD hS => ?_)
  have hP : va_P D vwCl ([(h, .inr (7, [.ref a, .int 0, .int 0, .int 0, .int (-1), .int 1]))]) H := hP
  have hD : va_D A ([(h, .inr (7, [.ref a, .int 0, .int 0, .int 0, .int (-1), .int 1]))]) := hD
  refine lv_iconst (v := 0) hx hb dX7_fails_15 (by decide) ?_
  refine W.widen (k := 0) (n := 0) (Nat.le_of_ble_eq_true rfl) (Nat.le_of_ble_eq_true rfl) ?_
  have hP9 : va_P D vwCl ((fun _ => [(h, .inr (7, [.ref a, .int 0, .int 0, .int 0, .int (-1), .int 1]))]) ()) H := hP.sub [0] rfl
  have hD9 : va_D A ((fun _ => [(h, .inr (7, [.ref a, .int 0, .int 0, .int 0, .int (-1), .int 1]))]) ()) := hD.sub [0] (by decide) rfl
  exact W.zret (v := 0) (ty := .boolean) hx hb hr rfl (fun t ht hW => ⟨⟨0, (), rfl, rfl, by rw [ht]; exact hP9, hD9⟩, hS.F ht⟩) hS.2.2 dX7_fails_16

set_option maxHeartbeats 4000000 in
set_option maxRecDepth 100000 in
theorem kJ7_fill_9 (l : Launch) (D : va_G) (k : Nat → ClassId) (sd : Nat → Nat) (a : Nat) (f : Nat → Int32) (p0 : Int32) (sz : Nat) : Met l yJ7_fill_53178 (wB yJ7_fill_53178 cJ7_fill_53178 4 none) ({ frames := 0, cells := 0, slots := 0, locals := 0 }) (va_Pc [.ref a, .int p0] (PRE D k sd ([(a, .inl (k 0, 9, .inl (f)))]) sz)) (va_Qv (S := Unit) (fun _ => True) (fun u t => PO D (va_A ([(a, .inl (k 0, 9, .inl (f)))]) sz) ((fun _ => ([] : va_W)) u) t) (va_A ([(a, .inl (k 0, 9, .inl (f)))]) sz)) 0 0 (va_A ([(a, .inl (k 0, 9, .inl (f)))]) sz) := by
  refine Met.ofW (cc := cJ7_fill_53178) (maxL := 4) (ret := none) (by decide) rfl ?_
  intro p e s m args below meth c s₁ B hml hv
  obtain ⟨rfl, hsz, hP, hK, hD0, hE, hX⟩ := hv
  have hx := B.exec
  have hb := B.bytes
  have hr := B.returns
  have hw : ∀ w ∈ wsB, w.before _ s = true := fun w h => atoms_spec (ws := wB yJ7_fill_53178 cJ7_fill_53178 4 none) B.pre w (List.mem_cons_of_mem _ h)
  have hown : s.vm.findClass RJ7 = some m.cls := findClass_of_methodNamed B.named
  have hlocks := B.notSynchronized
  subst hsz
  have hD := hD0.self (sz := s.heap.size)
  generalize hAe : va_A ([(a, .inl (k 0, 9, .inl (f)))]) s.heap.size = A at hD hX ⊢
  have hA : ∀ q : Nat, s.heap.size ≤ q → A q := fun q h => by rw [← hAe]; exact Or.inr h
  have hS : va_S A s.heap s.heap [] := va_S.rf
  have hl := lv_entry ([.ref a, .int p0]) (n := 4) (Nat.le_of_ble_eq_true rfl)
  rw [lg_entry_eq]
  generalize (lg_sl ([.ref a, .int p0]) ++ List.replicate (4 - (lg_sl ([.ref a, .int p0])).length) Slot.unset).toArray = ls at hl ⊢
  have hl : lv_has ls 4 [(0, .ref a), (1, .int p0)] := hl
  refine lv_iconst (v := 0) hx hb dJ7_fill_53178_0 (by decide) ?_
  refine lv_istore_n (lv' := [(2, .int 0), (0, .ref a), (1, .int p0)]) hx hb dJ7_fill_53178_1 rfl hl (by decide) rfl (fun ls hl => ?_)
  refine lv_aload_n hx hb dJ7_fill_53178_2 rfl (lv_at hl 1 rfl) ?_
  refine va_alen (ty := .int) (v := 9) hx hb hK hP 0 0 rfl rfl rfl dJ7_fill_53178_3 ?_
  refine lv_istore_n (lv' := [(3, .int 9), (2, .int 0), (0, .ref a), (1, .int p0)]) hx hb dJ7_fill_53178_4 rfl hl (by decide) rfl (fun ls hl => ?_)
  refine lv_iload_n hx hb dJ7_fill_53178_5 rfl (lv_at hl 1 rfl) ?_
  refine lv_iload_n hx hb dJ7_fill_53178_6 rfl (lv_at hl 0 rfl) ?_
  refine lv_icmp_ge (tgt := 20) hx hb dJ7_fill_53178_7 (by decide) (fun h => absurd h (by decide)) (fun _ => ?_)
  refine lv_aload_n hx hb dJ7_fill_53178_10 rfl (lv_at hl 2 rfl) ?_
  refine lv_iload_n hx hb dJ7_fill_53178_11 rfl (lv_at hl 1 rfl) ?_
  refine lv_iload_n hx hb dJ7_fill_53178_12 rfl (lv_at hl 3 rfl) ?_
  refine va_iast hx hb hK hP hD hS 0 0 rfl rfl (i := 0) (by unfold vp_in; decide) dJ7_fill_53178_13 (fun H locs hP hD hS => ?_)
  have hP : va_P D vwCl ([(a, .inl (k 0, 9, .inl (upd (f) 0 p0)))]) H := hP
  have hD : va_D A ([(a, .inl (k 0, 9, .inl (upd (f) 0 p0)))]) := hD
  refine lv_iinc (v := 1) (lv' := [(2, .int 1), (3, .int 9), (0, .ref a), (1, .int p0)]) hx hb dJ7_fill_53178_14 hl (k := 1) rfl (by decide) (by decide) rfl (fun ls hl => ?_)
  refine lv_goto (tgt := 5) hx hb dJ7_fill_53178_17 (by decide) ?_
  refine lv_iload_n hx hb dJ7_fill_53178_5 rfl (lv_at hl 0 rfl) ?_
  refine lv_iload_n hx hb dJ7_fill_53178_6 rfl (lv_at hl 1 rfl) ?_
  refine lv_icmp_ge (tgt := 20) hx hb dJ7_fill_53178_7 (by decide) (fun h => absurd h (by decide)) (fun _ => ?_)
  refine lv_aload_n hx hb dJ7_fill_53178_10 rfl (lv_at hl 2 rfl) ?_
  refine lv_iload_n hx hb dJ7_fill_53178_11 rfl (lv_at hl 0 rfl) ?_
  refine lv_iload_n hx hb dJ7_fill_53178_12 rfl (lv_at hl 3 rfl) ?_
  refine va_iast hx hb hK hP hD hS 0 0 rfl rfl (i := 1) (by unfold vp_in; decide) dJ7_fill_53178_13 (fun H locs hP hD hS => ?_)
  have hP : va_P D vwCl ([(a, .inl (k 0, 9, .inl (upd (upd (f) 0 p0) 1 p0)))]) H := hP
  have hD : va_D A ([(a, .inl (k 0, 9, .inl (upd (upd (f) 0 p0) 1 p0)))]) := hD
  refine lv_iinc (v := 2) (lv' := [(2, .int 2), (3, .int 9), (0, .ref a), (1, .int p0)]) hx hb dJ7_fill_53178_14 hl (k := 0) rfl (by decide) (by decide) rfl (fun ls hl => ?_)
  refine lv_goto (tgt := 5) hx hb dJ7_fill_53178_17 (by decide) ?_
  refine lv_iload_n hx hb dJ7_fill_53178_5 rfl (lv_at hl 0 rfl) ?_
  refine lv_iload_n hx hb dJ7_fill_53178_6 rfl (lv_at hl 1 rfl) ?_
  refine lv_icmp_ge (tgt := 20) hx hb dJ7_fill_53178_7 (by decide) (fun h => absurd h (by decide)) (fun _ => ?_)
  refine lv_aload_n hx hb dJ7_fill_53178_10 rfl (lv_at hl 2 rfl) ?_
  refine lv_iload_n hx hb dJ7_fill_53178_11 rfl (lv_at hl 0 rfl) ?_
  refine lv_iload_n hx hb dJ7_fill_53178_12 rfl (lv_at hl 3 rfl) ?_
  refine va_iast hx hb hK hP hD hS 0 0 rfl rfl (i := 2) (by unfold vp_in; decide) dJ7_fill_53178_13 (fun H locs hP hD hS => ?_)
  have hP : va_P D vwCl ([(a, .inl (k 0, 9, .inl (upd (upd (upd (f) 0 p0) 1 p0) 2 p0)))]) H := hP
  have hD : va_D A ([(a, .inl (k 0, 9, .inl (upd (upd (upd (f) 0 p0) 1 p0) 2 p0)))]) := hD
  refine lv_iinc (v := 3) (lv' := [(2, .int 3), (3, .int 9), (0, .ref a), (1, .int p0)]) hx hb dJ7_fill_53178_14 hl (k := 0) rfl (by decide) (by decide) rfl (fun ls hl => ?_)
  refine lv_goto (tgt := 5) hx hb dJ7_fill_53178_17 (by decide) ?_
  refine lv_iload_n hx hb dJ7_fill_53178_5 rfl (lv_at hl 0 rfl) ?_
  refine lv_iload_n hx hb dJ7_fill_53178_6 rfl (lv_at hl 1 rfl) ?_
  refine lv_icmp_ge (tgt := 20) hx hb dJ7_fill_53178_7 (by decide) (fun h => absurd h (by decide)) (fun _ => ?_)
  refine lv_aload_n hx hb dJ7_fill_53178_10 rfl (lv_at hl 2 rfl) ?_
  refine lv_iload_n hx hb dJ7_fill_53178_11 rfl (lv_at hl 0 rfl) ?_
  refine lv_iload_n hx hb dJ7_fill_53178_12 rfl (lv_at hl 3 rfl) ?_
  refine va_iast hx hb hK hP hD hS 0 0 rfl rfl (i := 3) (by unfold vp_in; decide) dJ7_fill_53178_13 (fun H locs hP hD hS => ?_)
  have hP : va_P D vwCl ([(a, .inl (k 0, 9, .inl (upd (upd (upd (upd (f) 0 p0) 1 p0) 2 p0) 3 p0)))]) H := hP
  have hD : va_D A ([(a, .inl (k 0, 9, .inl (upd (upd (upd (upd (f) 0 p0) 1 p0) 2 p0) 3 p0)))]) := hD
  refine lv_iinc (v := 4) (lv' := [(2, .int 4), (3, .int 9), (0, .ref a), (1, .int p0)]) hx hb dJ7_fill_53178_14 hl (k := 0) rfl (by decide) (by decide) rfl (fun ls hl => ?_)
  refine lv_goto (tgt := 5) hx hb dJ7_fill_53178_17 (by decide) ?_
  refine lv_iload_n hx hb dJ7_fill_53178_5 rfl (lv_at hl 0 rfl) ?_
  refine lv_iload_n hx hb dJ7_fill_53178_6 rfl (lv_at hl 1 rfl) ?_
  refine lv_icmp_ge (tgt := 20) hx hb dJ7_fill_53178_7 (by decide) (fun h => absurd h (by decide)) (fun _ => ?_)
  refine lv_aload_n hx hb dJ7_fill_53178_10 rfl (lv_at hl 2 rfl) ?_
  refine lv_iload_n hx hb dJ7_fill_53178_11 rfl (lv_at hl 0 rfl) ?_
  refine lv_iload_n hx hb dJ7_fill_53178_12 rfl (lv_at hl 3 rfl) ?_
  refine va_iast hx hb hK hP hD hS 0 0 rfl rfl (i := 4) (by unfold vp_in; decide) dJ7_fill_53178_13 (fun H locs hP hD hS => ?_)
  have hP : va_P D vwCl ([(a, .inl (k 0, 9, .inl (upd (upd (upd (upd (upd (f) 0 p0) 1 p0) 2 p0) 3 p0) 4 p0)))]) H := hP
  have hD : va_D A ([(a, .inl (k 0, 9, .inl (upd (upd (upd (upd (upd (f) 0 p0) 1 p0) 2 p0) 3 p0) 4 p0)))]) := hD
  refine lv_iinc (v := 5) (lv' := [(2, .int 5), (3, .int 9), (0, .ref a), (1, .int p0)]) hx hb dJ7_fill_53178_14 hl (k := 0) rfl (by decide) (by decide) rfl (fun ls hl => ?_)
  refine lv_goto (tgt := 5) hx hb dJ7_fill_53178_17 (by decide) ?_
  refine lv_iload_n hx hb dJ7_fill_53178_5 rfl (lv_at hl 0 rfl) ?_
  refine lv_iload_n hx hb dJ7_fill_53178_6 rfl (lv_at hl 1 rfl) ?_
  refine lv_icmp_ge (tgt := 20) hx hb dJ7_fill_53178_7 (by decide) (fun h => absurd h (by decide)) (fun _ => ?_)
  refine lv_aload_n hx hb dJ7_fill_53178_10 rfl (lv_at hl 2 rfl) ?_
  refine lv_iload_n hx hb dJ7_fill_53178_11 rfl (lv_at hl 0 rfl) ?_
  refine lv_iload_n hx hb dJ7_fill_53178_12 rfl (lv_at hl 3 rfl) ?_
  refine va_iast hx hb hK hP hD hS 0 0 rfl rfl (i := 5) (by unfold vp_in; decide) dJ7_fill_53178_13 (fun H locs hP hD hS => ?_)
  have hP : va_P D vwCl ([(a, .inl (k 0, 9, .inl (upd (upd (upd (upd (upd (upd (f) 0 p0) 1 p0) 2 p0) 3 p0) 4 p0) 5 p0)))]) H := hP
  have hD : va_D A ([(a, .inl (k 0, 9, .inl (upd (upd (upd (upd (upd (upd (f) 0 p0) 1 p0) 2 p0) 3 p0) 4 p0) 5 p0)))]) := hD
  refine lv_iinc (v := 6) (lv' := [(2, .int 6), (3, .int 9), (0, .ref a), (1, .int p0)]) hx hb dJ7_fill_53178_14 hl (k := 0) rfl (by decide) (by decide) rfl (fun ls hl => ?_)
  refine lv_goto (tgt := 5) hx hb dJ7_fill_53178_17 (by decide) ?_
  refine lv_iload_n hx hb dJ7_fill_53178_5 rfl (lv_at hl 0 rfl) ?_
  refine lv_iload_n hx hb dJ7_fill_53178_6 rfl (lv_at hl 1 rfl) ?_
  refine lv_icmp_ge (tgt := 20) hx hb dJ7_fill_53178_7 (by decide) (fun h => absurd h (by decide)) (fun _ => ?_)
  refine lv_aload_n hx hb dJ7_fill_53178_10 rfl (lv_at hl 2 rfl) ?_
  refine lv_iload_n hx hb dJ7_fill_53178_11 rfl (lv_at hl 0 rfl) ?_
  refine lv_iload_n hx hb dJ7_fill_53178_12 rfl (lv_at hl 3 rfl) ?_
  refine va_iast hx hb hK hP hD hS 0 0 rfl rfl (i := 6) (by unfold vp_in; decide) dJ7_fill_53178_13 (fun H locs hP hD hS => ?_)
  have hP : va_P D vwCl ([(a, .inl (k 0, 9, .inl (upd (upd (upd (upd (upd (upd (upd (f) 0 p0) 1 p0) 2 p0) 3 p0) 4 p0) 5 p0) 6 p0)))]) H := hP
  have hD : va_D A ([(a, .inl (k 0, 9, .inl (upd (upd (upd (upd (upd (upd (upd (f) 0 p0) 1 p0) 2 p0) 3 p0) 4 p0) 5 p0) 6 p0)))]) := hD
  refine lv_iinc (v := 7) (lv' := [(2, .int 7), (3, .int 9), (0, .ref a), (1, .int p0)]) hx hb dJ7_fill_53178_14 hl (k := 0) rfl (by decide) (by decide) rfl (fun ls hl => ?_)
  refine lv_goto (tgt := 5) hx hb dJ7_fill_53178_17 (by decide) ?_
  refine lv_iload_n hx hb dJ7_fill_53178_5 rfl (lv_at hl 0 rfl) ?_
  refine lv_iload_n hx hb dJ7_fill_53178_6 rfl (lv_at hl 1 rfl) ?_
  refine lv_icmp_ge (tgt := 20) hx hb dJ7_fill_53178_7 (by decide) (fun h => absurd h (by decide)) (fun _ => ?_)
  refine lv_aload_n hx hb dJ7_fill_53178_10 rfl (lv_at hl 2 rfl) ?_
  refine lv_iload_n hx hb dJ7_fill_53178_11 rfl (lv_at hl 0 rfl) ?_
  refine lv_iload_n hx hb dJ7_fill_53178_12 rfl (lv_at hl 3 rfl) ?_
  refine va_iast hx hb hK hP hD hS 0 0 rfl rfl (i := 7) (by unfold vp_in; decide) dJ7_fill_53178_13 (fun H locs hP hD hS => ?_)
  have hP : va_P D vwCl ([(a, .inl (k 0, 9, .inl (upd (upd (upd (upd (upd (upd (upd (upd (f) 0 p0) 1 p0) 2 p0) 3 p0) 4 p0) 5 p0) 6 p0) 7 p0)))]) H := hP
  have hD : va_D A ([(a, .inl (k 0, 9, .inl (upd (upd (upd (upd (upd (upd (upd (upd (f) 0 p0) 1 p0) 2 p0) 3 p0) 4 p0) 5 p0) 6 p0) 7 p0)))]) := hD
  refine lv_iinc (v := 8) (lv' := [(2, .int 8), (3, .int 9), (0, .ref a), (1, .int p0)]) hx hb dJ7_fill_53178_14 hl (k := 0) rfl (by decide) (by decide) rfl (fun ls hl => ?_)
  refine lv_goto (tgt := 5) hx hb dJ7_fill_53178_17 (by decide) ?_
  refine lv_iload_n hx hb dJ7_fill_53178_5 rfl (lv_at hl 0 rfl) ?_
  refine lv_iload_n hx hb dJ7_fill_53178_6 rfl (lv_at hl 1 rfl) ?_
  refine lv_icmp_ge (tgt := 20) hx hb dJ7_fill_53178_7 (by decide) (fun h => absurd h (by decide)) (fun _ => ?_)
  refine lv_aload_n hx hb dJ7_fill_53178_10 rfl (lv_at hl 2 rfl) ?_
  refine lv_iload_n hx hb dJ7_fill_53178_11 rfl (lv_at hl 0 rfl) ?_
  refine lv_iload_n hx hb dJ7_fill_53178_12 rfl (lv_at hl 3 rfl) ?_
  refine va_iast hx hb hK hP hD hS 0 0 rfl rfl (i := 8) (by unfold vp_in; decide) dJ7_fill_53178_13 (fun H locs hP hD hS => ?_)
  have hP : va_P D vwCl ([(a, .inl (k 0, 9, .inl (upd (upd (upd (upd (upd (upd (upd (upd (upd (f) 0 p0) 1 p0) 2 p0) 3 p0) 4 p0) 5 p0) 6 p0) 7 p0) 8 p0)))]) H := hP
  have hD : va_D A ([(a, .inl (k 0, 9, .inl (upd (upd (upd (upd (upd (upd (upd (upd (upd (f) 0 p0) 1 p0) 2 p0) 3 p0) 4 p0) 5 p0) 6 p0) 7 p0) 8 p0)))]) := hD
  refine lv_iinc (v := 9) (lv' := [(2, .int 9), (3, .int 9), (0, .ref a), (1, .int p0)]) hx hb dJ7_fill_53178_14 hl (k := 0) rfl (by decide) (by decide) rfl (fun ls hl => ?_)
  refine lv_goto (tgt := 5) hx hb dJ7_fill_53178_17 (by decide) ?_
  refine lv_iload_n hx hb dJ7_fill_53178_5 rfl (lv_at hl 0 rfl) ?_
  refine lv_iload_n hx hb dJ7_fill_53178_6 rfl (lv_at hl 1 rfl) ?_
  refine lv_icmp_ge (tgt := 20) hx hb dJ7_fill_53178_7 (by decide) (fun _ => ?_) (fun h => absurd (by decide) h)
  refine W.widen (k := 0) (n := 0) (Nat.le_of_ble_eq_true rfl) (Nat.le_of_ble_eq_true rfl) ?_
  have hP9 : va_P D vwCl ((fun _ => ([] : va_W)) ()) H := hP.sub [] rfl
  have hD9 : va_D A ((fun _ => ([] : va_W)) ()) := hD.sub [] (by decide) rfl
  exact W.vret hx hb hr (fun t ht hW => ⟨⟨(), rfl, trivial, by rw [ht]; exact hP9, hD9⟩, hS.F ht⟩) hS.2.2 dJ7_fill_53178_20

set_option maxHeartbeats 4000000 in
set_option maxRecDepth 100000 in
theorem kX2_clear (l : Launch) (D : va_G) (k : Nat → ClassId) (sd : Nat → Nat) (r : Nat) (r0 : Nat) (r1 : Nat) (r2 : Nat) (r3 : Nat) (r4 : Nat) (r5 : Nat) (r6 : Nat) (f : Nat → Int32) (sz : Nat) : Met l yX2_clear (wB yX2_clear cX2_clear 1 none) ({ frames := 1, cells := 0, slots := 0, locals := 23 }) (va_Pc [.ref r] (PRE D k sd ([(r, .inr (2, [.int 0, .int 0, .int 0, .int 0, .int 0, .ref r0, .ref r1, .ref r2, .ref r3, .ref r4, .ref r5, .ref r6])), (r1, .inl (k 0, 9, .inl (f)))]) sz)) (va_Qv (S := Unit) (fun _ => True) (fun u t => PO D (va_A ([(r, .inr (2, [.int 0, .int 0, .int 0, .int 0, .int 0, .ref r0, .ref r1, .ref r2, .ref r3, .ref r4, .ref r5, .ref r6])), (r1, .inl (k 0, 9, .inl (f)))]) sz) ((fun _ => ([] : va_W)) u) t) (va_A ([(r, .inr (2, [.int 0, .int 0, .int 0, .int 0, .int 0, .ref r0, .ref r1, .ref r2, .ref r3, .ref r4, .ref r5, .ref r6])), (r1, .inl (k 0, 9, .inl (f)))]) sz)) 0 0 (va_A ([(r, .inr (2, [.int 0, .int 0, .int 0, .int 0, .int 0, .ref r0, .ref r1, .ref r2, .ref r3, .ref r4, .ref r5, .ref r6])), (r1, .inl (k 0, 9, .inl (f)))]) sz) := by
  refine Met.ofW (cc := cX2_clear) (maxL := 1) (ret := none) (by decide) rfl ?_
  intro p e s m args below meth c s₁ B hml hv
  obtain ⟨rfl, hsz, hP, hK, hD0, hE, hX⟩ := hv
  have hx := B.exec
  have hb := B.bytes
  have hr := B.returns
  have hw : ∀ w ∈ wsB, w.before _ s = true := fun w h => atoms_spec (ws := wB yX2_clear cX2_clear 1 none) B.pre w (List.mem_cons_of_mem _ h)
  have hown : s.vm.findClass RX2 = some m.cls := findClass_of_methodNamed B.named
  have hlocks := B.notSynchronized
  subst hsz
  have hD := hD0.self (sz := s.heap.size)
  generalize hAe : va_A ([(r, .inr (2, [.int 0, .int 0, .int 0, .int 0, .int 0, .ref r0, .ref r1, .ref r2, .ref r3, .ref r4, .ref r5, .ref r6])), (r1, .inl (k 0, 9, .inl (f)))]) s.heap.size = A at hD hX ⊢
  have hA : ∀ q : Nat, s.heap.size ≤ q → A q := fun q h => by rw [← hAe]; exact Or.inr h
  have hS : va_S A s.heap s.heap [] := va_S.rf
  have hl := lv_entry ([.ref r]) (n := 1) (Nat.le_of_ble_eq_true rfl)
  rw [lg_entry_eq]
  generalize (lg_sl ([.ref r]) ++ List.replicate (1 - (lg_sl ([.ref r])).length) Slot.unset).toArray = ls at hl ⊢
  have hl : lv_has ls 1 [(0, .ref r)] := hl
  refine lv_aload_n hx hb dX2_clear_0 rfl (lv_at hl 0 rfl) ?_
  refine lv_iconst (v := 0) hx hb dX2_clear_1 (by decide) ?_
  refine va_put (D := D) (ci := 2) (v := .int 0) (ty := .int) (C := RX2) (T := TX2) (N := 12) hx hb hw inlX2 tyX2 tyX2_ok nmX2 hown hK hP hD hS 0 rfl rfl 0 (by decide) (hw _ wd_71) (fun _ h9 => h9) rfl (by decide +kernel) rfl rfl (Nat.le_of_ble_eq_true rfl) dX2_clear_2 (fun H locs hP hD hS => ?_)
  have hP : va_P D vwCl ([(r, .inr (2, [.int 0, .int 0, .int 0, .int 0, .int 0, .ref r0, .ref r1, .ref r2, .ref r3, .ref r4, .ref r5, .ref r6])), (r1, .inl (k 0, 9, .inl (f)))]) H := hP
  have hD : va_D A ([(r, .inr (2, [.int 0, .int 0, .int 0, .int 0, .int 0, .ref r0, .ref r1, .ref r2, .ref r3, .ref r4, .ref r5, .ref r6])), (r1, .inl (k 0, 9, .inl (f)))]) := hD
  refine lv_aload_n hx hb dX2_clear_5 rfl (lv_at hl 0 rfl) ?_
  refine lv_iconst (v := 0) hx hb dX2_clear_6 (by decide) ?_
  refine va_put (D := D) (ci := 2) (v := .int 0) (ty := .int) (C := RX2) (T := TX2) (N := 12) hx hb hw inlX2 tyX2 tyX2_ok nmX2 hown hK hP hD hS 0 rfl rfl 1 (by decide) (hw _ wd_75) (fun _ h9 => h9) rfl (by decide +kernel) rfl rfl (Nat.le_of_ble_eq_true rfl) dX2_clear_7 (fun H locs hP hD hS => ?_)
  have hP : va_P D vwCl ([(r, .inr (2, [.int 0, .int 0, .int 0, .int 0, .int 0, .ref r0, .ref r1, .ref r2, .ref r3, .ref r4, .ref r5, .ref r6])), (r1, .inl (k 0, 9, .inl (f)))]) H := hP
  have hD : va_D A ([(r, .inr (2, [.int 0, .int 0, .int 0, .int 0, .int 0, .ref r0, .ref r1, .ref r2, .ref r3, .ref r4, .ref r5, .ref r6])), (r1, .inl (k 0, 9, .inl (f)))]) := hD
  refine lv_aload_n hx hb dX2_clear_10 rfl (lv_at hl 0 rfl) ?_
  refine lv_iconst (v := 0) hx hb dX2_clear_11 (by decide) ?_
  refine va_put (D := D) (ci := 2) (v := .int 0) (ty := .int) (C := RX2) (T := TX2) (N := 12) hx hb hw inlX2 tyX2 tyX2_ok nmX2 hown hK hP hD hS 0 rfl rfl 2 (by decide) (hw _ wd_79) (fun _ h9 => h9) rfl (by decide +kernel) rfl rfl (Nat.le_of_ble_eq_true rfl) dX2_clear_12 (fun H locs hP hD hS => ?_)
  have hP : va_P D vwCl ([(r, .inr (2, [.int 0, .int 0, .int 0, .int 0, .int 0, .ref r0, .ref r1, .ref r2, .ref r3, .ref r4, .ref r5, .ref r6])), (r1, .inl (k 0, 9, .inl (f)))]) H := hP
  have hD : va_D A ([(r, .inr (2, [.int 0, .int 0, .int 0, .int 0, .int 0, .ref r0, .ref r1, .ref r2, .ref r3, .ref r4, .ref r5, .ref r6])), (r1, .inl (k 0, 9, .inl (f)))]) := hD
  refine lv_aload_n hx hb dX2_clear_15 rfl (lv_at hl 0 rfl) ?_
  refine lv_iconst (v := 0) hx hb dX2_clear_16 (by decide) ?_
  refine va_put (D := D) (ci := 2) (v := .int 0) (ty := .int) (C := RX2) (T := TX2) (N := 12) hx hb hw inlX2 tyX2 tyX2_ok nmX2 hown hK hP hD hS 0 rfl rfl 3 (by decide) (hw _ wd_82) (fun _ h9 => h9) rfl (by decide +kernel) rfl rfl (Nat.le_of_ble_eq_true rfl) dX2_clear_17 (fun H locs hP hD hS => ?_)
  have hP : va_P D vwCl ([(r, .inr (2, [.int 0, .int 0, .int 0, .int 0, .int 0, .ref r0, .ref r1, .ref r2, .ref r3, .ref r4, .ref r5, .ref r6])), (r1, .inl (k 0, 9, .inl (f)))]) H := hP
  have hD : va_D A ([(r, .inr (2, [.int 0, .int 0, .int 0, .int 0, .int 0, .ref r0, .ref r1, .ref r2, .ref r3, .ref r4, .ref r5, .ref r6])), (r1, .inl (k 0, 9, .inl (f)))]) := hD
  refine lv_aload_n hx hb dX2_clear_20 rfl (lv_at hl 0 rfl) ?_
  refine lv_iconst (v := 0) hx hb dX2_clear_21 (by decide) ?_
  refine va_put (D := D) (ci := 2) (v := .int 0) (ty := .int) (C := RX2) (T := TX2) (N := 12) hx hb hw inlX2 tyX2 tyX2_ok nmX2 hown hK hP hD hS 0 rfl rfl 4 (by decide) (hw _ wd_87) (fun _ h9 => h9) rfl (by decide +kernel) rfl rfl (Nat.le_of_ble_eq_true rfl) dX2_clear_22 (fun H locs hP hD hS => ?_)
  have hP : va_P D vwCl ([(r, .inr (2, [.int 0, .int 0, .int 0, .int 0, .int 0, .ref r0, .ref r1, .ref r2, .ref r3, .ref r4, .ref r5, .ref r6])), (r1, .inl (k 0, 9, .inl (f)))]) H := hP
  have hD : va_D A ([(r, .inr (2, [.int 0, .int 0, .int 0, .int 0, .int 0, .ref r0, .ref r1, .ref r2, .ref r3, .ref r4, .ref r5, .ref r6])), (r1, .inl (k 0, 9, .inl (f)))]) := hD
  refine lv_aload_n hx hb dX2_clear_25 rfl (lv_at hl 0 rfl) ?_
  refine va_get (D := D) (ci := 2) (v := .ref r1) (C := RX2) (T := TX2) (N := 12) hx hb hw inlX2 hown hK hP 0 rfl rfl 6 (by decide) (hw _ wd_95) (fun _ h9 => h9) rfl dX2_clear_26 ?_
  refine lv_bipush (v := 9) hx hb dX2_clear_29 (by decide) ?_
  refine x_v (wr := [(r, .inr (2, [.int 0, .int 0, .int 0, .int 0, .int 0, .ref r0, .ref r1, .ref r2, .ref r3, .ref r4, .ref r5, .ref r6]))]) (va_runS (As := [.ref r1, .int 9]) (rest := []) ⟨hx, hb, hml, hown, hw⟩ (kJ7_fill_9 l D k sd r1 (f) 9 H.size) (va_cwS 2 hw (gT wd_480 wd_481 wd_12 wd_482) rfl rfl rfl (by decide +kernel) ⟨Nat.le_of_ble_eq_true rfl, Nat.le_of_ble_eq_true rfl⟩) (pre_S hK hE hX hP hD hS hA [1] (by decide) rfl) rfl rfl hl.1 rfl (lv_room (Nat.le_of_ble_eq_true rfl)) dX2_clear_31 ⟨Nat.le_of_ble_eq_true rfl, Nat.le_of_ble_eq_true rfl⟩) hP hD hS hA [1] [0] rfl rfl (by decide) (by decide) (fun u_1 H locs hp_2 hP hD hS => ?_)
  have hP : va_P D vwCl ([(r, .inr (2, [.int 0, .int 0, .int 0, .int 0, .int 0, .ref r0, .ref r1, .ref r2, .ref r3, .ref r4, .ref r5, .ref r6]))]) H := hP
  have hD : va_D A ([(r, .inr (2, [.int 0, .int 0, .int 0, .int 0, .int 0, .ref r0, .ref r1, .ref r2, .ref r3, .ref r4, .ref r5, .ref r6]))]) := hD
  refine W.widen (k := 0) (n := 0) (Nat.le_of_ble_eq_true rfl) (Nat.le_of_ble_eq_true rfl) ?_
  have hP9 : va_P D vwCl ((fun _ => ([] : va_W)) ()) H := hP.sub [] rfl
  have hD9 : va_D A ((fun _ => ([] : va_W)) ()) := hD.sub [] (by decide) rfl
  exact W.vret hx hb hr (fun t ht hW => ⟨⟨(), rfl, trivial, by rw [ht]; exact hP9, hD9⟩, hS.F ht⟩) hS.2.2 dX2_clear_34

set_option maxHeartbeats 4000000 in
set_option maxRecDepth 100000 in
theorem kX3_reads (l : Launch) (D : va_G) (k : Nat → ClassId) (sd : Nat → Nat) (h : Nat) (r : Nat) (tp : Nat) (r0 : Nat) (r1 : Nat) (r2 : Nat) (r3 : Nat) (r4 : Nat) (r5 : Nat) (r6 : Nat) (b0 : Nat) (f : Nat → Int32) (sz : Nat) : Met l yX3_reads (wB yX3_reads cX3_reads 3 (some .boolean)) ({ frames := 3, cells := 0, slots := 0, locals := 65 }) (va_Pc [.ref h] (PRE D k sd ([(h, .inr (3, [.ref r, .ref tp, .int 0])), (r, .inr (2, [.int 0, .int 0, .int 0, .int 0, .int 0, .ref r0, .ref r1, .ref r2, .ref r3, .ref r4, .ref r5, .ref r6])), (r1, .inl (k 0, 9, .inl (f))), (tp, .inr (7, [.ref b0, .int 0, .int 0, .int 0, .int 0, .int 0]))]) sz)) (va_Qi (S := Unit) (fun r _ => r = 0) (fun u t => PO D (va_A ([(h, .inr (3, [.ref r, .ref tp, .int 0])), (r, .inr (2, [.int 0, .int 0, .int 0, .int 0, .int 0, .ref r0, .ref r1, .ref r2, .ref r3, .ref r4, .ref r5, .ref r6])), (r1, .inl (k 0, 9, .inl (f))), (tp, .inr (7, [.ref b0, .int 0, .int 0, .int 0, .int 0, .int 0]))]) sz) ((fun _ => [(tp, .inr (7, [.ref b0, .int 0, .int 0, .int 0, .int (-1), .int 1]))]) u) t) (va_A ([(h, .inr (3, [.ref r, .ref tp, .int 0])), (r, .inr (2, [.int 0, .int 0, .int 0, .int 0, .int 0, .ref r0, .ref r1, .ref r2, .ref r3, .ref r4, .ref r5, .ref r6])), (r1, .inl (k 0, 9, .inl (f))), (tp, .inr (7, [.ref b0, .int 0, .int 0, .int 0, .int 0, .int 0]))]) sz)) 0 0 (va_A ([(h, .inr (3, [.ref r, .ref tp, .int 0])), (r, .inr (2, [.int 0, .int 0, .int 0, .int 0, .int 0, .ref r0, .ref r1, .ref r2, .ref r3, .ref r4, .ref r5, .ref r6])), (r1, .inl (k 0, 9, .inl (f))), (tp, .inr (7, [.ref b0, .int 0, .int 0, .int 0, .int 0, .int 0]))]) sz) := by
  refine Met.ofW (cc := cX3_reads) (maxL := 3) (ret := (some .boolean)) (by decide) rfl ?_
  intro p e s m args below meth c s₁ B hml hv
  obtain ⟨rfl, hsz, hP, hK, hD0, hE, hX⟩ := hv
  have hx := B.exec
  have hb := B.bytes
  have hr := B.returns
  have hw : ∀ w ∈ wsB, w.before _ s = true := fun w h => atoms_spec (ws := wB yX3_reads cX3_reads 3 (some .boolean)) B.pre w (List.mem_cons_of_mem _ h)
  have hown : s.vm.findClass RX3 = some m.cls := findClass_of_methodNamed B.named
  have hlocks := B.notSynchronized
  subst hsz
  have hD := hD0.self (sz := s.heap.size)
  generalize hAe : va_A ([(h, .inr (3, [.ref r, .ref tp, .int 0])), (r, .inr (2, [.int 0, .int 0, .int 0, .int 0, .int 0, .ref r0, .ref r1, .ref r2, .ref r3, .ref r4, .ref r5, .ref r6])), (r1, .inl (k 0, 9, .inl (f))), (tp, .inr (7, [.ref b0, .int 0, .int 0, .int 0, .int 0, .int 0]))]) s.heap.size = A at hD hX ⊢
  have hA : ∀ q : Nat, s.heap.size ≤ q → A q := fun q h => by rw [← hAe]; exact Or.inr h
  have hS : va_S A s.heap s.heap [] := va_S.rf
  have hl := lv_entry ([.ref h]) (n := 3) (Nat.le_of_ble_eq_true rfl)
  rw [lg_entry_eq]
  generalize (lg_sl ([.ref h]) ++ List.replicate (3 - (lg_sl ([.ref h])).length) Slot.unset).toArray = ls at hl ⊢
  have hl : lv_has ls 3 [(0, .ref h)] := hl
  refine lv_aload_n hx hb dX3_reads_0 rfl (lv_at hl 0 rfl) ?_
  refine va_get (D := D) (ci := 3) (v := .ref r) (C := RX3) (T := TX3) (N := 3) hx hb hw inlX3 hown hK hP 0 rfl rfl 0 (by decide) (hw _ wd_141) (fun _ h9 => h9) rfl dX3_reads_1 ?_
  refine x_v (wr := [(h, .inr (3, [.ref r, .ref tp, .int 0])), (tp, .inr (7, [.ref b0, .int 0, .int 0, .int 0, .int 0, .int 0]))]) (va_runV (As := []) (rest := []) ⟨hx, hb, hml, hown, hw⟩ (kX2_clear l D k sd r r0 r1 r2 r3 r4 r5 r6 (f) s.heap.size) (cwV 0 hw (gV wd_476 wd_477 wd_478 wd_4 wd_479) rfl rfl rfl (by decide +kernel) ⟨Nat.le_of_ble_eq_true rfl, Nat.le_of_ble_eq_true rfl⟩) (pre_V (ci := 2) (r := (RX2, TX2, 12)) hK hE hX hP hD hS hA [1, 2] (by decide) rfl rfl (q0 := 1) rfl) rfl rfl hl.1 rfl (lv_room (Nat.le_of_ble_eq_true rfl)) dX3_reads_4 ⟨Nat.le_of_ble_eq_true rfl, Nat.le_of_ble_eq_true rfl⟩) hP hD hS hA [1, 2] [0, 3] rfl rfl (by decide) (by decide) (fun u_1 H locs hp_2 hP hD hS => ?_)
  have hP : va_P D vwCl ([(h, .inr (3, [.ref r, .ref tp, .int 0])), (tp, .inr (7, [.ref b0, .int 0, .int 0, .int 0, .int 0, .int 0]))]) H := hP
  have hD : va_D A ([(h, .inr (3, [.ref r, .ref tp, .int 0])), (tp, .inr (7, [.ref b0, .int 0, .int 0, .int 0, .int 0, .int 0]))]) := hD
  refine lv_aload_n hx hb dX3_reads_7 rfl (lv_at hl 0 rfl) ?_
  refine lv_iconst (v := 0) hx hb dX3_reads_8 (by decide) ?_
  refine va_put (D := D) (ci := 3) (v := .int 0) (ty := .boolean) (C := RX3) (T := TX3) (N := 3) hx hb hw inlX3 tyX3 tyX3_ok nmX3 hown hK hP hD hS 0 rfl rfl 2 (by decide) (hw _ wd_144) (fun _ h9 => h9) rfl (by decide +kernel) rfl rfl (Nat.le_of_ble_eq_true rfl) dX3_reads_9 (fun H locs hP hD hS => ?_)
  have hP : va_P D vwCl ([(h, .inr (3, [.ref r, .ref tp, .int 0])), (tp, .inr (7, [.ref b0, .int 0, .int 0, .int 0, .int 0, .int 0]))]) H := hP
  have hD : va_D A ([(h, .inr (3, [.ref r, .ref tp, .int 0])), (tp, .inr (7, [.ref b0, .int 0, .int 0, .int 0, .int 0, .int 0]))]) := hD
  refine lv_aload_n hx hb dX3_reads_12 rfl (lv_at hl 0 rfl) ?_
  refine va_get (D := D) (ci := 3) (v := .ref tp) (C := RX3) (T := TX3) (N := 3) hx hb hw inlX3 hown hK hP 0 rfl rfl 1 (by decide) (hw _ wd_143) (fun _ h9 => h9) rfl dX3_reads_13 ?_
  refine x_v (wr := [(h, .inr (3, [.ref r, .ref tp, .int 0]))]) (va_runV (As := []) (rest := []) ⟨hx, hb, hml, hown, hw⟩ (kX7_rewind l D k sd tp b0 H.size) (cwV 0 hw (gV wd_483 wd_484 wd_485 wd_2 wd_486) rfl rfl rfl (by decide +kernel) ⟨Nat.le_of_ble_eq_true rfl, Nat.le_of_ble_eq_true rfl⟩) (pre_V (ci := 7) (r := (RX7, TX7, 6)) hK hE hX hP hD hS hA [1] (by decide) rfl rfl (q0 := 1) rfl) rfl rfl hl.1 rfl (lv_room (Nat.le_of_ble_eq_true rfl)) dX3_reads_16 ⟨Nat.le_of_ble_eq_true rfl, Nat.le_of_ble_eq_true rfl⟩) hP hD hS hA [1] [0] rfl rfl (by decide) (by decide) (fun u_4 H locs hp_5 hP hD hS => ?_)
  have hP : va_P D vwCl ([(h, .inr (3, [.ref r, .ref tp, .int 0])), (tp, .inr (7, [.ref b0, .int 0, .int 0, .int 0, .int (-1), .int 0]))]) H := hP
  have hD : va_D A ([(h, .inr (3, [.ref r, .ref tp, .int 0])), (tp, .inr (7, [.ref b0, .int 0, .int 0, .int 0, .int (-1), .int 0]))]) := hD
  refine lv_iconst (v := 0) hx hb dX3_reads_19 (by decide) ?_
  refine lv_istore_n (lv' := [(1, .int 0), (0, .ref h)]) hx hb dX3_reads_20 rfl hl (by decide) rfl (fun ls hl => ?_)
  refine lv_iload_n hx hb dX3_reads_21 rfl (lv_at hl 0 rfl) ?_
  refine lv_bipush (v := 40) hx hb dX3_reads_22 (by decide) ?_
  refine lv_icmp_gt (tgt := 139) hx hb dX3_reads_24 (by decide) (fun h => absurd h (by decide)) (fun _ => ?_)
  refine lv_aload_n hx hb dX3_reads_27 rfl (lv_at hl 1 rfl) ?_
  refine va_get (D := D) (ci := 3) (v := .ref tp) (C := RX3) (T := TX3) (N := 3) hx hb hw inlX3 hown hK hP 0 rfl rfl 1 (by decide) (hw _ wd_143) (fun _ h9 => h9) rfl dX3_reads_28 ?_
  refine va_ldcS hx hb hown (hX.2 0 _ rfl).1 dX3_reads_31 ?_
  refine x_i (wr := [(h, .inr (3, [.ref r, .ref tp, .int 0]))]) (va_runV (As := [.ref (sd (2 * 0))]) (rest := []) ⟨hx, hb, hml, hown, hw⟩ (kX7_wordIn_0 l D k sd tp b0 H.size) (cwV 1 hw (gV wd_492 wd_493 wd_494 wd_2 wd_495) rfl rfl rfl (by decide +kernel) ⟨Nat.le_of_ble_eq_true rfl, Nat.le_of_ble_eq_true rfl⟩) (pre_V (ci := 7) (r := (RX7, TX7, 6)) hK hE hX hP hD hS hA [1] (by decide) rfl rfl (q0 := 1) rfl) rfl rfl hl.1 rfl (lv_room (Nat.le_of_ble_eq_true rfl)) dX3_reads_33 ⟨Nat.le_of_ble_eq_true rfl, Nat.le_of_ble_eq_true rfl⟩) hP hD hS hA [1] [0] rfl rfl (by decide) (by decide) (fun r_9 u_7 H locs hp_8 hP hD hS => ?_)
  subst hp_8
  have hP : va_P D vwCl ([(h, .inr (3, [.ref r, .ref tp, .int 0])), (tp, .inr (7, [.ref b0, .int 0, .int 0, .int 0, .int (-1), .int 0]))]) H := hP
  have hD : va_D A ([(h, .inr (3, [.ref r, .ref tp, .int 0])), (tp, .inr (7, [.ref b0, .int 0, .int 0, .int 0, .int (-1), .int 0]))]) := hD
  refine lv_istore_n (lv' := [(2, .int (-1)), (1, .int 0), (0, .ref h)]) hx hb dX3_reads_36 rfl hl (by decide) rfl (fun ls hl => ?_)
  refine lv_iload_n hx hb dX3_reads_37 rfl (lv_at hl 0 rfl) ?_
  refine lv_iconst (v := (-1)) hx hb dX3_reads_38 (by decide) ?_
  refine lv_icmp_ne (tgt := 51) hx hb dX3_reads_39 (by decide) (fun h => absurd (by decide) h) (fun _ => ?_)
  refine lv_aload_n hx hb dX3_reads_42 rfl (lv_at hl 2 rfl) ?_
  refine va_get (D := D) (ci := 3) (v := .ref tp) (C := RX3) (T := TX3) (N := 3) hx hb hw inlX3 hown hK hP 0 rfl rfl 1 (by decide) (hw _ wd_143) (fun _ h9 => h9) rfl dX3_reads_43 ?_
  refine lv_iconst (v := 0) hx hb dX3_reads_46 (by decide) ?_
  refine x_i (wr := [(h, .inr (3, [.ref r, .ref tp, .int 0]))]) (va_runV (As := [.int 0]) (rest := []) ⟨hx, hb, hml, hown, hw⟩ (kX7_fails l D k sd tp b0 H.size) (cwV 1 hw (gV wd_544 wd_545 wd_546 wd_2 wd_547) rfl rfl rfl (by decide +kernel) ⟨Nat.le_of_ble_eq_true rfl, Nat.le_of_ble_eq_true rfl⟩) (pre_V (ci := 7) (r := (RX7, TX7, 6)) hK hE hX hP hD hS hA [1] (by decide) rfl rfl (q0 := 1) rfl) rfl rfl hl.1 rfl (lv_room (Nat.le_of_ble_eq_true rfl)) dX3_reads_47 ⟨Nat.le_of_ble_eq_true rfl, Nat.le_of_ble_eq_true rfl⟩) hP hD hS hA [1] [0] rfl rfl (by decide) (by decide) (fun r_12 u_10 H locs hp_11 hP hD hS => ?_)
  subst hp_11
  have hP : va_P D vwCl ([(h, .inr (3, [.ref r, .ref tp, .int 0])), (tp, .inr (7, [.ref b0, .int 0, .int 0, .int 0, .int (-1), .int 1]))]) H := hP
  have hD : va_D A ([(h, .inr (3, [.ref r, .ref tp, .int 0])), (tp, .inr (7, [.ref b0, .int 0, .int 0, .int 0, .int (-1), .int 1]))]) := hD
  refine W.widen (k := 0) (n := 0) (Nat.le_of_ble_eq_true rfl) (Nat.le_of_ble_eq_true rfl) ?_
  have hP9 : va_P D vwCl ((fun _ => [(tp, .inr (7, [.ref b0, .int 0, .int 0, .int 0, .int (-1), .int 1]))]) ()) H := hP.sub [1] rfl
  have hD9 : va_D A ((fun _ => [(tp, .inr (7, [.ref b0, .int 0, .int 0, .int 0, .int (-1), .int 1]))]) ()) := hD.sub [1] (by decide) rfl
  exact W.zret (v := 0) (ty := .boolean) hx hb hr rfl (fun t ht hW => ⟨⟨0, (), rfl, rfl, by rw [ht]; exact hP9, hD9⟩, hS.F ht⟩) hS.2.2 dX3_reads_50

set_option maxHeartbeats 4000000 in
set_option maxRecDepth 100000 in
theorem kX9_river (l : Launch) (D : va_G) (k : Nat → ClassId) (sd : Nat → Nat) (x : Nat) (a0 : Nat) (a1 : Nat) (a2 : Nat) (a3 : Nat) (a4 : Nat) (a5 : Nat) (a6 : Nat) (a7 : Nat) (a8 : Nat) (a9 : Nat) (a10 : Nat) (r : Nat) (r0 : Nat) (r1 : Nat) (r2 : Nat) (r3 : Nat) (r4 : Nat) (r5 : Nat) (r6 : Nat) (b0 : Nat) (f : Nat → Int32) (sz : Nat) : Met l yX9_river (wB yX9_river cX9_river 2 (some .int)) ({ frames := 4, cells := 0, slots := 0, locals := 87 }) (va_Pc [.ref x] (PRE D k sd ([(x, .inr (9, [.ref a0, .ref a1, .ref a2, .ref a3, .int 0, .ref a4, .ref a5, .ref a6, .ref a7, .ref a8, .ref a9, .ref a10])), (a1, .inr (3, [.ref r, .ref a0, .int 0])), (r, .inr (2, [.int 0, .int 0, .int 0, .int 0, .int 0, .ref r0, .ref r1, .ref r2, .ref r3, .ref r4, .ref r5, .ref r6])), (r1, .inl (k 0, 9, .inl (f))), (a0, .inr (7, [.ref b0, .int 0, .int 0, .int 0, .int 0, .int 0]))]) sz)) (va_Qi (S := Unit) (fun r _ => r = -3) (fun u t => PO D (va_A ([(x, .inr (9, [.ref a0, .ref a1, .ref a2, .ref a3, .int 0, .ref a4, .ref a5, .ref a6, .ref a7, .ref a8, .ref a9, .ref a10])), (a1, .inr (3, [.ref r, .ref a0, .int 0])), (r, .inr (2, [.int 0, .int 0, .int 0, .int 0, .int 0, .ref r0, .ref r1, .ref r2, .ref r3, .ref r4, .ref r5, .ref r6])), (r1, .inl (k 0, 9, .inl (f))), (a0, .inr (7, [.ref b0, .int 0, .int 0, .int 0, .int 0, .int 0]))]) sz) ((fun _ => ([] : va_W)) u) t) (va_A ([(x, .inr (9, [.ref a0, .ref a1, .ref a2, .ref a3, .int 0, .ref a4, .ref a5, .ref a6, .ref a7, .ref a8, .ref a9, .ref a10])), (a1, .inr (3, [.ref r, .ref a0, .int 0])), (r, .inr (2, [.int 0, .int 0, .int 0, .int 0, .int 0, .ref r0, .ref r1, .ref r2, .ref r3, .ref r4, .ref r5, .ref r6])), (r1, .inl (k 0, 9, .inl (f))), (a0, .inr (7, [.ref b0, .int 0, .int 0, .int 0, .int 0, .int 0]))]) sz)) 0 0 (va_A ([(x, .inr (9, [.ref a0, .ref a1, .ref a2, .ref a3, .int 0, .ref a4, .ref a5, .ref a6, .ref a7, .ref a8, .ref a9, .ref a10])), (a1, .inr (3, [.ref r, .ref a0, .int 0])), (r, .inr (2, [.int 0, .int 0, .int 0, .int 0, .int 0, .ref r0, .ref r1, .ref r2, .ref r3, .ref r4, .ref r5, .ref r6])), (r1, .inl (k 0, 9, .inl (f))), (a0, .inr (7, [.ref b0, .int 0, .int 0, .int 0, .int 0, .int 0]))]) sz) := by
  refine Met.ofW (cc := cX9_river) (maxL := 2) (ret := (some .int)) (by decide) rfl ?_
  intro p e s m args below meth c s₁ B hml hv
  obtain ⟨rfl, hsz, hP, hK, hD0, hE, hX⟩ := hv
  have hx := B.exec
  have hb := B.bytes
  have hr := B.returns
  have hw : ∀ w ∈ wsB, w.before _ s = true := fun w h => atoms_spec (ws := wB yX9_river cX9_river 2 (some .int)) B.pre w (List.mem_cons_of_mem _ h)
  have hown : s.vm.findClass RX9 = some m.cls := findClass_of_methodNamed B.named
  have hlocks := B.notSynchronized
  subst hsz
  have hD := hD0.self (sz := s.heap.size)
  generalize hAe : va_A ([(x, .inr (9, [.ref a0, .ref a1, .ref a2, .ref a3, .int 0, .ref a4, .ref a5, .ref a6, .ref a7, .ref a8, .ref a9, .ref a10])), (a1, .inr (3, [.ref r, .ref a0, .int 0])), (r, .inr (2, [.int 0, .int 0, .int 0, .int 0, .int 0, .ref r0, .ref r1, .ref r2, .ref r3, .ref r4, .ref r5, .ref r6])), (r1, .inl (k 0, 9, .inl (f))), (a0, .inr (7, [.ref b0, .int 0, .int 0, .int 0, .int 0, .int 0]))]) s.heap.size = A at hD hX ⊢
  have hA : ∀ q : Nat, s.heap.size ≤ q → A q := fun q h => by rw [← hAe]; exact Or.inr h
  have hS : va_S A s.heap s.heap [] := va_S.rf
  have hl := lv_entry ([.ref x]) (n := 2) (Nat.le_of_ble_eq_true rfl)
  rw [lg_entry_eq]
  generalize (lg_sl ([.ref x]) ++ List.replicate (2 - (lg_sl ([.ref x])).length) Slot.unset).toArray = ls at hl ⊢
  have hl : lv_has ls 2 [(0, .ref x)] := hl
  refine lv_aload_n hx hb dX9_river_0 rfl (lv_at hl 0 rfl) ?_
  refine va_get (D := D) (ci := 9) (v := .ref a1) (C := RX9) (T := TX9) (N := 12) hx hb hw inlX9 hown hK hP 0 rfl rfl 1 (by decide) (hw _ wd_420) (fun _ h9 => h9) rfl dX9_river_1 ?_
  refine x_i (wr := [(x, .inr (9, [.ref a0, .ref a1, .ref a2, .ref a3, .int 0, .ref a4, .ref a5, .ref a6, .ref a7, .ref a8, .ref a9, .ref a10]))]) (va_runV (As := []) (rest := []) ⟨hx, hb, hml, hown, hw⟩ (kX3_reads l D k sd a1 r a0 r0 r1 r2 r3 r4 r5 r6 b0 (f) s.heap.size) (cwV 0 hw (gV wd_472 wd_473 wd_474 wd_3 wd_475) rfl rfl rfl (by decide +kernel) ⟨Nat.le_of_ble_eq_true rfl, Nat.le_of_ble_eq_true rfl⟩) (pre_V (ci := 3) (r := (RX3, TX3, 3)) hK hE hX hP hD hS hA [1, 2, 3, 4] (by decide) rfl rfl (q0 := 1) rfl) rfl rfl hl.1 rfl (lv_room (Nat.le_of_ble_eq_true rfl)) dX9_river_4 ⟨Nat.le_of_ble_eq_true rfl, Nat.le_of_ble_eq_true rfl⟩) hP hD hS hA [1, 2, 3, 4] [0] rfl rfl (by decide) (by decide) (fun r_3 u_1 H locs hp_2 hP hD hS => ?_)
  subst hp_2
  have hP : va_P D vwCl ([(x, .inr (9, [.ref a0, .ref a1, .ref a2, .ref a3, .int 0, .ref a4, .ref a5, .ref a6, .ref a7, .ref a8, .ref a9, .ref a10])), (a0, .inr (7, [.ref b0, .int 0, .int 0, .int 0, .int (-1), .int 1]))]) H := hP
  have hD : va_D A ([(x, .inr (9, [.ref a0, .ref a1, .ref a2, .ref a3, .int 0, .ref a4, .ref a5, .ref a6, .ref a7, .ref a8, .ref a9, .ref a10])), (a0, .inr (7, [.ref b0, .int 0, .int 0, .int 0, .int (-1), .int 1]))]) := hD
  refine lv_istore_n (lv' := [(1, .int 0), (0, .ref x)]) hx hb dX9_river_7 rfl hl (by decide) rfl (fun ls hl => ?_)
  refine lv_aload_n hx hb dX9_river_8 rfl (lv_at hl 1 rfl) ?_
  refine va_get (D := D) (ci := 9) (v := .ref a0) (C := RX9) (T := TX9) (N := 12) hx hb hw inlX9 hown hK hP 0 rfl rfl 0 (by decide) (hw _ wd_419) (fun _ h9 => h9) rfl dX9_river_9 ?_
  refine lv_iconst (v := 0) hx hb dX9_river_12 (by decide) ?_
  refine va_put (D := D) (ci := 7) (v := .int 0) (ty := .int) (C := RX7) (T := TX7) (N := 6) hx hb hw inlX7 tyX7 tyX7_ok nmX7 hown hK hP hD hS 1 rfl rfl 1 (by decide) (hw _ wd_35) (fun _ h9 => h9) rfl (by decide +kernel) rfl rfl (Nat.le_of_ble_eq_true rfl) dX9_river_13 (fun H locs hP hD hS => ?_)
  have hP : va_P D vwCl ([(x, .inr (9, [.ref a0, .ref a1, .ref a2, .ref a3, .int 0, .ref a4, .ref a5, .ref a6, .ref a7, .ref a8, .ref a9, .ref a10])), (a0, .inr (7, [.ref b0, .int 0, .int 0, .int 0, .int (-1), .int 1]))]) H := hP
  have hD : va_D A ([(x, .inr (9, [.ref a0, .ref a1, .ref a2, .ref a3, .int 0, .ref a4, .ref a5, .ref a6, .ref a7, .ref a8, .ref a9, .ref a10])), (a0, .inr (7, [.ref b0, .int 0, .int 0, .int 0, .int (-1), .int 1]))]) := hD
  refine lv_iload_n hx hb dX9_river_16 rfl (lv_at hl 0 rfl) ?_
  refine lv_if_ne (tgt := 31) hx hb dX9_river_17 (by decide) (fun h => absurd (by decide) h) (fun _ => ?_)
  refine lv_bipush (v := (-2)) hx hb dX9_river_20 (by decide) ?_
  refine lv_aload_n hx hb dX9_river_22 rfl (lv_at hl 1 rfl) ?_
  refine va_get (D := D) (ci := 9) (v := .ref a0) (C := RX9) (T := TX9) (N := 12) hx hb hw inlX9 hown hK hP 0 rfl rfl 0 (by decide) (hw _ wd_419) (fun _ h9 => h9) rfl dX9_river_23 ?_
  refine va_get (D := D) (ci := 7) (v := .int 1) (C := RX7) (T := TX7) (N := 6) hx hb hw inlX7 hown hK hP 1 rfl rfl 5 (by decide) (hw _ wd_43) (fun _ h9 => h9) rfl dX9_river_26 ?_
  refine lv_isub hx hb dX9_river_29 ?_
  refine x_top (v := (-3)) (by decide) ?_
  refine W.widen (k := 0) (n := 0) (Nat.le_of_ble_eq_true rfl) (Nat.le_of_ble_eq_true rfl) ?_
  have hP9 : va_P D vwCl ((fun _ => ([] : va_W)) ()) H := hP.sub [] rfl
  have hD9 : va_D A ((fun _ => ([] : va_W)) ()) := hD.sub [] (by decide) rfl
  exact W.iret (v := (-3)) hx hb hr (fun t ht hW => ⟨⟨(-3), (), rfl, rfl, by rw [ht]; exact hP9, hD9⟩, hS.F ht⟩) hS.2.2 dX9_river_30

set_option maxHeartbeats 4000000 in
set_option maxRecDepth 100000 in
theorem kX4_clear (l : Launch) (D : va_G) (k : Nat → ClassId) (sd : Nat → Nat) (g : Nat) (g0 : Nat) (g1 : Nat) (sz : Nat) : Met l yX4_clear (wB yX4_clear cX4_clear 1 none) ({ frames := 0, cells := 0, slots := 0, locals := 0 }) (va_Pc [.ref g] (PRE D k sd ([(g, .inr (4, [.ref g0, .int 0, .int 0, .int 0, .ref g1, .long 0]))]) sz)) (va_Qv (S := Unit) (fun _ => True) (fun u t => PO D (va_A ([(g, .inr (4, [.ref g0, .int 0, .int 0, .int 0, .ref g1, .long 0]))]) sz) ((fun _ => ([] : va_W)) u) t) (va_A ([(g, .inr (4, [.ref g0, .int 0, .int 0, .int 0, .ref g1, .long 0]))]) sz)) 0 0 (va_A ([(g, .inr (4, [.ref g0, .int 0, .int 0, .int 0, .ref g1, .long 0]))]) sz) := by
  refine Met.ofW (cc := cX4_clear) (maxL := 1) (ret := none) (by decide) rfl ?_
  intro p e s m args below meth c s₁ B hml hv
  obtain ⟨rfl, hsz, hP, hK, hD0, hE, hX⟩ := hv
  have hx := B.exec
  have hb := B.bytes
  have hr := B.returns
  have hw : ∀ w ∈ wsB, w.before _ s = true := fun w h => atoms_spec (ws := wB yX4_clear cX4_clear 1 none) B.pre w (List.mem_cons_of_mem _ h)
  have hown : s.vm.findClass RX4 = some m.cls := findClass_of_methodNamed B.named
  have hlocks := B.notSynchronized
  subst hsz
  have hD := hD0.self (sz := s.heap.size)
  generalize hAe : va_A ([(g, .inr (4, [.ref g0, .int 0, .int 0, .int 0, .ref g1, .long 0]))]) s.heap.size = A at hD hX ⊢
  have hA : ∀ q : Nat, s.heap.size ≤ q → A q := fun q h => by rw [← hAe]; exact Or.inr h
  have hS : va_S A s.heap s.heap [] := va_S.rf
  have hl := lv_entry ([.ref g]) (n := 1) (Nat.le_of_ble_eq_true rfl)
  rw [lg_entry_eq]
  generalize (lg_sl ([.ref g]) ++ List.replicate (1 - (lg_sl ([.ref g])).length) Slot.unset).toArray = ls at hl ⊢
  have hl : lv_has ls 1 [(0, .ref g)] := hl
  refine lv_aload_n hx hb dX4_clear_0 rfl (lv_at hl 0 rfl) ?_
  refine lv_iconst (v := 0) hx hb dX4_clear_1 (by decide) ?_
  refine va_put (D := D) (ci := 4) (v := .int 0) (ty := .int) (C := RX4) (T := TX4) (N := 6) hx hb hw inlX4 tyX4 tyX4_ok nmX4 hown hK hP hD hS 0 rfl rfl 1 (by decide) (hw _ wd_173) (fun _ h9 => h9) rfl (by decide +kernel) rfl rfl (Nat.le_of_ble_eq_true rfl) dX4_clear_2 (fun H locs hP hD hS => ?_)
  have hP : va_P D vwCl ([(g, .inr (4, [.ref g0, .int 0, .int 0, .int 0, .ref g1, .long 0]))]) H := hP
  have hD : va_D A ([(g, .inr (4, [.ref g0, .int 0, .int 0, .int 0, .ref g1, .long 0]))]) := hD
  refine lv_aload_n hx hb dX4_clear_5 rfl (lv_at hl 0 rfl) ?_
  refine lv_iconst (v := 0) hx hb dX4_clear_6 (by decide) ?_
  refine va_put (D := D) (ci := 4) (v := .int 0) (ty := .int) (C := RX4) (T := TX4) (N := 6) hx hb hw inlX4 tyX4 tyX4_ok nmX4 hown hK hP hD hS 0 rfl rfl 2 (by decide) (hw _ wd_174) (fun _ h9 => h9) rfl (by decide +kernel) rfl rfl (Nat.le_of_ble_eq_true rfl) dX4_clear_7 (fun H locs hP hD hS => ?_)
  have hP : va_P D vwCl ([(g, .inr (4, [.ref g0, .int 0, .int 0, .int 0, .ref g1, .long 0]))]) H := hP
  have hD : va_D A ([(g, .inr (4, [.ref g0, .int 0, .int 0, .int 0, .ref g1, .long 0]))]) := hD
  refine lv_aload_n hx hb dX4_clear_10 rfl (lv_at hl 0 rfl) ?_
  refine lv_iconst (v := 0) hx hb dX4_clear_11 (by decide) ?_
  refine va_put (D := D) (ci := 4) (v := .int 0) (ty := .int) (C := RX4) (T := TX4) (N := 6) hx hb hw inlX4 tyX4 tyX4_ok nmX4 hown hK hP hD hS 0 rfl rfl 3 (by decide) (hw _ wd_175) (fun _ h9 => h9) rfl (by decide +kernel) rfl rfl (Nat.le_of_ble_eq_true rfl) dX4_clear_12 (fun H locs hP hD hS => ?_)
  have hP : va_P D vwCl ([(g, .inr (4, [.ref g0, .int 0, .int 0, .int 0, .ref g1, .long 0]))]) H := hP
  have hD : va_D A ([(g, .inr (4, [.ref g0, .int 0, .int 0, .int 0, .ref g1, .long 0]))]) := hD
  refine W.widen (k := 0) (n := 0) (Nat.le_of_ble_eq_true rfl) (Nat.le_of_ble_eq_true rfl) ?_
  have hP9 : va_P D vwCl ((fun _ => ([] : va_W)) ()) H := hP.sub [] rfl
  have hD9 : va_D A ((fun _ => ([] : va_W)) ()) := hD.sub [] (by decide) rfl
  exact W.vret hx hb hr (fun t ht hW => ⟨⟨(), rfl, trivial, by rw [ht]; exact hP9, hD9⟩, hS.F ht⟩) hS.2.2 dX4_clear_15

set_option maxHeartbeats 4000000 in
set_option maxRecDepth 100000 in
theorem kX5_reads (l : Launch) (D : va_G) (k : Nat → ClassId) (sd : Nat → Nat) (h : Nat) (tp : Nat) (g : Nat) (g0 : Nat) (g1 : Nat) (b0 : Nat) (sz : Nat) : Met l yX5_reads (wB yX5_reads cX5_reads 7 (some .boolean)) ({ frames := 3, cells := 0, slots := 0, locals := 65 }) (va_Pc [.ref h, .ref g] (PRE D k sd ([(h, .inr (5, [.ref tp, .int 0])), (g, .inr (4, [.ref g0, .int 0, .int 0, .int 0, .ref g1, .long 0])), (tp, .inr (7, [.ref b0, .int 0, .int 0, .int 0, .int 0, .int 0]))]) sz)) (va_Qi (S := Unit) (fun r _ => r = 0) (fun u t => PO D (va_A ([(h, .inr (5, [.ref tp, .int 0])), (g, .inr (4, [.ref g0, .int 0, .int 0, .int 0, .ref g1, .long 0])), (tp, .inr (7, [.ref b0, .int 0, .int 0, .int 0, .int 0, .int 0]))]) sz) ((fun _ => [(tp, .inr (7, [.ref b0, .int 0, .int 0, .int 0, .int (-1), .int 1]))]) u) t) (va_A ([(h, .inr (5, [.ref tp, .int 0])), (g, .inr (4, [.ref g0, .int 0, .int 0, .int 0, .ref g1, .long 0])), (tp, .inr (7, [.ref b0, .int 0, .int 0, .int 0, .int 0, .int 0]))]) sz)) 0 0 (va_A ([(h, .inr (5, [.ref tp, .int 0])), (g, .inr (4, [.ref g0, .int 0, .int 0, .int 0, .ref g1, .long 0])), (tp, .inr (7, [.ref b0, .int 0, .int 0, .int 0, .int 0, .int 0]))]) sz) := by
  refine Met.ofW (cc := cX5_reads) (maxL := 7) (ret := (some .boolean)) (by decide) rfl ?_
  intro p e s m args below meth c s₁ B hml hv
  obtain ⟨rfl, hsz, hP, hK, hD0, hE, hX⟩ := hv
  have hx := B.exec
  have hb := B.bytes
  have hr := B.returns
  have hw : ∀ w ∈ wsB, w.before _ s = true := fun w h => atoms_spec (ws := wB yX5_reads cX5_reads 7 (some .boolean)) B.pre w (List.mem_cons_of_mem _ h)
  have hown : s.vm.findClass RX5 = some m.cls := findClass_of_methodNamed B.named
  have hlocks := B.notSynchronized
  subst hsz
  have hD := hD0.self (sz := s.heap.size)
  generalize hAe : va_A ([(h, .inr (5, [.ref tp, .int 0])), (g, .inr (4, [.ref g0, .int 0, .int 0, .int 0, .ref g1, .long 0])), (tp, .inr (7, [.ref b0, .int 0, .int 0, .int 0, .int 0, .int 0]))]) s.heap.size = A at hD hX ⊢
  have hA : ∀ q : Nat, s.heap.size ≤ q → A q := fun q h => by rw [← hAe]; exact Or.inr h
  have hS : va_S A s.heap s.heap [] := va_S.rf
  have hl := lv_entry ([.ref h, .ref g]) (n := 7) (Nat.le_of_ble_eq_true rfl)
  rw [lg_entry_eq]
  generalize (lg_sl ([.ref h, .ref g]) ++ List.replicate (7 - (lg_sl ([.ref h, .ref g])).length) Slot.unset).toArray = ls at hl ⊢
  have hl : lv_has ls 7 [(0, .ref h), (1, .ref g)] := hl
  refine lv_aload_n hx hb dX5_reads_0 rfl (lv_at hl 1 rfl) ?_
  refine x_v (wr := [(h, .inr (5, [.ref tp, .int 0])), (tp, .inr (7, [.ref b0, .int 0, .int 0, .int 0, .int 0, .int 0]))]) (va_runV (As := []) (rest := []) ⟨hx, hb, hml, hown, hw⟩ (kX4_clear l D k sd g g0 g1 s.heap.size) (cwV 0 hw (gV wd_607 wd_608 wd_609 wd_6 wd_610) rfl rfl rfl (by decide +kernel) ⟨Nat.le_of_ble_eq_true rfl, Nat.le_of_ble_eq_true rfl⟩) (pre_V (ci := 4) (r := (RX4, TX4, 6)) hK hE hX hP hD hS hA [1] (by decide) rfl rfl (q0 := 1) rfl) rfl rfl hl.1 rfl (lv_room (Nat.le_of_ble_eq_true rfl)) dX5_reads_1 ⟨Nat.le_of_ble_eq_true rfl, Nat.le_of_ble_eq_true rfl⟩) hP hD hS hA [1] [0, 2] rfl rfl (by decide) (by decide) (fun u_1 H locs hp_2 hP hD hS => ?_)
  have hP : va_P D vwCl ([(h, .inr (5, [.ref tp, .int 0])), (tp, .inr (7, [.ref b0, .int 0, .int 0, .int 0, .int 0, .int 0]))]) H := hP
  have hD : va_D A ([(h, .inr (5, [.ref tp, .int 0])), (tp, .inr (7, [.ref b0, .int 0, .int 0, .int 0, .int 0, .int 0]))]) := hD
  refine lv_aload_n hx hb dX5_reads_4 rfl (lv_at hl 0 rfl) ?_
  refine lv_iconst (v := 0) hx hb dX5_reads_5 (by decide) ?_
  refine va_put (D := D) (ci := 5) (v := .int 0) (ty := .int) (C := RX5) (T := TX5) (N := 2) hx hb hw inlX5 tyX5 tyX5_ok nmX5 hown hK hP hD hS 0 rfl rfl 1 (by decide) (hw _ wd_159) (fun _ h9 => h9) rfl (by decide +kernel) rfl rfl (Nat.le_of_ble_eq_true rfl) dX5_reads_6 (fun H locs hP hD hS => ?_)
  have hP : va_P D vwCl ([(h, .inr (5, [.ref tp, .int 0])), (tp, .inr (7, [.ref b0, .int 0, .int 0, .int 0, .int 0, .int 0]))]) H := hP
  have hD : va_D A ([(h, .inr (5, [.ref tp, .int 0])), (tp, .inr (7, [.ref b0, .int 0, .int 0, .int 0, .int 0, .int 0]))]) := hD
  refine lv_aload_n hx hb dX5_reads_9 rfl (lv_at hl 0 rfl) ?_
  refine va_get (D := D) (ci := 5) (v := .ref tp) (C := RX5) (T := TX5) (N := 2) hx hb hw inlX5 hown hK hP 0 rfl rfl 0 (by decide) (hw _ wd_158) (fun _ h9 => h9) rfl dX5_reads_10 ?_
  refine x_v (wr := [(h, .inr (5, [.ref tp, .int 0]))]) (va_runV (As := []) (rest := []) ⟨hx, hb, hml, hown, hw⟩ (kX7_rewind l D k sd tp b0 H.size) (cwV 0 hw (gV wd_611 wd_484 wd_485 wd_2 wd_486) rfl rfl rfl (by decide +kernel) ⟨Nat.le_of_ble_eq_true rfl, Nat.le_of_ble_eq_true rfl⟩) (pre_V (ci := 7) (r := (RX7, TX7, 6)) hK hE hX hP hD hS hA [1] (by decide) rfl rfl (q0 := 1) rfl) rfl rfl hl.1 rfl (lv_room (Nat.le_of_ble_eq_true rfl)) dX5_reads_13 ⟨Nat.le_of_ble_eq_true rfl, Nat.le_of_ble_eq_true rfl⟩) hP hD hS hA [1] [0] rfl rfl (by decide) (by decide) (fun u_4 H locs hp_5 hP hD hS => ?_)
  have hP : va_P D vwCl ([(h, .inr (5, [.ref tp, .int 0])), (tp, .inr (7, [.ref b0, .int 0, .int 0, .int 0, .int (-1), .int 0]))]) H := hP
  have hD : va_D A ([(h, .inr (5, [.ref tp, .int 0])), (tp, .inr (7, [.ref b0, .int 0, .int 0, .int 0, .int (-1), .int 0]))]) := hD
  refine lv_iconst (v := 0) hx hb dX5_reads_16 (by decide) ?_
  refine lv_istore_n (lv' := [(2, .int 0), (0, .ref h), (1, .ref g)]) hx hb dX5_reads_17 rfl hl (by decide) rfl (fun ls hl => ?_)
  refine lv_iload_n hx hb dX5_reads_18 rfl (lv_at hl 0 rfl) ?_
  refine lv_bipush (v := 12) hx hb dX5_reads_19 (by decide) ?_
  refine lv_icmp_gt (tgt := 228) hx hb dX5_reads_21 (by decide) (fun h => absurd h (by decide)) (fun _ => ?_)
  refine lv_aload_n hx hb dX5_reads_24 rfl (lv_at hl 1 rfl) ?_
  refine va_get (D := D) (ci := 5) (v := .ref tp) (C := RX5) (T := TX5) (N := 2) hx hb hw inlX5 hown hK hP 0 rfl rfl 0 (by decide) (hw _ wd_158) (fun _ h9 => h9) rfl dX5_reads_25 ?_
  refine va_ldcS hx hb hown (hX.2 1 _ rfl).1 dX5_reads_28 ?_
  refine x_i (wr := [(h, .inr (5, [.ref tp, .int 0]))]) (va_runV (As := [.ref (sd (2 * 1))]) (rest := []) ⟨hx, hb, hml, hown, hw⟩ (kX7_wordIn_1 l D k sd tp b0 H.size) (cwV 1 hw (gV wd_613 wd_493 wd_494 wd_2 wd_495) rfl rfl rfl (by decide +kernel) ⟨Nat.le_of_ble_eq_true rfl, Nat.le_of_ble_eq_true rfl⟩) (pre_V (ci := 7) (r := (RX7, TX7, 6)) hK hE hX hP hD hS hA [1] (by decide) rfl rfl (q0 := 1) rfl) rfl rfl hl.1 rfl (lv_room (Nat.le_of_ble_eq_true rfl)) dX5_reads_30 ⟨Nat.le_of_ble_eq_true rfl, Nat.le_of_ble_eq_true rfl⟩) hP hD hS hA [1] [0] rfl rfl (by decide) (by decide) (fun r_9 u_7 H locs hp_8 hP hD hS => ?_)
  subst hp_8
  have hP : va_P D vwCl ([(h, .inr (5, [.ref tp, .int 0])), (tp, .inr (7, [.ref b0, .int 0, .int 0, .int 0, .int (-1), .int 0]))]) H := hP
  have hD : va_D A ([(h, .inr (5, [.ref tp, .int 0])), (tp, .inr (7, [.ref b0, .int 0, .int 0, .int 0, .int (-1), .int 0]))]) := hD
  refine lv_istore_n (lv' := [(3, .int (-1)), (2, .int 0), (0, .ref h), (1, .ref g)]) hx hb dX5_reads_33 rfl hl (by decide) rfl (fun ls hl => ?_)
  refine lv_iload_n hx hb dX5_reads_34 rfl (lv_at hl 0 rfl) ?_
  refine lv_iconst (v := (-1)) hx hb dX5_reads_35 (by decide) ?_
  refine lv_icmp_ne (tgt := 48) hx hb dX5_reads_36 (by decide) (fun h => absurd (by decide) h) (fun _ => ?_)
  refine lv_aload_n hx hb dX5_reads_39 rfl (lv_at hl 2 rfl) ?_
  refine va_get (D := D) (ci := 5) (v := .ref tp) (C := RX5) (T := TX5) (N := 2) hx hb hw inlX5 hown hK hP 0 rfl rfl 0 (by decide) (hw _ wd_158) (fun _ h9 => h9) rfl dX5_reads_40 ?_
  refine lv_iconst (v := 0) hx hb dX5_reads_43 (by decide) ?_
  refine x_i (wr := [(h, .inr (5, [.ref tp, .int 0]))]) (va_runV (As := [.int 0]) (rest := []) ⟨hx, hb, hml, hown, hw⟩ (kX7_fails l D k sd tp b0 H.size) (cwV 1 hw (gV wd_614 wd_545 wd_546 wd_2 wd_547) rfl rfl rfl (by decide +kernel) ⟨Nat.le_of_ble_eq_true rfl, Nat.le_of_ble_eq_true rfl⟩) (pre_V (ci := 7) (r := (RX7, TX7, 6)) hK hE hX hP hD hS hA [1] (by decide) rfl rfl (q0 := 1) rfl) rfl rfl hl.1 rfl (lv_room (Nat.le_of_ble_eq_true rfl)) dX5_reads_44 ⟨Nat.le_of_ble_eq_true rfl, Nat.le_of_ble_eq_true rfl⟩) hP hD hS hA [1] [0] rfl rfl (by decide) (by decide) (fun r_12 u_10 H locs hp_11 hP hD hS => ?_)
  subst hp_11
  have hP : va_P D vwCl ([(h, .inr (5, [.ref tp, .int 0])), (tp, .inr (7, [.ref b0, .int 0, .int 0, .int 0, .int (-1), .int 1]))]) H := hP
  have hD : va_D A ([(h, .inr (5, [.ref tp, .int 0])), (tp, .inr (7, [.ref b0, .int 0, .int 0, .int 0, .int (-1), .int 1]))]) := hD
  refine W.widen (k := 0) (n := 0) (Nat.le_of_ble_eq_true rfl) (Nat.le_of_ble_eq_true rfl) ?_
  have hP9 : va_P D vwCl ((fun _ => [(tp, .inr (7, [.ref b0, .int 0, .int 0, .int 0, .int (-1), .int 1]))]) ()) H := hP.sub [1] rfl
  have hD9 : va_D A ((fun _ => [(tp, .inr (7, [.ref b0, .int 0, .int 0, .int 0, .int (-1), .int 1]))]) ()) := hD.sub [1] (by decide) rfl
  exact W.zret (v := 0) (ty := .boolean) hx hb hr rfl (fun t ht hW => ⟨⟨0, (), rfl, rfl, by rw [ht]; exact hP9, hD9⟩, hS.F ht⟩) hS.2.2 dX5_reads_47

set_option maxHeartbeats 4000000 in
set_option maxRecDepth 100000 in
theorem kX9_rule (l : Launch) (D : va_G) (k : Nat → ClassId) (sd : Nat → Nat) (x : Nat) (a0 : Nat) (a1 : Nat) (a2 : Nat) (a3 : Nat) (a4 : Nat) (a5 : Nat) (a6 : Nat) (a7 : Nat) (a8 : Nat) (a9 : Nat) (a10 : Nat) (e0 : Nat) (e1 : Nat) (e2 : Nat) (e3 : Nat) (e4 : Nat) (e5 : Nat) (g0 : Nat) (g1 : Nat) (b0 : Nat) (sz : Nat) : Met l yX9_rule (wB yX9_rule cX9_rule 2 (some .int)) ({ frames := 4, cells := 0, slots := 0, locals := 91 }) (va_Pc [.ref x] (PRE D k sd ([(x, .inr (9, [.ref a0, .ref a1, .ref a2, .ref a3, .int 0, .ref a4, .ref a5, .ref a6, .ref a7, .ref a8, .ref a9, .ref a10])), (a2, .inr (5, [.ref a0, .int 0])), (a3, .inl (k 3, 6, .inr (.inr (.inr (.inr (va_up (va_up (va_up (va_up (va_up (va_up (fun _ => none) 0 (some (e0))) 1 (some (e1))) 2 (some (e2))) 3 (some (e3))) 4 (some (e4))) 5 (some (e5)))))))), (e0, .inr (4, [.ref g0, .int 0, .int 0, .int 0, .ref g1, .long 0])), (a0, .inr (7, [.ref b0, .int 0, .int 0, .int 0, .int 0, .int 0]))]) sz)) (va_Qi (S := Unit) (fun r _ => r = -3) (fun u t => PO D (va_A ([(x, .inr (9, [.ref a0, .ref a1, .ref a2, .ref a3, .int 0, .ref a4, .ref a5, .ref a6, .ref a7, .ref a8, .ref a9, .ref a10])), (a2, .inr (5, [.ref a0, .int 0])), (a3, .inl (k 3, 6, .inr (.inr (.inr (.inr (va_up (va_up (va_up (va_up (va_up (va_up (fun _ => none) 0 (some (e0))) 1 (some (e1))) 2 (some (e2))) 3 (some (e3))) 4 (some (e4))) 5 (some (e5)))))))), (e0, .inr (4, [.ref g0, .int 0, .int 0, .int 0, .ref g1, .long 0])), (a0, .inr (7, [.ref b0, .int 0, .int 0, .int 0, .int 0, .int 0]))]) sz) ((fun _ => ([] : va_W)) u) t) (va_A ([(x, .inr (9, [.ref a0, .ref a1, .ref a2, .ref a3, .int 0, .ref a4, .ref a5, .ref a6, .ref a7, .ref a8, .ref a9, .ref a10])), (a2, .inr (5, [.ref a0, .int 0])), (a3, .inl (k 3, 6, .inr (.inr (.inr (.inr (va_up (va_up (va_up (va_up (va_up (va_up (fun _ => none) 0 (some (e0))) 1 (some (e1))) 2 (some (e2))) 3 (some (e3))) 4 (some (e4))) 5 (some (e5)))))))), (e0, .inr (4, [.ref g0, .int 0, .int 0, .int 0, .ref g1, .long 0])), (a0, .inr (7, [.ref b0, .int 0, .int 0, .int 0, .int 0, .int 0]))]) sz)) 0 0 (va_A ([(x, .inr (9, [.ref a0, .ref a1, .ref a2, .ref a3, .int 0, .ref a4, .ref a5, .ref a6, .ref a7, .ref a8, .ref a9, .ref a10])), (a2, .inr (5, [.ref a0, .int 0])), (a3, .inl (k 3, 6, .inr (.inr (.inr (.inr (va_up (va_up (va_up (va_up (va_up (va_up (fun _ => none) 0 (some (e0))) 1 (some (e1))) 2 (some (e2))) 3 (some (e3))) 4 (some (e4))) 5 (some (e5)))))))), (e0, .inr (4, [.ref g0, .int 0, .int 0, .int 0, .ref g1, .long 0])), (a0, .inr (7, [.ref b0, .int 0, .int 0, .int 0, .int 0, .int 0]))]) sz) := by
  refine Met.ofW (cc := cX9_rule) (maxL := 2) (ret := (some .int)) (by decide) rfl ?_
  intro p e s m args below meth c s₁ B hml hv
  obtain ⟨rfl, hsz, hP, hK, hD0, hE, hX⟩ := hv
  have hx := B.exec
  have hb := B.bytes
  have hr := B.returns
  have hw : ∀ w ∈ wsB, w.before _ s = true := fun w h => atoms_spec (ws := wB yX9_rule cX9_rule 2 (some .int)) B.pre w (List.mem_cons_of_mem _ h)
  have hown : s.vm.findClass RX9 = some m.cls := findClass_of_methodNamed B.named
  have hlocks := B.notSynchronized
  subst hsz
  have hD := hD0.self (sz := s.heap.size)
  generalize hAe : va_A ([(x, .inr (9, [.ref a0, .ref a1, .ref a2, .ref a3, .int 0, .ref a4, .ref a5, .ref a6, .ref a7, .ref a8, .ref a9, .ref a10])), (a2, .inr (5, [.ref a0, .int 0])), (a3, .inl (k 3, 6, .inr (.inr (.inr (.inr (va_up (va_up (va_up (va_up (va_up (va_up (fun _ => none) 0 (some (e0))) 1 (some (e1))) 2 (some (e2))) 3 (some (e3))) 4 (some (e4))) 5 (some (e5)))))))), (e0, .inr (4, [.ref g0, .int 0, .int 0, .int 0, .ref g1, .long 0])), (a0, .inr (7, [.ref b0, .int 0, .int 0, .int 0, .int 0, .int 0]))]) s.heap.size = A at hD hX ⊢
  have hA : ∀ q : Nat, s.heap.size ≤ q → A q := fun q h => by rw [← hAe]; exact Or.inr h
  have hS : va_S A s.heap s.heap [] := va_S.rf
  have hl := lv_entry ([.ref x]) (n := 2) (Nat.le_of_ble_eq_true rfl)
  rw [lg_entry_eq]
  generalize (lg_sl ([.ref x]) ++ List.replicate (2 - (lg_sl ([.ref x])).length) Slot.unset).toArray = ls at hl ⊢
  have hl : lv_has ls 2 [(0, .ref x)] := hl
  refine lv_aload_n hx hb dX9_rule_0 rfl (lv_at hl 0 rfl) ?_
  refine va_get (D := D) (ci := 9) (v := .int 0) (C := RX9) (T := TX9) (N := 12) hx hb hw inlX9 hown hK hP 0 rfl rfl 4 (by decide) (hw _ wd_423) (fun _ h9 => h9) rfl dX9_rule_1 ?_
  refine lv_bipush (v := 6) hx hb dX9_rule_4 (by decide) ?_
  refine lv_icmp_lt (tgt := 11) hx hb dX9_rule_6 (by decide) (fun _ => ?_) (fun h => absurd (by decide) h)
  refine lv_aload_n hx hb dX9_rule_11 rfl (lv_at hl 0 rfl) ?_
  refine va_get (D := D) (ci := 9) (v := .ref a2) (C := RX9) (T := TX9) (N := 12) hx hb hw inlX9 hown hK hP 0 rfl rfl 2 (by decide) (hw _ wd_421) (fun _ h9 => h9) rfl dX9_rule_12 ?_
  refine lv_aload_n hx hb dX9_rule_15 rfl (lv_at hl 0 rfl) ?_
  refine va_get (D := D) (ci := 9) (v := .ref a3) (C := RX9) (T := TX9) (N := 12) hx hb hw inlX9 hown hK hP 0 rfl rfl 3 (by decide) (hw _ wd_422) (fun _ h9 => h9) rfl dX9_rule_16 ?_
  refine lv_aload_n hx hb dX9_rule_19 rfl (lv_at hl 0 rfl) ?_
  refine va_get (D := D) (ci := 9) (v := .int 0) (C := RX9) (T := TX9) (N := 12) hx hb hw inlX9 hown hK hP 0 rfl rfl 4 (by decide) (hw _ wd_423) (fun _ h9 => h9) rfl dX9_rule_20 ?_
  refine va_aldq (C := "RaftForest$Rule") hx hb hK hP 2 3 rfl rfl (i := 0) (by unfold vp_in; decide) dX9_rule_23 ?_
  refine x_topv (v := .ref e0) rfl ?_
  refine x_i (wr := [(x, .inr (9, [.ref a0, .ref a1, .ref a2, .ref a3, .int 0, .ref a4, .ref a5, .ref a6, .ref a7, .ref a8, .ref a9, .ref a10])), (a3, .inl (k 3, 6, .inr (.inr (.inr (.inr (va_up (va_up (va_up (va_up (va_up (va_up (fun _ => none) 0 (some (e0))) 1 (some (e1))) 2 (some (e2))) 3 (some (e3))) 4 (some (e4))) 5 (some (e5))))))))]) (va_runV (As := [.ref e0]) (rest := []) ⟨hx, hb, hml, hown, hw⟩ (kX5_reads l D k sd a2 a0 e0 g0 g1 b0 s.heap.size) (cwV 1 hw (gV wd_603 wd_604 wd_605 wd_5 wd_606) rfl rfl rfl (by decide +kernel) ⟨Nat.le_of_ble_eq_true rfl, Nat.le_of_ble_eq_true rfl⟩) (pre_V (ci := 5) (r := (RX5, TX5, 2)) hK hE hX hP hD hS hA [1, 3, 4] (by decide) rfl rfl (q0 := 1) rfl) rfl rfl hl.1 rfl (lv_room (Nat.le_of_ble_eq_true rfl)) dX9_rule_24 ⟨Nat.le_of_ble_eq_true rfl, Nat.le_of_ble_eq_true rfl⟩) hP hD hS hA [1, 3, 4] [0, 2] rfl rfl (by decide) (by decide) (fun r_3 u_1 H locs hp_2 hP hD hS => ?_)
  subst hp_2
  have hP : va_P D vwCl ([(x, .inr (9, [.ref a0, .ref a1, .ref a2, .ref a3, .int 0, .ref a4, .ref a5, .ref a6, .ref a7, .ref a8, .ref a9, .ref a10])), (a3, .inl (k 3, 6, .inr (.inr (.inr (.inr (va_up (va_up (va_up (va_up (va_up (va_up (fun _ => none) 0 (some (e0))) 1 (some (e1))) 2 (some (e2))) 3 (some (e3))) 4 (some (e4))) 5 (some (e5)))))))), (a0, .inr (7, [.ref b0, .int 0, .int 0, .int 0, .int (-1), .int 1]))]) H := hP
  have hD : va_D A ([(x, .inr (9, [.ref a0, .ref a1, .ref a2, .ref a3, .int 0, .ref a4, .ref a5, .ref a6, .ref a7, .ref a8, .ref a9, .ref a10])), (a3, .inl (k 3, 6, .inr (.inr (.inr (.inr (va_up (va_up (va_up (va_up (va_up (va_up (fun _ => none) 0 (some (e0))) 1 (some (e1))) 2 (some (e2))) 3 (some (e3))) 4 (some (e4))) 5 (some (e5)))))))), (a0, .inr (7, [.ref b0, .int 0, .int 0, .int 0, .int (-1), .int 1]))]) := hD
  refine lv_istore_n (lv' := [(1, .int 0), (0, .ref x)]) hx hb dX9_rule_27 rfl hl (by decide) rfl (fun ls hl => ?_)
  refine lv_aload_n hx hb dX9_rule_28 rfl (lv_at hl 1 rfl) ?_
  refine va_get (D := D) (ci := 9) (v := .ref a0) (C := RX9) (T := TX9) (N := 12) hx hb hw inlX9 hown hK hP 0 rfl rfl 0 (by decide) (hw _ wd_419) (fun _ h9 => h9) rfl dX9_rule_29 ?_
  refine lv_iconst (v := 0) hx hb dX9_rule_32 (by decide) ?_
  refine va_put (D := D) (ci := 7) (v := .int 0) (ty := .int) (C := RX7) (T := TX7) (N := 6) hx hb hw inlX7 tyX7 tyX7_ok nmX7 hown hK hP hD hS 2 rfl rfl 1 (by decide) (hw _ wd_35) (fun _ h9 => h9) rfl (by decide +kernel) rfl rfl (Nat.le_of_ble_eq_true rfl) dX9_rule_33 (fun H locs hP hD hS => ?_)
  have hP : va_P D vwCl ([(x, .inr (9, [.ref a0, .ref a1, .ref a2, .ref a3, .int 0, .ref a4, .ref a5, .ref a6, .ref a7, .ref a8, .ref a9, .ref a10])), (a3, .inl (k 3, 6, .inr (.inr (.inr (.inr (va_up (va_up (va_up (va_up (va_up (va_up (fun _ => none) 0 (some (e0))) 1 (some (e1))) 2 (some (e2))) 3 (some (e3))) 4 (some (e4))) 5 (some (e5)))))))), (a0, .inr (7, [.ref b0, .int 0, .int 0, .int 0, .int (-1), .int 1]))]) H := hP
  have hD : va_D A ([(x, .inr (9, [.ref a0, .ref a1, .ref a2, .ref a3, .int 0, .ref a4, .ref a5, .ref a6, .ref a7, .ref a8, .ref a9, .ref a10])), (a3, .inl (k 3, 6, .inr (.inr (.inr (.inr (va_up (va_up (va_up (va_up (va_up (va_up (fun _ => none) 0 (some (e0))) 1 (some (e1))) 2 (some (e2))) 3 (some (e3))) 4 (some (e4))) 5 (some (e5)))))))), (a0, .inr (7, [.ref b0, .int 0, .int 0, .int 0, .int (-1), .int 1]))]) := hD
  refine lv_iload_n hx hb dX9_rule_36 rfl (lv_at hl 0 rfl) ?_
  refine lv_if_ne (tgt := 51) hx hb dX9_rule_37 (by decide) (fun h => absurd (by decide) h) (fun _ => ?_)
  refine lv_bipush (v := (-2)) hx hb dX9_rule_40 (by decide) ?_
  refine lv_aload_n hx hb dX9_rule_42 rfl (lv_at hl 1 rfl) ?_
  refine va_get (D := D) (ci := 9) (v := .ref a0) (C := RX9) (T := TX9) (N := 12) hx hb hw inlX9 hown hK hP 0 rfl rfl 0 (by decide) (hw _ wd_419) (fun _ h9 => h9) rfl dX9_rule_43 ?_
  refine va_get (D := D) (ci := 7) (v := .int 1) (C := RX7) (T := TX7) (N := 6) hx hb hw inlX7 hown hK hP 2 rfl rfl 5 (by decide) (hw _ wd_43) (fun _ h9 => h9) rfl dX9_rule_46 ?_
  refine lv_isub hx hb dX9_rule_49 ?_
  refine x_top (v := (-3)) (by decide) ?_
  refine W.widen (k := 0) (n := 0) (Nat.le_of_ble_eq_true rfl) (Nat.le_of_ble_eq_true rfl) ?_
  have hP9 : va_P D vwCl ((fun _ => ([] : va_W)) ()) H := hP.sub [] rfl
  have hD9 : va_D A ((fun _ => ([] : va_W)) ()) := hD.sub [] (by decide) rfl
  exact W.iret (v := (-3)) hx hb hr (fun t ht hW => ⟨⟨(-3), (), rfl, rfl, by rw [ht]; exact hP9, hD9⟩, hS.F ht⟩) hS.2.2 dX9_rule_50
