set_option maxHeartbeats 4000000 in
set_option maxRecDepth 100000 in
theorem kX9_init (l : Launch) (D : va_G) (k : Nat → ClassId) (sd : Nat → Nat) (h0 : Nat) (sz : Nat) : Met l yX9_init (wB yX9_init cX9_init 2 none) ({ frames := 3, cells := 228, slots := 8339, locals := 54 }) (va_Pc [.ref h0] (PRE D k sd ([(h0, .inr (9, [.null, .null, .null, .null, .int 0, .null, .null, .null, .null, .null, .null, .null]))]) sz)) (va_Qv (S := Nat → Nat → Nat) (fun _ => True) (fun u t => PO D (va_A ([(h0, .inr (9, [.null, .null, .null, .null, .int 0, .null, .null, .null, .null, .null, .null, .null]))]) sz) ((fun u => G9 k h0 u) u) t) (va_A ([(h0, .inr (9, [.null, .null, .null, .null, .int 0, .null, .null, .null, .null, .null, .null, .null]))]) sz)) 228 8339 (va_A ([(h0, .inr (9, [.null, .null, .null, .null, .int 0, .null, .null, .null, .null, .null, .null, .null]))]) sz) := by
  refine Met.ofW (cc := cX9_init) (maxL := 2) (ret := none) (by decide) rfl ?_
  intro p e s m args below meth c s₁ B hml hv
  obtain ⟨rfl, hsz, hP, hK, hD0, hE, hX⟩ := hv
  have hx := B.exec
  have hb := B.bytes
  have hr := B.returns
  have hw : ∀ w ∈ wsB, w.before _ s = true := fun w h => atoms_spec (ws := wB yX9_init cX9_init 2 none) B.pre w (List.mem_cons_of_mem _ h)
  have hown : s.vm.findClass RX9 = some m.cls := findClass_of_methodNamed B.named
  have hlocks := B.notSynchronized
  have hin : meth.name = "<init>" := (name_of_methodNamed B.named B.method).1
  subst hsz
  have hD := hD0.self (sz := s.heap.size)
  generalize hAe : va_A ([(h0, .inr (9, [.null, .null, .null, .null, .int 0, .null, .null, .null, .null, .null, .null, .null]))]) s.heap.size = A at hD hX ⊢
  have hA : ∀ q : Nat, s.heap.size ≤ q → A q := fun q h => by rw [← hAe]; exact Or.inr h
  have hS : va_S A s.heap s.heap [] := va_S.rf
  have hl := lv_entry ([.ref h0]) (n := 2) (Nat.le_of_ble_eq_true rfl)
  rw [lg_entry_eq]
  generalize (lg_sl ([.ref h0]) ++ List.replicate (2 - (lg_sl ([.ref h0])).length) Slot.unset).toArray = ls at hl ⊢
  have hl : lv_has ls 2 [(0, .ref h0)] := hl
  refine lv_aload_n hx hb dX9_init_0 rfl (lv_at hl 0 rfl) ?_
  refine W.objInit hx hb hown (hw _ wd_25) (hw _ wd_26) (hw _ wd_27) rfl (by rw [hml]; exact hl.1) rfl dX9_init_1 (Nat.le_of_ble_eq_true rfl) (Nat.le_of_ble_eq_true rfl) ?_
  refine W.eq (g2 := F0 m 4 ls []) rfl ?_
  refine lv_aload_n hx hb dX9_init_4 rfl (lv_at hl 0 rfl) ?_
  refine va_new (ci := 7) (fs := [.null, .int 0, .int 0, .int 0, .int 0, .int 0]) (C := RX7) (T := TX7) (N := 6) hx hb hw inlX7 tyX7 tyX7_ok hown (hw _ wd_28) (hw _ wd_29) (hw _ wd_2) hK hP hD hS hA rfl (fun j hj => by rcases (show j = 0 ∨ j = 1 ∨ j = 2 ∨ j = 3 ∨ j = 4 ∨ j = 5 by omega) with rfl | rfl | rfl | rfl | rfl | rfl <;> rfl) (Nat.le_of_ble_eq_true rfl) (Nat.le_of_ble_eq_true rfl) dX9_init_5 (fun q_1 H hP hD hS => ?_)
  refine W.widen (k := 1) (n := 6) (Nat.le_of_ble_eq_true rfl) (Nat.le_of_ble_eq_true rfl) ?_
  refine lv_dup hx hb dX9_init_8 rfl ?_
  refine x_vL (va_runIN (As := []) (rest := [.ref q_1, .ref h0]) ⟨hx, hb, hml, hown, hw⟩ (kX7_init l D k sd q_1  H.size) ⟨va_cnB 0 hw (gM wd_32) rfl rfl rfl (hE.1 _ (List.mem_of_getElem? (i := 0) rfl)) (hw _ wd_2) (by decide +kernel) ⟨Nat.le_of_ble_eq_true rfl, Nat.le_of_ble_eq_true rfl⟩, rfl, hw _ wd_31⟩ (pre_SL hK hE hX hP hD hS hA) rfl rfl hl.1 rfl (lv_room (Nat.le_of_ble_eq_true rfl)) dX9_init_9 ⟨Nat.le_of_ble_eq_true rfl, Nat.le_of_ble_eq_true rfl⟩) hP hD hS hA (fun u_2 H locs hp_3 hP hD hS => ?_)
  refine W.widen (k := 2) (n := 406) (Nat.le_of_ble_eq_true rfl) (Nat.le_of_ble_eq_true rfl) ?_
  refine va_putF (D := D) (ci := 9) (v := .ref q_1) (ty := .object "RaftForest$Tape") (C := RX9) (T := TX9) (N := 12) hx hb hw inlX9 tyX9 tyX9_ok nmX9 hown hK hP hD hS 0 rfl rfl 0 (by decide) (hw _ wd_419) (fun _ h9 => h9) rfl hin rfl (by decide +kernel) rfl rfl (Nat.le_of_ble_eq_true rfl) dX9_init_12 (fun H locs hP hD hS => ?_)
  refine lv_aload_n hx hb dX9_init_15 rfl (lv_at hl 0 rfl) ?_
  refine va_new (ci := 3) (fs := [.null, .null, .int 0]) (C := RX3) (T := TX3) (N := 3) hx hb hw inlX3 tyX3 tyX3_ok hown (hw _ wd_59) (hw _ wd_60) (hw _ wd_3) hK hP hD hS hA rfl (fun j hj => by rcases (show j = 0 ∨ j = 1 ∨ j = 2 by omega) with rfl | rfl | rfl <;> rfl) (Nat.le_of_ble_eq_true rfl) (Nat.le_of_ble_eq_true rfl) dX9_init_16 (fun q_5 H hP hD hS => ?_)
  refine W.widen (k := 3) (n := 409) (Nat.le_of_ble_eq_true rfl) (Nat.le_of_ble_eq_true rfl) ?_
  refine lv_dup hx hb dX9_init_19 rfl ?_
  refine lv_aload_n hx hb dX9_init_20 rfl (lv_at hl 0 rfl) ?_
  refine va_get (D := D) (ci := 9) (v := .ref q_1) (C := RX9) (T := TX9) (N := 12) hx hb hw inlX9 hown hK hP 0 rfl rfl 0 (by decide) (hw _ wd_419) (fun _ h9 => h9) rfl dX9_init_21 ?_
  refine x_vL (va_runI (As := [.ref q_1]) (rest := [.ref q_5, .ref h0]) ⟨hx, hb, hml, hown, hw⟩ (kX3_init l D k sd q_5 q_1 H.size) (cwI 1 hw (gM wd_63) rfl rfl rfl (hw _ wd_3) (hw _ wd_61) (hw _ wd_62) rfl (by decide +kernel) ⟨Nat.le_of_ble_eq_true rfl, Nat.le_of_ble_eq_true rfl⟩) (pre_SL hK hE hX hP hD hS hA) rfl rfl hl.1 rfl (lv_room (Nat.le_of_ble_eq_true rfl)) dX9_init_24 ⟨Nat.le_of_ble_eq_true rfl, Nat.le_of_ble_eq_true rfl⟩) hP hD hS hA (fun u_6 H locs hp_7 hP hD hS => ?_)
  refine W.widen (k := 11) (n := 488) (Nat.le_of_ble_eq_true rfl) (Nat.le_of_ble_eq_true rfl) ?_
  refine va_putF (D := D) (ci := 9) (v := .ref q_5) (ty := .object "RaftForest$RiverReader") (C := RX9) (T := TX9) (N := 12) hx hb hw inlX9 tyX9 tyX9_ok nmX9 hown hK hP hD hS 0 rfl rfl 1 (by decide) (hw _ wd_420) (fun _ h9 => h9) rfl hin rfl (by decide +kernel) rfl rfl (Nat.le_of_ble_eq_true rfl) dX9_init_27 (fun H locs hP hD hS => ?_)
  refine lv_aload_n hx hb dX9_init_30 rfl (lv_at hl 0 rfl) ?_
  refine va_new (ci := 5) (fs := [.null, .int 0]) (C := RX5) (T := TX5) (N := 2) hx hb hw inlX5 tyX5 tyX5_ok hown (hw _ wd_152) (hw _ wd_153) (hw _ wd_5) hK hP hD hS hA rfl (fun j hj => by rcases (show j = 0 ∨ j = 1 by omega) with rfl | rfl <;> rfl) (Nat.le_of_ble_eq_true rfl) (Nat.le_of_ble_eq_true rfl) dX9_init_31 (fun q_9 H hP hD hS => ?_)
  refine W.widen (k := 12) (n := 490) (Nat.le_of_ble_eq_true rfl) (Nat.le_of_ble_eq_true rfl) ?_
  refine lv_dup hx hb dX9_init_34 rfl ?_
  refine lv_aload_n hx hb dX9_init_35 rfl (lv_at hl 0 rfl) ?_
  refine va_get (D := D) (ci := 9) (v := .ref q_1) (C := RX9) (T := TX9) (N := 12) hx hb hw inlX9 hown hK hP 0 rfl rfl 0 (by decide) (hw _ wd_419) (fun _ h9 => h9) rfl dX9_init_36 ?_
  refine x_vL (va_runI (As := [.ref q_1]) (rest := [.ref q_9, .ref h0]) ⟨hx, hb, hml, hown, hw⟩ (kX5_init l D k sd q_9 q_1 H.size) (cwI 1 hw (gM wd_156) rfl rfl rfl (hw _ wd_5) (hw _ wd_154) (hw _ wd_155) rfl (by decide +kernel) ⟨Nat.le_of_ble_eq_true rfl, Nat.le_of_ble_eq_true rfl⟩) (pre_SL hK hE hX hP hD hS hA) rfl rfl hl.1 rfl (lv_room (Nat.le_of_ble_eq_true rfl)) dX9_init_39 ⟨Nat.le_of_ble_eq_true rfl, Nat.le_of_ble_eq_true rfl⟩) hP hD hS hA (fun u_10 H locs hp_11 hP hD hS => ?_)
  refine va_putF (D := D) (ci := 9) (v := .ref q_9) (ty := .object "RaftForest$RuleReader") (C := RX9) (T := TX9) (N := 12) hx hb hw inlX9 tyX9 tyX9_ok nmX9 hown hK hP hD hS 0 rfl rfl 2 (by decide) (hw _ wd_421) (fun _ h9 => h9) rfl hin rfl (by decide +kernel) rfl rfl (Nat.le_of_ble_eq_true rfl) dX9_init_42 (fun H locs hP hD hS => ?_)
  refine lv_aload_n hx hb dX9_init_45 rfl (lv_at hl 0 rfl) ?_
  refine lv_bipush (v := 6) hx hb dX9_init_46 (by decide) ?_
  refine x_newQ3 (N' := 6) hx hb hown (hw _ wd_165) hE hK hP hD hS hA (by decide) (by decide) (Nat.le_of_ble_eq_true rfl) (Nat.le_of_ble_eq_true rfl) (Nat.le_of_ble_eq_true rfl) dX9_init_48 (fun q_13 H hP hD hS => ?_)
  refine W.widen (k := 13) (n := 496) (Nat.le_of_ble_eq_true rfl) (Nat.le_of_ble_eq_true rfl) ?_
  refine va_putF (D := D) (ci := 9) (v := .ref q_13) (ty := .array (.object "RaftForest$Rule")) (C := RX9) (T := TX9) (N := 12) hx hb hw inlX9 tyX9 tyX9_ok nmX9 hown hK hP hD hS 0 rfl rfl 3 (by decide) (hw _ wd_422) (fun _ h9 => h9) rfl hin rfl (by decide +kernel) rfl rfl (Nat.le_of_ble_eq_true rfl) dX9_init_51 (fun H locs hP hD hS => ?_)
  refine lv_iconst (v := 0) hx hb dX9_init_54 (by decide) ?_
  refine lv_istore_n (lv' := [(1, .int 0), (0, .ref h0)]) hx hb dX9_init_55 rfl hl (by decide) rfl (fun ls hl => ?_)
  refine lv_iload_n hx hb dX9_init_56 rfl (lv_at hl 0 rfl) ?_
  refine lv_bipush (v := 6) hx hb dX9_init_57 (by decide) ?_
  refine lv_icmp_ge (tgt := 81) hx hb dX9_init_59 (by decide) (fun h => absurd h (by decide)) (fun _ => ?_)
  refine lv_aload_n hx hb dX9_init_62 rfl (lv_at hl 1 rfl) ?_
  refine va_get (D := D) (ci := 9) (v := .ref q_13) (C := RX9) (T := TX9) (N := 12) hx hb hw inlX9 hown hK hP 0 rfl rfl 3 (by decide) (hw _ wd_422) (fun _ h9 => h9) rfl dX9_init_63 ?_
  refine lv_iload_n hx hb dX9_init_66 rfl (lv_at hl 0 rfl) ?_
  refine va_new (ci := 4) (fs := [.null, .int 0, .int 0, .int 0, .null, .long 0]) (C := RX4) (T := TX4) (N := 6) hx hb hw inlX4 tyX4 tyX4_ok hown (hw _ wd_165) (hw _ wd_167) (hw _ wd_6) hK hP hD hS hA rfl (fun j hj => by rcases (show j = 0 ∨ j = 1 ∨ j = 2 ∨ j = 3 ∨ j = 4 ∨ j = 5 by omega) with rfl | rfl | rfl | rfl | rfl | rfl <;> rfl) (Nat.le_of_ble_eq_true rfl) (Nat.le_of_ble_eq_true rfl) dX9_init_67 (fun q_14 H hP hD hS => ?_)
  refine W.widen (k := 14) (n := 502) (Nat.le_of_ble_eq_true rfl) (Nat.le_of_ble_eq_true rfl) ?_
  refine lv_dup hx hb dX9_init_70 rfl ?_
  refine x_vL (va_runIN (As := []) (rest := [.ref q_14, .int 0, .ref q_13]) ⟨hx, hb, hml, hown, hw⟩ (kX4_init l D k sd q_14  H.size) ⟨va_cnB 0 hw (gM wd_170) rfl rfl rfl (hE.1 _ (List.mem_of_getElem? (i := 2) rfl)) (hw _ wd_6) (by decide +kernel) ⟨Nat.le_of_ble_eq_true rfl, Nat.le_of_ble_eq_true rfl⟩, rfl, hw _ wd_169⟩ (pre_SL hK hE hX hP hD hS hA) rfl rfl hl.1 rfl (lv_room (Nat.le_of_ble_eq_true rfl)) dX9_init_71 ⟨Nat.le_of_ble_eq_true rfl, Nat.le_of_ble_eq_true rfl⟩) hP hD hS hA (fun u_15 H locs hp_16 hP hD hS => ?_)
  refine W.widen (k := 16) (n := 962) (Nat.le_of_ble_eq_true rfl) (Nat.le_of_ble_eq_true rfl) ?_
  refine va_astq hx hb hK hP hD hS 13 3 14 4 (r := (RX4, TX4, 6)) rfl rfl rfl rfl (i := 0) (by unfold vp_in; decide) dX9_init_74 (fun H locs hP hD hS => ?_)
  refine lv_iinc (v := 1) (lv' := [(1, .int 1), (0, .ref h0)]) hx hb dX9_init_75 hl (k := 0) rfl (by decide) (by decide) rfl (fun ls hl => ?_)
  refine lv_goto (tgt := 56) hx hb dX9_init_78 (by decide) ?_
  refine lv_iload_n hx hb dX9_init_56 rfl (lv_at hl 0 rfl) ?_
  refine lv_bipush (v := 6) hx hb dX9_init_57 (by decide) ?_
  refine lv_icmp_ge (tgt := 81) hx hb dX9_init_59 (by decide) (fun h => absurd h (by decide)) (fun _ => ?_)
  refine lv_aload_n hx hb dX9_init_62 rfl (lv_at hl 1 rfl) ?_
  refine va_get (D := D) (ci := 9) (v := .ref q_13) (C := RX9) (T := TX9) (N := 12) hx hb hw inlX9 hown hK hP 0 rfl rfl 3 (by decide) (hw _ wd_422) (fun _ h9 => h9) rfl dX9_init_63 ?_
  refine lv_iload_n hx hb dX9_init_66 rfl (lv_at hl 0 rfl) ?_
  refine va_new (ci := 4) (fs := [.null, .int 0, .int 0, .int 0, .null, .long 0]) (C := RX4) (T := TX4) (N := 6) hx hb hw inlX4 tyX4 tyX4_ok hown (hw _ wd_165) (hw _ wd_167) (hw _ wd_6) hK hP hD hS hA rfl (fun j hj => by rcases (show j = 0 ∨ j = 1 ∨ j = 2 ∨ j = 3 ∨ j = 4 ∨ j = 5 by omega) with rfl | rfl | rfl | rfl | rfl | rfl <;> rfl) (Nat.le_of_ble_eq_true rfl) (Nat.le_of_ble_eq_true rfl) dX9_init_67 (fun q_18 H hP hD hS => ?_)
  refine W.widen (k := 17) (n := 968) (Nat.le_of_ble_eq_true rfl) (Nat.le_of_ble_eq_true rfl) ?_
  refine lv_dup hx hb dX9_init_70 rfl ?_
  refine x_vL (va_runIN (As := []) (rest := [.ref q_18, .int 1, .ref q_13]) ⟨hx, hb, hml, hown, hw⟩ (kX4_init_o l D k sd q_18  H.size) ⟨va_cnB 0 hw (gM wd_170) rfl rfl rfl (hE.1 _ (List.mem_of_getElem? (i := 2) rfl)) (hw _ wd_6) (by decide +kernel) ⟨Nat.le_of_ble_eq_true rfl, Nat.le_of_ble_eq_true rfl⟩, rfl, hw _ wd_169⟩ (pre_SL hK hE hX hP hD hS hA) rfl rfl hl.1 rfl (lv_room (Nat.le_of_ble_eq_true rfl)) dX9_init_71 ⟨Nat.le_of_ble_eq_true rfl, Nat.le_of_ble_eq_true rfl⟩) hP hD hS hA (fun u_19 H locs hp_20 hP hD hS => ?_)
  refine W.widen (k := 19) (n := 1428) (Nat.le_of_ble_eq_true rfl) (Nat.le_of_ble_eq_true rfl) ?_
  refine va_astq hx hb hK hP hD hS 13 3 17 4 (r := (RX4, TX4, 6)) rfl rfl rfl rfl (i := 1) (by unfold vp_in; decide) dX9_init_74 (fun H locs hP hD hS => ?_)
  refine lv_iinc (v := 2) (lv' := [(1, .int 2), (0, .ref h0)]) hx hb dX9_init_75 hl (k := 0) rfl (by decide) (by decide) rfl (fun ls hl => ?_)
  refine lv_goto (tgt := 56) hx hb dX9_init_78 (by decide) ?_
  refine lv_iload_n hx hb dX9_init_56 rfl (lv_at hl 0 rfl) ?_
  refine lv_bipush (v := 6) hx hb dX9_init_57 (by decide) ?_
  refine lv_icmp_ge (tgt := 81) hx hb dX9_init_59 (by decide) (fun h => absurd h (by decide)) (fun _ => ?_)
  refine lv_aload_n hx hb dX9_init_62 rfl (lv_at hl 1 rfl) ?_
  refine va_get (D := D) (ci := 9) (v := .ref q_13) (C := RX9) (T := TX9) (N := 12) hx hb hw inlX9 hown hK hP 0 rfl rfl 3 (by decide) (hw _ wd_422) (fun _ h9 => h9) rfl dX9_init_63 ?_
  refine lv_iload_n hx hb dX9_init_66 rfl (lv_at hl 0 rfl) ?_
  refine va_new (ci := 4) (fs := [.null, .int 0, .int 0, .int 0, .null, .long 0]) (C := RX4) (T := TX4) (N := 6) hx hb hw inlX4 tyX4 tyX4_ok hown (hw _ wd_165) (hw _ wd_167) (hw _ wd_6) hK hP hD hS hA rfl (fun j hj => by rcases (show j = 0 ∨ j = 1 ∨ j = 2 ∨ j = 3 ∨ j = 4 ∨ j = 5 by omega) with rfl | rfl | rfl | rfl | rfl | rfl <;> rfl) (Nat.le_of_ble_eq_true rfl) (Nat.le_of_ble_eq_true rfl) dX9_init_67 (fun q_22 H hP hD hS => ?_)
  refine W.widen (k := 20) (n := 1434) (Nat.le_of_ble_eq_true rfl) (Nat.le_of_ble_eq_true rfl) ?_
  refine lv_dup hx hb dX9_init_70 rfl ?_
  refine x_vL (va_runIN (As := []) (rest := [.ref q_22, .int 2, .ref q_13]) ⟨hx, hb, hml, hown, hw⟩ (kX4_init_o l D k sd q_22  H.size) ⟨va_cnB 0 hw (gM wd_170) rfl rfl rfl (hE.1 _ (List.mem_of_getElem? (i := 2) rfl)) (hw _ wd_6) (by decide +kernel) ⟨Nat.le_of_ble_eq_true rfl, Nat.le_of_ble_eq_true rfl⟩, rfl, hw _ wd_169⟩ (pre_SL hK hE hX hP hD hS hA) rfl rfl hl.1 rfl (lv_room (Nat.le_of_ble_eq_true rfl)) dX9_init_71 ⟨Nat.le_of_ble_eq_true rfl, Nat.le_of_ble_eq_true rfl⟩) hP hD hS hA (fun u_23 H locs hp_24 hP hD hS => ?_)
  refine W.widen (k := 22) (n := 1894) (Nat.le_of_ble_eq_true rfl) (Nat.le_of_ble_eq_true rfl) ?_
  refine va_astq hx hb hK hP hD hS 13 3 18 4 (r := (RX4, TX4, 6)) rfl rfl rfl rfl (i := 2) (by unfold vp_in; decide) dX9_init_74 (fun H locs hP hD hS => ?_)
  refine lv_iinc (v := 3) (lv' := [(1, .int 3), (0, .ref h0)]) hx hb dX9_init_75 hl (k := 0) rfl (by decide) (by decide) rfl (fun ls hl => ?_)
  refine lv_goto (tgt := 56) hx hb dX9_init_78 (by decide) ?_
  refine lv_iload_n hx hb dX9_init_56 rfl (lv_at hl 0 rfl) ?_
  refine lv_bipush (v := 6) hx hb dX9_init_57 (by decide) ?_
  refine lv_icmp_ge (tgt := 81) hx hb dX9_init_59 (by decide) (fun h => absurd h (by decide)) (fun _ => ?_)
  refine lv_aload_n hx hb dX9_init_62 rfl (lv_at hl 1 rfl) ?_
  refine va_get (D := D) (ci := 9) (v := .ref q_13) (C := RX9) (T := TX9) (N := 12) hx hb hw inlX9 hown hK hP 0 rfl rfl 3 (by decide) (hw _ wd_422) (fun _ h9 => h9) rfl dX9_init_63 ?_
  refine lv_iload_n hx hb dX9_init_66 rfl (lv_at hl 0 rfl) ?_
  refine va_new (ci := 4) (fs := [.null, .int 0, .int 0, .int 0, .null, .long 0]) (C := RX4) (T := TX4) (N := 6) hx hb hw inlX4 tyX4 tyX4_ok hown (hw _ wd_165) (hw _ wd_167) (hw _ wd_6) hK hP hD hS hA rfl (fun j hj => by rcases (show j = 0 ∨ j = 1 ∨ j = 2 ∨ j = 3 ∨ j = 4 ∨ j = 5 by omega) with rfl | rfl | rfl | rfl | rfl | rfl <;> rfl) (Nat.le_of_ble_eq_true rfl) (Nat.le_of_ble_eq_true rfl) dX9_init_67 (fun q_26 H hP hD hS => ?_)
  refine W.widen (k := 23) (n := 1900) (Nat.le_of_ble_eq_true rfl) (Nat.le_of_ble_eq_true rfl) ?_
  refine lv_dup hx hb dX9_init_70 rfl ?_
  refine x_vL (va_runIN (As := []) (rest := [.ref q_26, .int 3, .ref q_13]) ⟨hx, hb, hml, hown, hw⟩ (kX4_init_o l D k sd q_26  H.size) ⟨va_cnB 0 hw (gM wd_170) rfl rfl rfl (hE.1 _ (List.mem_of_getElem? (i := 2) rfl)) (hw _ wd_6) (by decide +kernel) ⟨Nat.le_of_ble_eq_true rfl, Nat.le_of_ble_eq_true rfl⟩, rfl, hw _ wd_169⟩ (pre_SL hK hE hX hP hD hS hA) rfl rfl hl.1 rfl (lv_room (Nat.le_of_ble_eq_true rfl)) dX9_init_71 ⟨Nat.le_of_ble_eq_true rfl, Nat.le_of_ble_eq_true rfl⟩) hP hD hS hA (fun u_27 H locs hp_28 hP hD hS => ?_)
  refine W.widen (k := 25) (n := 2360) (Nat.le_of_ble_eq_true rfl) (Nat.le_of_ble_eq_true rfl) ?_
  refine va_astq hx hb hK hP hD hS 13 3 19 4 (r := (RX4, TX4, 6)) rfl rfl rfl rfl (i := 3) (by unfold vp_in; decide) dX9_init_74 (fun H locs hP hD hS => ?_)
  refine lv_iinc (v := 4) (lv' := [(1, .int 4), (0, .ref h0)]) hx hb dX9_init_75 hl (k := 0) rfl (by decide) (by decide) rfl (fun ls hl => ?_)
  refine lv_goto (tgt := 56) hx hb dX9_init_78 (by decide) ?_
  refine lv_iload_n hx hb dX9_init_56 rfl (lv_at hl 0 rfl) ?_
  refine lv_bipush (v := 6) hx hb dX9_init_57 (by decide) ?_
  refine lv_icmp_ge (tgt := 81) hx hb dX9_init_59 (by decide) (fun h => absurd h (by decide)) (fun _ => ?_)
  refine lv_aload_n hx hb dX9_init_62 rfl (lv_at hl 1 rfl) ?_
  refine va_get (D := D) (ci := 9) (v := .ref q_13) (C := RX9) (T := TX9) (N := 12) hx hb hw inlX9 hown hK hP 0 rfl rfl 3 (by decide) (hw _ wd_422) (fun _ h9 => h9) rfl dX9_init_63 ?_
  refine lv_iload_n hx hb dX9_init_66 rfl (lv_at hl 0 rfl) ?_
  refine va_new (ci := 4) (fs := [.null, .int 0, .int 0, .int 0, .null, .long 0]) (C := RX4) (T := TX4) (N := 6) hx hb hw inlX4 tyX4 tyX4_ok hown (hw _ wd_165) (hw _ wd_167) (hw _ wd_6) hK hP hD hS hA rfl (fun j hj => by rcases (show j = 0 ∨ j = 1 ∨ j = 2 ∨ j = 3 ∨ j = 4 ∨ j = 5 by omega) with rfl | rfl | rfl | rfl | rfl | rfl <;> rfl) (Nat.le_of_ble_eq_true rfl) (Nat.le_of_ble_eq_true rfl) dX9_init_67 (fun q_30 H hP hD hS => ?_)
  refine W.widen (k := 26) (n := 2366) (Nat.le_of_ble_eq_true rfl) (Nat.le_of_ble_eq_true rfl) ?_
  refine lv_dup hx hb dX9_init_70 rfl ?_
  refine x_vL (va_runIN (As := []) (rest := [.ref q_30, .int 4, .ref q_13]) ⟨hx, hb, hml, hown, hw⟩ (kX4_init_o l D k sd q_30  H.size) ⟨va_cnB 0 hw (gM wd_170) rfl rfl rfl (hE.1 _ (List.mem_of_getElem? (i := 2) rfl)) (hw _ wd_6) (by decide +kernel) ⟨Nat.le_of_ble_eq_true rfl, Nat.le_of_ble_eq_true rfl⟩, rfl, hw _ wd_169⟩ (pre_SL hK hE hX hP hD hS hA) rfl rfl hl.1 rfl (lv_room (Nat.le_of_ble_eq_true rfl)) dX9_init_71 ⟨Nat.le_of_ble_eq_true rfl, Nat.le_of_ble_eq_true rfl⟩) hP hD hS hA (fun u_31 H locs hp_32 hP hD hS => ?_)
  refine W.widen (k := 28) (n := 2826) (Nat.le_of_ble_eq_true rfl) (Nat.le_of_ble_eq_true rfl) ?_
  refine va_astq hx hb hK hP hD hS 13 3 20 4 (r := (RX4, TX4, 6)) rfl rfl rfl rfl (i := 4) (by unfold vp_in; decide) dX9_init_74 (fun H locs hP hD hS => ?_)
  refine lv_iinc (v := 5) (lv' := [(1, .int 5), (0, .ref h0)]) hx hb dX9_init_75 hl (k := 0) rfl (by decide) (by decide) rfl (fun ls hl => ?_)
  refine lv_goto (tgt := 56) hx hb dX9_init_78 (by decide) ?_
  refine lv_iload_n hx hb dX9_init_56 rfl (lv_at hl 0 rfl) ?_
  refine lv_bipush (v := 6) hx hb dX9_init_57 (by decide) ?_
  refine lv_icmp_ge (tgt := 81) hx hb dX9_init_59 (by decide) (fun h => absurd h (by decide)) (fun _ => ?_)
  refine lv_aload_n hx hb dX9_init_62 rfl (lv_at hl 1 rfl) ?_
  refine va_get (D := D) (ci := 9) (v := .ref q_13) (C := RX9) (T := TX9) (N := 12) hx hb hw inlX9 hown hK hP 0 rfl rfl 3 (by decide) (hw _ wd_422) (fun _ h9 => h9) rfl dX9_init_63 ?_
  refine lv_iload_n hx hb dX9_init_66 rfl (lv_at hl 0 rfl) ?_
  refine va_new (ci := 4) (fs := [.null, .int 0, .int 0, .int 0, .null, .long 0]) (C := RX4) (T := TX4) (N := 6) hx hb hw inlX4 tyX4 tyX4_ok hown (hw _ wd_165) (hw _ wd_167) (hw _ wd_6) hK hP hD hS hA rfl (fun j hj => by rcases (show j = 0 ∨ j = 1 ∨ j = 2 ∨ j = 3 ∨ j = 4 ∨ j = 5 by omega) with rfl | rfl | rfl | rfl | rfl | rfl <;> rfl) (Nat.le_of_ble_eq_true rfl) (Nat.le_of_ble_eq_true rfl) dX9_init_67 (fun q_34 H hP hD hS => ?_)
  refine W.widen (k := 29) (n := 2832) (Nat.le_of_ble_eq_true rfl) (Nat.le_of_ble_eq_true rfl) ?_
  refine lv_dup hx hb dX9_init_70 rfl ?_
  refine x_vL (va_runIN (As := []) (rest := [.ref q_34, .int 5, .ref q_13]) ⟨hx, hb, hml, hown, hw⟩ (kX4_init_o l D k sd q_34  H.size) ⟨va_cnB 0 hw (gM wd_170) rfl rfl rfl (hE.1 _ (List.mem_of_getElem? (i := 2) rfl)) (hw _ wd_6) (by decide +kernel) ⟨Nat.le_of_ble_eq_true rfl, Nat.le_of_ble_eq_true rfl⟩, rfl, hw _ wd_169⟩ (pre_SL hK hE hX hP hD hS hA) rfl rfl hl.1 rfl (lv_room (Nat.le_of_ble_eq_true rfl)) dX9_init_71 ⟨Nat.le_of_ble_eq_true rfl, Nat.le_of_ble_eq_true rfl⟩) hP hD hS hA (fun u_35 H locs hp_36 hP hD hS => ?_)
  refine W.widen (k := 31) (n := 3292) (Nat.le_of_ble_eq_true rfl) (Nat.le_of_ble_eq_true rfl) ?_
  refine va_astq hx hb hK hP hD hS 13 3 21 4 (r := (RX4, TX4, 6)) rfl rfl rfl rfl (i := 5) (by unfold vp_in; decide) dX9_init_74 (fun H locs hP hD hS => ?_)
  refine lv_iinc (v := 6) (lv' := [(1, .int 6), (0, .ref h0)]) hx hb dX9_init_75 hl (k := 0) rfl (by decide) (by decide) rfl (fun ls hl => ?_)
  refine lv_goto (tgt := 56) hx hb dX9_init_78 (by decide) ?_
  refine lv_iload_n hx hb dX9_init_56 rfl (lv_at hl 0 rfl) ?_
  refine lv_bipush (v := 6) hx hb dX9_init_57 (by decide) ?_
  refine lv_icmp_ge (tgt := 81) hx hb dX9_init_59 (by decide) (fun _ => ?_) (fun h => absurd (by decide) h)
  refine lv_aload_n hx hb dX9_init_81 rfl (lv_at hl 1 rfl) ?_
  refine va_new (ci := 8) (fs := [.null, .null, .null, .null, .null, .null, .null, .null, .int 0]) (C := RX8) (T := TX8) (N := 9) hx hb hw inlX8 tyX8 tyX8_ok hown (hw _ wd_193) (hw _ wd_194) (hw _ wd_7) hK hP hD hS hA rfl (fun j hj => by rcases (show j = 0 ∨ j = 1 ∨ j = 2 ∨ j = 3 ∨ j = 4 ∨ j = 5 ∨ j = 6 ∨ j = 7 ∨ j = 8 by omega) with rfl | rfl | rfl | rfl | rfl | rfl | rfl | rfl | rfl <;> rfl) (Nat.le_of_ble_eq_true rfl) (Nat.le_of_ble_eq_true rfl) dX9_init_82 (fun q_38 H hP hD hS => ?_)
  refine W.widen (k := 32) (n := 3301) (Nat.le_of_ble_eq_true rfl) (Nat.le_of_ble_eq_true rfl) ?_
  refine lv_dup hx hb dX9_init_85 rfl ?_
  refine va_new (ci := 2) (fs := [.int 0, .int 0, .int 0, .int 0, .int 0, .null, .null, .null, .null, .null, .null, .null]) (C := RX2) (T := TX2) (N := 12) hx hb hw inlX2 tyX2 tyX2_ok hown (hw _ wd_195) (hw _ wd_66) (hw _ wd_4) hK hP hD hS hA rfl (fun j hj => by rcases (show j = 0 ∨ j = 1 ∨ j = 2 ∨ j = 3 ∨ j = 4 ∨ j = 5 ∨ j = 6 ∨ j = 7 ∨ j = 8 ∨ j = 9 ∨ j = 10 ∨ j = 11 by omega) with rfl | rfl | rfl | rfl | rfl | rfl | rfl | rfl | rfl | rfl | rfl | rfl <;> rfl) (Nat.le_of_ble_eq_true rfl) (Nat.le_of_ble_eq_true rfl) dX9_init_86 (fun q_39 H hP hD hS => ?_)
  refine W.widen (k := 33) (n := 3313) (Nat.le_of_ble_eq_true rfl) (Nat.le_of_ble_eq_true rfl) ?_
  refine lv_dup hx hb dX9_init_89 rfl ?_
  refine x_vL (va_runIN (As := []) (rest := [.ref q_39, .ref q_38, .ref q_38, .ref h0]) ⟨hx, hb, hml, hown, hw⟩ (kX2_init l D k sd q_39  H.size) ⟨va_cnB 0 hw (gM wd_69) rfl rfl rfl (hE.1 _ (List.mem_of_getElem? (i := 3) rfl)) (hw _ wd_4) (by decide +kernel) ⟨Nat.le_of_ble_eq_true rfl, Nat.le_of_ble_eq_true rfl⟩, rfl, hw _ wd_68⟩ (pre_SL hK hE hX hP hD hS hA) rfl rfl hl.1 rfl (lv_room (Nat.le_of_ble_eq_true rfl)) dX9_init_90 ⟨Nat.le_of_ble_eq_true rfl, Nat.le_of_ble_eq_true rfl⟩) hP hD hS hA (fun u_40 H locs hp_41 hP hD hS => ?_)
  refine W.widen (k := 40) (n := 3380) (Nat.le_of_ble_eq_true rfl) (Nat.le_of_ble_eq_true rfl) ?_
  refine lv_aload_n hx hb dX9_init_93 rfl (lv_at hl 1 rfl) ?_
  refine va_get (D := D) (ci := 9) (v := .ref q_13) (C := RX9) (T := TX9) (N := 12) hx hb hw inlX9 hown hK hP 0 rfl rfl 3 (by decide) (hw _ wd_422) (fun _ h9 => h9) rfl dX9_init_94 ?_
  refine x_v (wr := [(h0, .inr (9, [.ref q_1, .ref q_5, .ref q_9, .ref q_13, .int 0, .null, .null, .null, .null, .null, .null, .null]))] ++ G7 k q_1 u_2 ++ G3 k q_5 q_1 u_6 ++ G5 k q_9 q_1 u_10 ++ [(q_13, .inl (k 3, 6, .inr (.inr (.inr (.inr (va_up (va_up (va_up (va_up (va_up (va_up (fun _ => none) 0 (some q_14)) 1 (some q_18)) 2 (some q_22)) 3 (some q_26)) 4 (some q_30)) 5 (some q_34)))))))] ++ G4 k q_14 u_15 ++ [(q_18, .inr (4, [.ref (u_19 0), .int 0, .int 0, .int 0, .ref (u_19 1), .long 0])), (q_22, .inr (4, [.ref (u_23 0), .int 0, .int 0, .int 0, .ref (u_23 1), .long 0])), (q_26, .inr (4, [.ref (u_27 0), .int 0, .int 0, .int 0, .ref (u_27 1), .long 0])), (q_30, .inr (4, [.ref (u_31 0), .int 0, .int 0, .int 0, .ref (u_31 1), .long 0])), (q_34, .inr (4, [.ref (u_35 0), .int 0, .int 0, .int 0, .ref (u_35 1), .long 0]))] ++ G2 k q_39 u_40) (va_runI (As := [.ref q_39, .ref q_13]) (rest := [.ref q_38, .ref h0]) ⟨hx, hb, hml, hown, hw⟩ (kX8_init l D k sd q_38 q_39 q_13 H.size) (cwI 2 hw (gM wd_199) rfl rfl rfl (hw _ wd_7) (hw _ wd_197) (hw _ wd_198) rfl (by decide +kernel) ⟨Nat.le_of_ble_eq_true rfl, Nat.le_of_ble_eq_true rfl⟩) (pre_S hK hE hX hP hD hS hA [22] (by decide) rfl) rfl rfl hl.1 rfl (lv_room (Nat.le_of_ble_eq_true rfl)) dX9_init_97 ⟨Nat.le_of_ble_eq_true rfl, Nat.le_of_ble_eq_true rfl⟩) hP hD hS hA [22] [0, 1, 2, 3, 4, 5, 6, 7, 8, 9, 10, 11, 12, 13, 14, 15, 16, 17, 18, 19, 20, 21, 23, 24, 25, 26, 27, 28, 29, 30] rfl rfl (by decide) (by decide) (fun u_43 H locs hp_44 hP hD hS => ?_)
  refine W.widen (k := 67) (n := 4164) (Nat.le_of_ble_eq_true rfl) (Nat.le_of_ble_eq_true rfl) ?_
  refine va_putF (D := D) (ci := 9) (v := .ref q_38) (ty := .object "RaftForest$World") (C := RX9) (T := TX9) (N := 12) hx hb hw inlX9 tyX9 tyX9_ok nmX9 hown hK hP hD hS 0 rfl rfl 5 (by decide) (hw _ wd_424) (fun _ h9 => h9) rfl hin rfl (by decide +kernel) rfl rfl (Nat.le_of_ble_eq_true rfl) dX9_init_100 (fun H locs hP hD hS => ?_)
  refine lv_aload_n hx hb dX9_init_103 rfl (lv_at hl 1 rfl) ?_
  refine va_new (ci := 8) (fs := [.null, .null, .null, .null, .null, .null, .null, .null, .int 0]) (C := RX8) (T := TX8) (N := 9) hx hb hw inlX8 tyX8 tyX8_ok hown (hw _ wd_193) (hw _ wd_194) (hw _ wd_7) hK hP hD hS hA rfl (fun j hj => by rcases (show j = 0 ∨ j = 1 ∨ j = 2 ∨ j = 3 ∨ j = 4 ∨ j = 5 ∨ j = 6 ∨ j = 7 ∨ j = 8 by omega) with rfl | rfl | rfl | rfl | rfl | rfl | rfl | rfl | rfl <;> rfl) (Nat.le_of_ble_eq_true rfl) (Nat.le_of_ble_eq_true rfl) dX9_init_104 (fun q_46 H hP hD hS => ?_)
  refine W.widen (k := 68) (n := 4173) (Nat.le_of_ble_eq_true rfl) (Nat.le_of_ble_eq_true rfl) ?_
  refine lv_dup hx hb dX9_init_107 rfl ?_
  refine lv_aload_n hx hb dX9_init_108 rfl (lv_at hl 1 rfl) ?_
  refine va_get (D := D) (ci := 9) (v := .ref q_38) (C := RX9) (T := TX9) (N := 12) hx hb hw inlX9 hown hK hP 0 rfl rfl 5 (by decide) (hw _ wd_424) (fun _ h9 => h9) rfl dX9_init_109 ?_
  refine va_get (D := D) (ci := 8) (v := .ref q_39) (C := RX8) (T := TX8) (N := 9) hx hb hw inlX8 hown hK hP 30 rfl rfl 0 (by decide) (hw _ wd_358) (fun _ h9 => h9) rfl dX9_init_112 ?_
  refine lv_aload_n hx hb dX9_init_115 rfl (lv_at hl 1 rfl) ?_
  refine va_get (D := D) (ci := 9) (v := .ref q_13) (C := RX9) (T := TX9) (N := 12) hx hb hw inlX9 hown hK hP 0 rfl rfl 3 (by decide) (hw _ wd_422) (fun _ h9 => h9) rfl dX9_init_116 ?_
  refine x_vL (va_runI (As := [.ref q_39, .ref q_13]) (rest := [.ref q_46, .ref h0]) ⟨hx, hb, hml, hown, hw⟩ (kX8_init_o l D k sd q_46 q_39 q_13 H.size) (cwI 2 hw (gM wd_199) rfl rfl rfl (hw _ wd_7) (hw _ wd_197) (hw _ wd_198) rfl (by decide +kernel) ⟨Nat.le_of_ble_eq_true rfl, Nat.le_of_ble_eq_true rfl⟩) (pre_SL hK hE hX hP hD hS hA) rfl rfl hl.1 rfl (lv_room (Nat.le_of_ble_eq_true rfl)) dX9_init_119 ⟨Nat.le_of_ble_eq_true rfl, Nat.le_of_ble_eq_true rfl⟩) hP hD hS hA (fun u_47 H locs hp_48 hP hD hS => ?_)
  refine W.widen (k := 95) (n := 4957) (Nat.le_of_ble_eq_true rfl) (Nat.le_of_ble_eq_true rfl) ?_
  refine va_putF (D := D) (ci := 9) (v := .ref q_46) (ty := .object "RaftForest$World") (C := RX9) (T := TX9) (N := 12) hx hb hw inlX9 tyX9 tyX9_ok nmX9 hown hK hP hD hS 0 rfl rfl 6 (by decide) (hw _ wd_425) (fun _ h9 => h9) rfl hin rfl (by decide +kernel) rfl rfl (Nat.le_of_ble_eq_true rfl) dX9_init_122 (fun H locs hP hD hS => ?_)
  refine lv_aload_n hx hb dX9_init_125 rfl (lv_at hl 1 rfl) ?_
  refine lv_iconst (v := 4) hx hb dX9_init_126 (by decide) ?_
  refine x_newQ4 (N' := 4) hx hb hown (hw _ wd_392) hE hK hP hD hS hA (by decide) (by decide) (Nat.le_of_ble_eq_true rfl) (Nat.le_of_ble_eq_true rfl) (Nat.le_of_ble_eq_true rfl) dX9_init_127 (fun q_50 H hP hD hS => ?_)
  refine W.widen (k := 96) (n := 4961) (Nat.le_of_ble_eq_true rfl) (Nat.le_of_ble_eq_true rfl) ?_
  refine va_putF (D := D) (ci := 9) (v := .ref q_50) (ty := .array (.object "RaftForest$Image")) (C := RX9) (T := TX9) (N := 12) hx hb hw inlX9 tyX9 tyX9_ok nmX9 hown hK hP hD hS 0 rfl rfl 7 (by decide) (hw _ wd_426) (fun _ h9 => h9) rfl hin rfl (by decide +kernel) rfl rfl (Nat.le_of_ble_eq_true rfl) dX9_init_130 (fun H locs hP hD hS => ?_)
  refine lv_iconst (v := 0) hx hb dX9_init_133 (by decide) ?_
  refine lv_istore_n (lv' := [(1, .int 0), (0, .ref h0)]) hx hb dX9_init_134 rfl hl (by decide) rfl (fun ls hl => ?_)
  refine lv_iload_n hx hb dX9_init_135 rfl (lv_at hl 0 rfl) ?_
  refine lv_iconst (v := 4) hx hb dX9_init_136 (by decide) ?_
  refine lv_icmp_ge (tgt := 159) hx hb dX9_init_137 (by decide) (fun h => absurd h (by decide)) (fun _ => ?_)
  refine lv_aload_n hx hb dX9_init_140 rfl (lv_at hl 1 rfl) ?_
  refine va_get (D := D) (ci := 9) (v := .ref q_50) (C := RX9) (T := TX9) (N := 12) hx hb hw inlX9 hown hK hP 0 rfl rfl 7 (by decide) (hw _ wd_426) (fun _ h9 => h9) rfl dX9_init_141 ?_
  refine lv_iload_n hx hb dX9_init_144 rfl (lv_at hl 0 rfl) ?_
  refine va_new (ci := 1) (fs := [.int 0, .null, .null, .null]) (C := RX1) (T := TX1) (N := 4) hx hb hw inlX1 tyX1 tyX1_ok hown (hw _ wd_392) (hw _ wd_394) (hw _ wd_10) hK hP hD hS hA rfl (fun j hj => by rcases (show j = 0 ∨ j = 1 ∨ j = 2 ∨ j = 3 by omega) with rfl | rfl | rfl | rfl <;> rfl) (Nat.le_of_ble_eq_true rfl) (Nat.le_of_ble_eq_true rfl) dX9_init_145 (fun q_51 H hP hD hS => ?_)
  refine W.widen (k := 97) (n := 4965) (Nat.le_of_ble_eq_true rfl) (Nat.le_of_ble_eq_true rfl) ?_
  refine lv_dup hx hb dX9_init_148 rfl ?_
  refine x_vL (va_runIN (As := []) (rest := [.ref q_51, .int 0, .ref q_50]) ⟨hx, hb, hml, hown, hw⟩ (kX1_init l D k sd q_51  H.size) ⟨va_cnB 0 hw (gM wd_397) rfl rfl rfl (hE.1 _ (List.mem_of_getElem? (i := 6) rfl)) (hw _ wd_10) (by decide +kernel) ⟨Nat.le_of_ble_eq_true rfl, Nat.le_of_ble_eq_true rfl⟩, rfl, hw _ wd_396⟩ (pre_SL hK hE hX hP hD hS hA) rfl rfl hl.1 rfl (lv_room (Nat.le_of_ble_eq_true rfl)) dX9_init_149 ⟨Nat.le_of_ble_eq_true rfl, Nat.le_of_ble_eq_true rfl⟩) hP hD hS hA (fun u_52 H locs hp_53 hP hD hS => ?_)
  refine W.widen (k := 128) (n := 5785) (Nat.le_of_ble_eq_true rfl) (Nat.le_of_ble_eq_true rfl) ?_
  refine va_astq hx hb hK hP hD hS 58 4 59 1 (r := (RX1, TX1, 4)) rfl rfl rfl rfl (i := 0) (by unfold vp_in; decide) dX9_init_152 (fun H locs hP hD hS => ?_)
  refine lv_iinc (v := 1) (lv' := [(1, .int 1), (0, .ref h0)]) hx hb dX9_init_153 hl (k := 0) rfl (by decide) (by decide) rfl (fun ls hl => ?_)
  refine lv_goto (tgt := 135) hx hb dX9_init_156 (by decide) ?_
  refine lv_iload_n hx hb dX9_init_135 rfl (lv_at hl 0 rfl) ?_
  refine lv_iconst (v := 4) hx hb dX9_init_136 (by decide) ?_
  refine lv_icmp_ge (tgt := 159) hx hb dX9_init_137 (by decide) (fun h => absurd h (by decide)) (fun _ => ?_)
  refine lv_aload_n hx hb dX9_init_140 rfl (lv_at hl 1 rfl) ?_
  refine va_get (D := D) (ci := 9) (v := .ref q_50) (C := RX9) (T := TX9) (N := 12) hx hb hw inlX9 hown hK hP 0 rfl rfl 7 (by decide) (hw _ wd_426) (fun _ h9 => h9) rfl dX9_init_141 ?_
  refine lv_iload_n hx hb dX9_init_144 rfl (lv_at hl 0 rfl) ?_
  refine va_new (ci := 1) (fs := [.int 0, .null, .null, .null]) (C := RX1) (T := TX1) (N := 4) hx hb hw inlX1 tyX1 tyX1_ok hown (hw _ wd_392) (hw _ wd_394) (hw _ wd_10) hK hP hD hS hA rfl (fun j hj => by rcases (show j = 0 ∨ j = 1 ∨ j = 2 ∨ j = 3 by omega) with rfl | rfl | rfl | rfl <;> rfl) (Nat.le_of_ble_eq_true rfl) (Nat.le_of_ble_eq_true rfl) dX9_init_145 (fun q_55 H hP hD hS => ?_)
  refine W.widen (k := 129) (n := 5789) (Nat.le_of_ble_eq_true rfl) (Nat.le_of_ble_eq_true rfl) ?_
  refine lv_dup hx hb dX9_init_148 rfl ?_
  refine x_vL (va_runIN (As := []) (rest := [.ref q_55, .int 1, .ref q_50]) ⟨hx, hb, hml, hown, hw⟩ (kX1_init l D k sd q_55  H.size) ⟨va_cnB 0 hw (gM wd_397) rfl rfl rfl (hE.1 _ (List.mem_of_getElem? (i := 6) rfl)) (hw _ wd_10) (by decide +kernel) ⟨Nat.le_of_ble_eq_true rfl, Nat.le_of_ble_eq_true rfl⟩, rfl, hw _ wd_396⟩ (pre_SL hK hE hX hP hD hS hA) rfl rfl hl.1 rfl (lv_room (Nat.le_of_ble_eq_true rfl)) dX9_init_149 ⟨Nat.le_of_ble_eq_true rfl, Nat.le_of_ble_eq_true rfl⟩) hP hD hS hA (fun u_56 H locs hp_57 hP hD hS => ?_)
  refine W.widen (k := 160) (n := 6609) (Nat.le_of_ble_eq_true rfl) (Nat.le_of_ble_eq_true rfl) ?_
  refine va_astq hx hb hK hP hD hS 58 4 91 1 (r := (RX1, TX1, 4)) rfl rfl rfl rfl (i := 1) (by unfold vp_in; decide) dX9_init_152 (fun H locs hP hD hS => ?_)
  refine lv_iinc (v := 2) (lv' := [(1, .int 2), (0, .ref h0)]) hx hb dX9_init_153 hl (k := 0) rfl (by decide) (by decide) rfl (fun ls hl => ?_)
  refine lv_goto (tgt := 135) hx hb dX9_init_156 (by decide) ?_
  refine lv_iload_n hx hb dX9_init_135 rfl (lv_at hl 0 rfl) ?_
  refine lv_iconst (v := 4) hx hb dX9_init_136 (by decide) ?_
  refine lv_icmp_ge (tgt := 159) hx hb dX9_init_137 (by decide) (fun h => absurd h (by decide)) (fun _ => ?_)
  refine lv_aload_n hx hb dX9_init_140 rfl (lv_at hl 1 rfl) ?_
  refine va_get (D := D) (ci := 9) (v := .ref q_50) (C := RX9) (T := TX9) (N := 12) hx hb hw inlX9 hown hK hP 0 rfl rfl 7 (by decide) (hw _ wd_426) (fun _ h9 => h9) rfl dX9_init_141 ?_
  refine lv_iload_n hx hb dX9_init_144 rfl (lv_at hl 0 rfl) ?_
  refine va_new (ci := 1) (fs := [.int 0, .null, .null, .null]) (C := RX1) (T := TX1) (N := 4) hx hb hw inlX1 tyX1 tyX1_ok hown (hw _ wd_392) (hw _ wd_394) (hw _ wd_10) hK hP hD hS hA rfl (fun j hj => by rcases (show j = 0 ∨ j = 1 ∨ j = 2 ∨ j = 3 by omega) with rfl | rfl | rfl | rfl <;> rfl) (Nat.le_of_ble_eq_true rfl) (Nat.le_of_ble_eq_true rfl) dX9_init_145 (fun q_59 H hP hD hS => ?_)
  refine W.widen (k := 161) (n := 6613) (Nat.le_of_ble_eq_true rfl) (Nat.le_of_ble_eq_true rfl) ?_
  refine lv_dup hx hb dX9_init_148 rfl ?_
  refine x_vL (va_runIN (As := []) (rest := [.ref q_59, .int 2, .ref q_50]) ⟨hx, hb, hml, hown, hw⟩ (kX1_init l D k sd q_59  H.size) ⟨va_cnB 0 hw (gM wd_397) rfl rfl rfl (hE.1 _ (List.mem_of_getElem? (i := 6) rfl)) (hw _ wd_10) (by decide +kernel) ⟨Nat.le_of_ble_eq_true rfl, Nat.le_of_ble_eq_true rfl⟩, rfl, hw _ wd_396⟩ (pre_SL hK hE hX hP hD hS hA) rfl rfl hl.1 rfl (lv_room (Nat.le_of_ble_eq_true rfl)) dX9_init_149 ⟨Nat.le_of_ble_eq_true rfl, Nat.le_of_ble_eq_true rfl⟩) hP hD hS hA (fun u_60 H locs hp_61 hP hD hS => ?_)
  refine W.widen (k := 192) (n := 7433) (Nat.le_of_ble_eq_true rfl) (Nat.le_of_ble_eq_true rfl) ?_
  refine va_astq hx hb hK hP hD hS 58 4 123 1 (r := (RX1, TX1, 4)) rfl rfl rfl rfl (i := 2) (by unfold vp_in; decide) dX9_init_152 (fun H locs hP hD hS => ?_)
  refine lv_iinc (v := 3) (lv' := [(1, .int 3), (0, .ref h0)]) hx hb dX9_init_153 hl (k := 0) rfl (by decide) (by decide) rfl (fun ls hl => ?_)
  refine lv_goto (tgt := 135) hx hb dX9_init_156 (by decide) ?_
  refine lv_iload_n hx hb dX9_init_135 rfl (lv_at hl 0 rfl) ?_
  refine lv_iconst (v := 4) hx hb dX9_init_136 (by decide) ?_
  refine lv_icmp_ge (tgt := 159) hx hb dX9_init_137 (by decide) (fun h => absurd h (by decide)) (fun _ => ?_)
  refine lv_aload_n hx hb dX9_init_140 rfl (lv_at hl 1 rfl) ?_
  refine va_get (D := D) (ci := 9) (v := .ref q_50) (C := RX9) (T := TX9) (N := 12) hx hb hw inlX9 hown hK hP 0 rfl rfl 7 (by decide) (hw _ wd_426) (fun _ h9 => h9) rfl dX9_init_141 ?_
  refine lv_iload_n hx hb dX9_init_144 rfl (lv_at hl 0 rfl) ?_
  refine va_new (ci := 1) (fs := [.int 0, .null, .null, .null]) (C := RX1) (T := TX1) (N := 4) hx hb hw inlX1 tyX1 tyX1_ok hown (hw _ wd_392) (hw _ wd_394) (hw _ wd_10) hK hP hD hS hA rfl (fun j hj => by rcases (show j = 0 ∨ j = 1 ∨ j = 2 ∨ j = 3 by omega) with rfl | rfl | rfl | rfl <;> rfl) (Nat.le_of_ble_eq_true rfl) (Nat.le_of_ble_eq_true rfl) dX9_init_145 (fun q_63 H hP hD hS => ?_)
  refine W.widen (k := 193) (n := 7437) (Nat.le_of_ble_eq_true rfl) (Nat.le_of_ble_eq_true rfl) ?_
  refine lv_dup hx hb dX9_init_148 rfl ?_
  refine x_vL (va_runIN (As := []) (rest := [.ref q_63, .int 3, .ref q_50]) ⟨hx, hb, hml, hown, hw⟩ (kX1_init l D k sd q_63  H.size) ⟨va_cnB 0 hw (gM wd_397) rfl rfl rfl (hE.1 _ (List.mem_of_getElem? (i := 6) rfl)) (hw _ wd_10) (by decide +kernel) ⟨Nat.le_of_ble_eq_true rfl, Nat.le_of_ble_eq_true rfl⟩, rfl, hw _ wd_396⟩ (pre_SL hK hE hX hP hD hS hA) rfl rfl hl.1 rfl (lv_room (Nat.le_of_ble_eq_true rfl)) dX9_init_149 ⟨Nat.le_of_ble_eq_true rfl, Nat.le_of_ble_eq_true rfl⟩) hP hD hS hA (fun u_64 H locs hp_65 hP hD hS => ?_)
  refine W.widen (k := 224) (n := 8257) (Nat.le_of_ble_eq_true rfl) (Nat.le_of_ble_eq_true rfl) ?_
  refine va_astq hx hb hK hP hD hS 58 4 155 1 (r := (RX1, TX1, 4)) rfl rfl rfl rfl (i := 3) (by unfold vp_in; decide) dX9_init_152 (fun H locs hP hD hS => ?_)
  refine lv_iinc (v := 4) (lv' := [(1, .int 4), (0, .ref h0)]) hx hb dX9_init_153 hl (k := 0) rfl (by decide) (by decide) rfl (fun ls hl => ?_)
  refine lv_goto (tgt := 135) hx hb dX9_init_156 (by decide) ?_
  refine lv_iload_n hx hb dX9_init_135 rfl (lv_at hl 0 rfl) ?_
  refine lv_iconst (v := 4) hx hb dX9_init_136 (by decide) ?_
  refine lv_icmp_ge (tgt := 159) hx hb dX9_init_137 (by decide) (fun _ => ?_) (fun h => absurd (by decide) h)
  refine lv_aload_n hx hb dX9_init_159 rfl (lv_at hl 1 rfl) ?_
  refine lv_bipush (v := 6) hx hb dX9_init_160 (by decide) ?_
  refine x_newI (N' := 6) hx hb (hw _ wd_58) hK hP hD hS hA (by decide) (by decide) (Nat.le_of_ble_eq_true rfl) (Nat.le_of_ble_eq_true rfl) (Nat.le_of_ble_eq_true rfl) dX9_init_162 (fun q_67 H hP hD hS => ?_)
  refine W.widen (k := 225) (n := 8263) (Nat.le_of_ble_eq_true rfl) (Nat.le_of_ble_eq_true rfl) ?_
  refine va_putF (D := D) (ci := 9) (v := .ref q_67) (ty := .array .int) (C := RX9) (T := TX9) (N := 12) hx hb hw inlX9 tyX9 tyX9_ok nmX9 hown hK hP hD hS 0 rfl rfl 8 (by decide) (hw _ wd_427) (fun _ h9 => h9) rfl hin rfl (by decide +kernel) rfl rfl (Nat.le_of_ble_eq_true rfl) dX9_init_164 (fun H locs hP hD hS => ?_)
  refine lv_aload_n hx hb dX9_init_167 rfl (lv_at hl 1 rfl) ?_
  refine lv_bipush (v := 6) hx hb dX9_init_168 (by decide) ?_
  refine x_newI (N' := 6) hx hb (hw _ wd_58) hK hP hD hS hA (by decide) (by decide) (Nat.le_of_ble_eq_true rfl) (Nat.le_of_ble_eq_true rfl) (Nat.le_of_ble_eq_true rfl) dX9_init_170 (fun q_68 H hP hD hS => ?_)
  refine W.widen (k := 226) (n := 8269) (Nat.le_of_ble_eq_true rfl) (Nat.le_of_ble_eq_true rfl) ?_
  refine va_putF (D := D) (ci := 9) (v := .ref q_68) (ty := .array .int) (C := RX9) (T := TX9) (N := 12) hx hb hw inlX9 tyX9 tyX9_ok nmX9 hown hK hP hD hS 0 rfl rfl 9 (by decide) (hw _ wd_428) (fun _ h9 => h9) rfl hin rfl (by decide +kernel) rfl rfl (Nat.le_of_ble_eq_true rfl) dX9_init_172 (fun H locs hP hD hS => ?_)
  refine lv_aload_n hx hb dX9_init_175 rfl (lv_at hl 1 rfl) ?_
  refine lv_bipush (v := 6) hx hb dX9_init_176 (by decide) ?_
  refine x_newI (N' := 6) hx hb (hw _ wd_58) hK hP hD hS hA (by decide) (by decide) (Nat.le_of_ble_eq_true rfl) (Nat.le_of_ble_eq_true rfl) (Nat.le_of_ble_eq_true rfl) dX9_init_178 (fun q_69 H hP hD hS => ?_)
  refine W.widen (k := 227) (n := 8275) (Nat.le_of_ble_eq_true rfl) (Nat.le_of_ble_eq_true rfl) ?_
  refine va_putF (D := D) (ci := 9) (v := .ref q_69) (ty := .array .int) (C := RX9) (T := TX9) (N := 12) hx hb hw inlX9 tyX9 tyX9_ok nmX9 hown hK hP hD hS 0 rfl rfl 10 (by decide) (hw _ wd_429) (fun _ h9 => h9) rfl hin rfl (by decide +kernel) rfl rfl (Nat.le_of_ble_eq_true rfl) dX9_init_180 (fun H locs hP hD hS => ?_)
  refine lv_aload_n hx hb dX9_init_183 rfl (lv_at hl 1 rfl) ?_
  refine lv_bipush (v := 64) hx hb dX9_init_184 (by decide) ?_
  refine x_newI (N' := 64) hx hb (hw _ wd_58) hK hP hD hS hA (by decide) (by decide) (Nat.le_of_ble_eq_true rfl) (Nat.le_of_ble_eq_true rfl) (Nat.le_of_ble_eq_true rfl) dX9_init_186 (fun q_70 H hP hD hS => ?_)
  refine W.widen (k := 228) (n := 8339) (Nat.le_of_ble_eq_true rfl) (Nat.le_of_ble_eq_true rfl) ?_
  refine va_putF (D := D) (ci := 9) (v := .ref q_70) (ty := .array .int) (C := RX9) (T := TX9) (N := 12) hx hb hw inlX9 tyX9 tyX9_ok nmX9 hown hK hP hD hS 0 rfl rfl 11 (by decide) (hw _ wd_430) (fun _ h9 => h9) rfl hin rfl (by decide +kernel) rfl rfl (Nat.le_of_ble_eq_true rfl) dX9_init_188 (fun H locs hP hD hS => ?_)
  refine W.widen (k := 228) (n := 8339) (Nat.le_of_ble_eq_true rfl) (Nat.le_of_ble_eq_true rfl) ?_
  have hP9 : va_P D vwCl ((fun u => G9 k h0 u) (xv [(xu [q_1, q_5, q_9, q_13, q_38, q_39, q_50, q_14, q_18, q_22, q_26, q_30, q_34, q_51, q_55, q_59, q_63, q_46, q_67, q_68, q_69, q_70]), (xu [u_2 0]), (xu [u_6 0, u_6 1, u_6 2, u_6 3, u_6 4, u_6 5, u_6 6, u_6 7]), (xu []), (xu [u_15 0, u_15 1]), (xu [u_43 0, u_43 1, u_43 2, u_43 3, u_43 4, u_43 5, u_43 6, u_43 7, u_43 8, u_43 9, u_43 10, u_43 11, u_43 12, u_43 13, u_43 14, u_43 15, u_43 16, u_43 17, u_43 18, u_43 19, u_43 20, u_43 21, u_43 22, u_43 23, u_43 24, u_43 25, u_43 26]), (xu [u_40 0, u_40 1, u_40 2, u_40 3, u_40 4, u_40 5, u_40 6]), (xu [u_52 0, u_52 1, u_52 2, u_52 3, u_52 4, u_52 5, u_52 6, u_52 7, u_52 8, u_52 9, u_52 10, u_52 11, u_52 12, u_52 13, u_52 14, u_52 15, u_52 16, u_52 17, u_52 18, u_52 19, u_52 20, u_52 21, u_52 22, u_52 23, u_52 24, u_52 25, u_52 26, u_52 27, u_52 28, u_52 29, u_52 30]), (xu [u_56 0, u_56 1, u_56 2, u_56 3, u_56 4, u_56 5, u_56 6, u_56 7, u_56 8, u_56 9, u_56 10, u_56 11, u_56 12, u_56 13, u_56 14, u_56 15, u_56 16, u_56 17, u_56 18, u_56 19, u_56 20, u_56 21, u_56 22, u_56 23, u_56 24, u_56 25, u_56 26, u_56 27, u_56 28, u_56 29, u_56 30]), (xu [u_60 0, u_60 1, u_60 2, u_60 3, u_60 4, u_60 5, u_60 6, u_60 7, u_60 8, u_60 9, u_60 10, u_60 11, u_60 12, u_60 13, u_60 14, u_60 15, u_60 16, u_60 17, u_60 18, u_60 19, u_60 20, u_60 21, u_60 22, u_60 23, u_60 24, u_60 25, u_60 26, u_60 27, u_60 28, u_60 29, u_60 30]), (xu [u_64 0, u_64 1, u_64 2, u_64 3, u_64 4, u_64 5, u_64 6, u_64 7, u_64 8, u_64 9, u_64 10, u_64 11, u_64 12, u_64 13, u_64 14, u_64 15, u_64 16, u_64 17, u_64 18, u_64 19, u_64 20, u_64 21, u_64 22, u_64 23, u_64 24, u_64 25, u_64 26, u_64 27, u_64 28, u_64 29, u_64 30])])) H := hP.sub [0, 13, 58, 1, 2, 3, 4, 5, 6, 7, 8, 9, 10, 11, 12, 14, 15, 16, 30, 31, 32, 33, 34, 35, 36, 37, 38, 39, 40, 41, 42, 43, 44, 45, 46, 47, 48, 49, 50, 51, 52, 53, 54, 55, 56, 57, 22, 23, 24, 25, 26, 27, 28, 29, 59, 60, 61, 62, 63, 64, 65, 66, 67, 68, 69, 70, 71, 72, 73, 74, 75, 76, 77, 78, 79, 80, 81, 82, 83, 84, 85, 86, 87, 88, 89, 90, 91, 92, 93, 94, 95, 96, 97, 98, 99, 100, 101, 102, 103, 104, 105, 106, 107, 108, 109, 110, 111, 112, 113, 114, 115, 116, 117, 118, 119, 120, 121, 122, 123, 124, 125, 126, 127, 128, 129, 130, 131, 132, 133, 134, 135, 136, 137, 138, 139, 140, 141, 142, 143, 144, 145, 146, 147, 148, 149, 150, 151, 152, 153, 154, 155, 156, 157, 158, 159, 160, 161, 162, 163, 164, 165, 166, 167, 168, 169, 170, 171, 172, 173, 174, 175, 176, 177, 178, 179, 180, 181, 182, 183, 184, 185, 186] rfl
  have hD9 : va_D A ((fun u => G9 k h0 u) (xv [(xu [q_1, q_5, q_9, q_13, q_38, q_39, q_50, q_14, q_18, q_22, q_26, q_30, q_34, q_51, q_55, q_59, q_63, q_46, q_67, q_68, q_69, q_70]), (xu [u_2 0]), (xu [u_6 0, u_6 1, u_6 2, u_6 3, u_6 4, u_6 5, u_6 6, u_6 7]), (xu []), (xu [u_15 0, u_15 1]), (xu [u_43 0, u_43 1, u_43 2, u_43 3, u_43 4, u_43 5, u_43 6, u_43 7, u_43 8, u_43 9, u_43 10, u_43 11, u_43 12, u_43 13, u_43 14, u_43 15, u_43 16, u_43 17, u_43 18, u_43 19, u_43 20, u_43 21, u_43 22, u_43 23, u_43 24, u_43 25, u_43 26]), (xu [u_40 0, u_40 1, u_40 2, u_40 3, u_40 4, u_40 5, u_40 6]), (xu [u_52 0, u_52 1, u_52 2, u_52 3, u_52 4, u_52 5, u_52 6, u_52 7, u_52 8, u_52 9, u_52 10, u_52 11, u_52 12, u_52 13, u_52 14, u_52 15, u_52 16, u_52 17, u_52 18, u_52 19, u_52 20, u_52 21, u_52 22, u_52 23, u_52 24, u_52 25, u_52 26, u_52 27, u_52 28, u_52 29, u_52 30]), (xu [u_56 0, u_56 1, u_56 2, u_56 3, u_56 4, u_56 5, u_56 6, u_56 7, u_56 8, u_56 9, u_56 10, u_56 11, u_56 12, u_56 13, u_56 14, u_56 15, u_56 16, u_56 17, u_56 18, u_56 19, u_56 20, u_56 21, u_56 22, u_56 23, u_56 24, u_56 25, u_56 26, u_56 27, u_56 28, u_56 29, u_56 30]), (xu [u_60 0, u_60 1, u_60 2, u_60 3, u_60 4, u_60 5, u_60 6, u_60 7, u_60 8, u_60 9, u_60 10, u_60 11, u_60 12, u_60 13, u_60 14, u_60 15, u_60 16, u_60 17, u_60 18, u_60 19, u_60 20, u_60 21, u_60 22, u_60 23, u_60 24, u_60 25, u_60 26, u_60 27, u_60 28, u_60 29, u_60 30]), (xu [u_64 0, u_64 1, u_64 2, u_64 3, u_64 4, u_64 5, u_64 6, u_64 7, u_64 8, u_64 9, u_64 10, u_64 11, u_64 12, u_64 13, u_64 14, u_64 15, u_64 16, u_64 17, u_64 18, u_64 19, u_64 20, u_64 21, u_64 22, u_64 23, u_64 24, u_64 25, u_64 26, u_64 27, u_64 28, u_64 29, u_64 30])])) := hD.sub [0, 13, 58, 1, 2, 3, 4, 5, 6, 7, 8, 9, 10, 11, 12, 14, 15, 16, 30, 31, 32, 33, 34, 35, 36, 37, 38, 39, 40, 41, 42, 43, 44, 45, 46, 47, 48, 49, 50, 51, 52, 53, 54, 55, 56, 57, 22, 23, 24, 25, 26, 27, 28, 29, 59, 60, 61, 62, 63, 64, 65, 66, 67, 68, 69, 70, 71, 72, 73, 74, 75, 76, 77, 78, 79, 80, 81, 82, 83, 84, 85, 86, 87, 88, 89, 90, 91, 92, 93, 94, 95, 96, 97, 98, 99, 100, 101, 102, 103, 104, 105, 106, 107, 108, 109, 110, 111, 112, 113, 114, 115, 116, 117, 118, 119, 120, 121, 122, 123, 124, 125, 126, 127, 128, 129, 130, 131, 132, 133, 134, 135, 136, 137, 138, 139, 140, 141, 142, 143, 144, 145, 146, 147, 148, 149, 150, 151, 152, 153, 154, 155, 156, 157, 158, 159, 160, 161, 162, 163, 164, 165, 166, 167, 168, 169, 170, 171, 172, 173, 174, 175, 176, 177, 178, 179, 180, 181, 182, 183, 184, 185, 186] (by decide) rfl
  exact W.vret hx hb hr (fun t ht hW => ⟨⟨(xv [(xu [q_1, q_5, q_9, q_13, q_38, q_39, q_50, q_14, q_18, q_22, q_26, q_30, q_34, q_51, q_55, q_59, q_63, q_46, q_67, q_68, q_69, q_70]), (xu [u_2 0]), (xu [u_6 0, u_6 1, u_6 2, u_6 3, u_6 4, u_6 5, u_6 6, u_6 7]), (xu []), (xu [u_15 0, u_15 1]), (xu [u_43 0, u_43 1, u_43 2, u_43 3, u_43 4, u_43 5, u_43 6, u_43 7, u_43 8, u_43 9, u_43 10, u_43 11, u_43 12, u_43 13, u_43 14, u_43 15, u_43 16, u_43 17, u_43 18, u_43 19, u_43 20, u_43 21, u_43 22, u_43 23, u_43 24, u_43 25, u_43 26]), (xu [u_40 0, u_40 1, u_40 2, u_40 3, u_40 4, u_40 5, u_40 6]), (xu [u_52 0, u_52 1, u_52 2, u_52 3, u_52 4, u_52 5, u_52 6, u_52 7, u_52 8, u_52 9, u_52 10, u_52 11, u_52 12, u_52 13, u_52 14, u_52 15, u_52 16, u_52 17, u_52 18, u_52 19, u_52 20, u_52 21, u_52 22, u_52 23, u_52 24, u_52 25, u_52 26, u_52 27, u_52 28, u_52 29, u_52 30]), (xu [u_56 0, u_56 1, u_56 2, u_56 3, u_56 4, u_56 5, u_56 6, u_56 7, u_56 8, u_56 9, u_56 10, u_56 11, u_56 12, u_56 13, u_56 14, u_56 15, u_56 16, u_56 17, u_56 18, u_56 19, u_56 20, u_56 21, u_56 22, u_56 23, u_56 24, u_56 25, u_56 26, u_56 27, u_56 28, u_56 29, u_56 30]), (xu [u_60 0, u_60 1, u_60 2, u_60 3, u_60 4, u_60 5, u_60 6, u_60 7, u_60 8, u_60 9, u_60 10, u_60 11, u_60 12, u_60 13, u_60 14, u_60 15, u_60 16, u_60 17, u_60 18, u_60 19, u_60 20, u_60 21, u_60 22, u_60 23, u_60 24, u_60 25, u_60 26, u_60 27, u_60 28, u_60 29, u_60 30]), (xu [u_64 0, u_64 1, u_64 2, u_64 3, u_64 4, u_64 5, u_64 6, u_64 7, u_64 8, u_64 9, u_64 10, u_64 11, u_64 12, u_64 13, u_64 14, u_64 15, u_64 16, u_64 17, u_64 18, u_64 19, u_64 20, u_64 21, u_64 22, u_64 23, u_64 24, u_64 25, u_64 26, u_64 27, u_64 28, u_64 29, u_64 30])]), rfl, trivial, by rw [ht]; exact hP9, hD9⟩, hS.F ht⟩) hS.2.2 dX9_init_191
