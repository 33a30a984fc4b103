set_option maxHeartbeats 4000000 in
set_option maxRecDepth 100000 in
theorem kX10_in (l : Launch) (D : va_G) (k : Nat → ClassId) (sd : Nat → Nat) (p0 : Int64) (sz : Nat) : Met l yX10_in (wB yX10_in cX10_in 6 (some .boolean)) ({ frames := 0, cells := 0, slots := 0, locals := 0 }) (va_Pc [.long p0, .long 0, .long (-1)] (PRE D k sd (([] : va_W)) sz)) (va_Qi (S := Unit) (fun r _ => r = 0) (fun u t => PO D (va_A (([] : va_W)) sz) ((fun _ => ([] : va_W)) u) t) (va_A (([] : va_W)) sz)) 0 0 (va_A (([] : va_W)) sz) := by
  refine Met.ofW (cc := cX10_in) (maxL := 6) (ret := (some .boolean)) (by decide) rfl ?_
  intro p e s m args below meth c s₁ B hml hv
  obtain ⟨rfl, hsz, hP, hK, hD0, hE, hX⟩ := hv
  have hx := B.exec
  have hb := B.bytes
  have hr := B.returns
  have hw : ∀ w ∈ wsB, w.before _ s = true := fun w h => atoms_spec (ws := wB yX10_in cX10_in 6 (some .boolean)) B.pre w (List.mem_cons_of_mem _ h)
  have hown : s.vm.findClass RX10 = some m.cls := findClass_of_methodNamed B.named
  have hlocks := B.notSynchronized
  subst hsz
  have hD := hD0.self (sz := s.heap.size)
  generalize hAe : va_A (([] : va_W)) s.heap.size = A at hD hX ⊢
  have hA : ∀ q : Nat, s.heap.size ≤ q → A q := fun q h => by rw [← hAe]; exact Or.inr h
  have hS : va_S A s.heap s.heap [] := va_S.rf
  have hl := lv_entry ([.long p0, .long 0, .long (-1)]) (n := 6) (Nat.le_of_ble_eq_true rfl)
  rw [lg_entry_eq]
  generalize (lg_sl ([.long p0, .long 0, .long (-1)]) ++ List.replicate (6 - (lg_sl ([.long p0, .long 0, .long (-1)])).length) Slot.unset).toArray = ls at hl ⊢
  have hl : lv_has ls 6 [(0, .long p0), (2, .long 0), (4, .long (-1))] := hl
  refine lv_lload_n hx hb dX10_in_0 rfl (lv_at hl 0 rfl) ?_
  refine lv_lload_n hx hb dX10_in_1 rfl (lv_at hl 1 rfl) ?_
  refine W.lcmp hx hb dX10_in_2 ?_
  refine lv_if_lt (tgt := 17) hx hb dX10_in_3 (by decide) (fun c_1 => ?_) (fun c_1 => ?_)
  · refine lv_iconst (v := 0) hx hb dX10_in_17 (by decide) ?_
    refine W.widen (k := 0) (n := 0) (Nat.le_of_ble_eq_true rfl) (Nat.le_of_ble_eq_true rfl) ?_
    have hP9 : va_P D vwCl ((fun _ => ([] : va_W)) ()) s.heap := hP.sub [] rfl
    have hD9 : va_D A ((fun _ => ([] : va_W)) ()) := hD.sub [] (by decide) rfl
    exact W.zret (v := 0) (ty := .boolean) hx hb hr rfl (fun t ht hW => ⟨⟨0, (), rfl, rfl, by rw [ht]; exact hP9, hD9⟩, hS.F ht⟩) hS.2.2 dX10_in_18
  · refine lv_lload_n hx hb dX10_in_6 rfl (lv_at hl 0 rfl) ?_
    refine lv_lload hx hb dX10_in_7 (lv_at hl 2 rfl) ?_
    refine W.lcmp hx hb dX10_in_9 ?_
    refine lv_if_gt (tgt := 17) hx hb dX10_in_10 (by decide) (fun _ => ?_) (fun h => absurd (x_in1 c_1) h)
    refine lv_iconst (v := 0) hx hb dX10_in_17 (by decide) ?_
    refine W.widen (k := 0) (n := 0) (Nat.le_of_ble_eq_true rfl) (Nat.le_of_ble_eq_true rfl) ?_
    have hP9 : va_P D vwCl ((fun _ => ([] : va_W)) ()) s.heap := hP.sub [] rfl
    have hD9 : va_D A ((fun _ => ([] : va_W)) ()) := hD.sub [] (by decide) rfl
    exact W.zret (v := 0) (ty := .boolean) hx hb hr rfl (fun t ht hW => ⟨⟨0, (), rfl, rfl, by rw [ht]; exact hP9, hD9⟩, hS.F ht⟩) hS.2.2 dX10_in_18

set_option maxHeartbeats 4000000 in
set_option maxRecDepth 100000 in
theorem kX10_isRiver (l : Launch) (D : va_G) (k : Nat → ClassId) (sd : Nat → Nat) (x : Nat) (u : Nat → Nat) (sz : Nat) : Met l yX10_isRiver (wB yX10_isRiver cX10_isRiver 1 (some .boolean)) ({ frames := 0, cells := 0, slots := 0, locals := 0 }) (va_Pc [.ref x] (PRE D k sd (C10 k x u) sz)) (va_Qi (S := Unit) (fun r _ => r = 0) (fun uu t => PO D (va_A (C10 k x u) sz) ((fun _ => C10 k x u) uu) t) (va_A (C10 k x u) sz)) 0 0 (va_A (C10 k x u) sz) := by
  refine Met.ofW (cc := cX10_isRiver) (maxL := 1) (ret := (some .boolean)) (by decide) rfl ?_
  intro p e s m args below meth c s₁ B hml hv
  obtain ⟨rfl, hsz, hP, hK, hD0, hE, hX⟩ := hv
  have hx := B.exec
  have hb := B.bytes
  have hr := B.returns
  have hw : ∀ w ∈ wsB, w.before _ s = true := fun w h => atoms_spec (ws := wB yX10_isRiver cX10_isRiver 1 (some .boolean)) B.pre w (List.mem_cons_of_mem _ h)
  have hown : s.vm.findClass RX10 = some m.cls := findClass_of_methodNamed B.named
  have hlocks := B.notSynchronized
  subst hsz
  have hD := hD0.self (sz := s.heap.size)
  generalize hAe : va_A (C10 k x u) s.heap.size = A at hD hX ⊢
  have hA : ∀ q : Nat, s.heap.size ≤ q → A q := fun q h => by rw [← hAe]; exact Or.inr h
  have hS : va_S A s.heap s.heap [] := va_S.rf
  have hl := lv_entry ([.ref x]) (n := 1) (Nat.le_of_ble_eq_true rfl)
  rw [lg_entry_eq]
  generalize (lg_sl ([.ref x]) ++ List.replicate (1 - (lg_sl ([.ref x])).length) Slot.unset).toArray = ls at hl ⊢
  have hl : lv_has ls 1 [(0, .ref x)] := hl
  refine lv_aload_n hx hb dX10_isRiver_0 rfl (lv_at hl 0 rfl) ?_
  refine va_get (D := D) (ci := 10) (v := .ref (u 1)) (C := RX10) (T := TX10) (N := 80) hx hb hw inlX10 hown hK hP 0 rfl rfl 1 (by decide) (hw _ wd_1136) (fun _ h9 => h9) rfl dX10_isRiver_1 ?_
  refine lv_iconst (v := 0) hx hb dX10_isRiver_4 (by decide) ?_
  refine va_iald hx hb hK hP 1 0 rfl rfl (i := 0) (by unfold vp_in; decide) dX10_isRiver_5 ?_
  refine x_top (v := 0) rfl ?_
  refine lv_if_le (tgt := 13) hx hb dX10_isRiver_6 (by decide) (fun _ => ?_) (fun h => absurd (by decide) h)
  refine lv_iconst (v := 0) hx hb dX10_isRiver_13 (by decide) ?_
  refine W.widen (k := 0) (n := 0) (Nat.le_of_ble_eq_true rfl) (Nat.le_of_ble_eq_true rfl) ?_
  have hP9 : va_P D vwCl ((fun _ => C10 k x u) ()) s.heap := hP.sub [0, 1] rfl
  have hD9 : va_D A ((fun _ => C10 k x u) ()) := hD.sub [0, 1] (by decide) rfl
  exact W.zret (v := 0) (ty := .boolean) hx hb hr rfl (fun t ht hW => ⟨⟨0, (), rfl, rfl, by rw [ht]; exact hP9, hD9⟩, hS.F ht⟩) hS.2.2 dX10_isRiver_14

set_option maxHeartbeats 4000000 in
set_option maxRecDepth 100000 in
theorem kX10_isBend (l : Launch) (D : va_G) (k : Nat → ClassId) (sd : Nat → Nat) (x : Nat) (u : Nat → Nat) (p0 : Int32) (sz : Nat) : Met l yX10_isBend (wB yX10_isBend cX10_isBend 2 (some .boolean)) ({ frames := 1, cells := 0, slots := 0, locals := 25 }) (va_Pc [.ref x, .int p0] (PRE D k sd (C10 k x u) sz)) (va_Qi (S := Unit) (fun r _ => r = 0) (fun uu t => PO D (va_A (C10 k x u) sz) ((fun _ => C10 k x u) uu) t) (va_A (C10 k x u) sz)) 0 0 (va_A (C10 k x u) sz) := by
  refine Met.ofW (cc := cX10_isBend) (maxL := 2) (ret := (some .boolean)) (by decide) rfl ?_
  intro p e s m args below meth c s₁ B hml hv
  obtain ⟨rfl, hsz, hP, hK, hD0, hE, hX⟩ := hv
  have hx := B.exec
  have hb := B.bytes
  have hr := B.returns
  have hw : ∀ w ∈ wsB, w.before _ s = true := fun w h => atoms_spec (ws := wB yX10_isBend cX10_isBend 2 (some .boolean)) B.pre w (List.mem_cons_of_mem _ h)
  have hown : s.vm.findClass RX10 = some m.cls := findClass_of_methodNamed B.named
  have hlocks := B.notSynchronized
  subst hsz
  have hD := hD0.self (sz := s.heap.size)
  generalize hAe : va_A (C10 k x u) s.heap.size = A at hD hX ⊢
  have hA : ∀ q : Nat, s.heap.size ≤ q → A q := fun q h => by rw [← hAe]; exact Or.inr h
  have hS : va_S A s.heap s.heap [] := va_S.rf
  have hl := lv_entry ([.ref x, .int p0]) (n := 2) (Nat.le_of_ble_eq_true rfl)
  rw [lg_entry_eq]
  generalize (lg_sl ([.ref x, .int p0]) ++ List.replicate (2 - (lg_sl ([.ref x, .int p0])).length) Slot.unset).toArray = ls at hl ⊢
  have hl : lv_has ls 2 [(0, .ref x), (1, .int p0)] := hl
  refine lv_iload_n hx hb dX10_isBend_0 rfl (lv_at hl 1 rfl) ?_
  refine lv_i2l (v := p0.toInt64) hx hb dX10_isBend_1 rfl ?_
  refine lv_lconst (v := 0) hx hb dX10_isBend_2 (by decide) ?_
  refine lv_aload_n hx hb dX10_isBend_3 rfl (lv_at hl 0 rfl) ?_
  refine va_get (D := D) (ci := 10) (v := .ref (u 1)) (C := RX10) (T := TX10) (N := 80) hx hb hw inlX10 hown hK hP 0 rfl rfl 1 (by decide) (hw _ wd_1136) (fun _ h9 => h9) rfl dX10_isBend_4 ?_
  refine lv_iconst (v := 0) hx hb dX10_isBend_7 (by decide) ?_
  refine va_iald hx hb hK hP 1 0 rfl rfl (i := 0) (by unfold vp_in; decide) dX10_isBend_8 ?_
  refine x_top (v := 0) rfl ?_
  refine lv_iconst (v := 1) hx hb dX10_isBend_9 (by decide) ?_
  refine lv_isub hx hb dX10_isBend_10 ?_
  refine x_top (v := (-1)) (by decide) ?_
  refine lv_i2l (v := (-1)) hx hb dX10_isBend_11 (by decide) ?_
  refine x_i (wr := C10 k x u) (va_runS (As := [.long p0.toInt64, .long 0, .long (-1)]) (rest := []) ⟨hx, hb, hml, hown, hw⟩ (kX10_in l D k sd p0.toInt64 s.heap.size) (cwS 3 hw (gS wd_1451 wd_1452 wd_11 wd_1453) rfl rfl rfl (by decide +kernel) ⟨Nat.le_of_ble_eq_true rfl, Nat.le_of_ble_eq_true rfl⟩) (pre_S hK hE hX hP hD hS hA [] (by decide) rfl) rfl rfl hl.1 rfl (lv_room (Nat.le_of_ble_eq_true rfl)) dX10_isBend_12 ⟨Nat.le_of_ble_eq_true rfl, Nat.le_of_ble_eq_true rfl⟩) hP hD hS hA [] [0, 1] rfl rfl (by decide) (by decide) (fun r_3 u_1 H locs hp_2 hP hD hS => ?_)
  subst hp_2
  have hP : va_P D vwCl (C10 k x u) H := hP
  have hD : va_D A (C10 k x u) := hD
  refine W.widen (k := 0) (n := 0) (Nat.le_of_ble_eq_true rfl) (Nat.le_of_ble_eq_true rfl) ?_
  have hP9 : va_P D vwCl ((fun _ => C10 k x u) ()) H := hP.sub [0, 1] rfl
  have hD9 : va_D A ((fun _ => C10 k x u) ()) := hD.sub [0, 1] (by decide) rfl
  exact W.zret (v := 0) (ty := .boolean) hx hb hr rfl (fun t ht hW => ⟨⟨0, (), rfl, rfl, by rw [ht]; exact hP9, hD9⟩, hS.F ht⟩) hS.2.2 dX10_isBend_15

set_option maxHeartbeats 4000000 in
set_option maxRecDepth 100000 in
theorem kX10_isVillage (l : Launch) (D : va_G) (k : Nat → ClassId) (sd : Nat → Nat) (x : Nat) (u : Nat → Nat) (p0 : Int32) (sz : Nat) : Met l yX10_isVillage (wB yX10_isVillage cX10_isVillage 2 (some .boolean)) ({ frames := 1, cells := 0, slots := 0, locals := 25 }) (va_Pc [.ref x, .int p0] (PRE D k sd (C10 k x u) sz)) (va_Qi (S := Unit) (fun r _ => r = 0) (fun uu t => PO D (va_A (C10 k x u) sz) ((fun _ => C10 k x u) uu) t) (va_A (C10 k x u) sz)) 0 0 (va_A (C10 k x u) sz) := by
  refine Met.ofW (cc := cX10_isVillage) (maxL := 2) (ret := (some .boolean)) (by decide) rfl ?_
  intro p e s m args below meth c s₁ B hml hv
  obtain ⟨rfl, hsz, hP, hK, hD0, hE, hX⟩ := hv
  have hx := B.exec
  have hb := B.bytes
  have hr := B.returns
  have hw : ∀ w ∈ wsB, w.before _ s = true := fun w h => atoms_spec (ws := wB yX10_isVillage cX10_isVillage 2 (some .boolean)) B.pre w (List.mem_cons_of_mem _ h)
  have hown : s.vm.findClass RX10 = some m.cls := findClass_of_methodNamed B.named
  have hlocks := B.notSynchronized
  subst hsz
  have hD := hD0.self (sz := s.heap.size)
  generalize hAe : va_A (C10 k x u) s.heap.size = A at hD hX ⊢
  have hA : ∀ q : Nat, s.heap.size ≤ q → A q := fun q h => by rw [← hAe]; exact Or.inr h
  have hS : va_S A s.heap s.heap [] := va_S.rf
  have hl := lv_entry ([.ref x, .int p0]) (n := 2) (Nat.le_of_ble_eq_true rfl)
  rw [lg_entry_eq]
  generalize (lg_sl ([.ref x, .int p0]) ++ List.replicate (2 - (lg_sl ([.ref x, .int p0])).length) Slot.unset).toArray = ls at hl ⊢
  have hl : lv_has ls 2 [(0, .ref x), (1, .int p0)] := hl
  refine lv_iload_n hx hb dX10_isVillage_0 rfl (lv_at hl 1 rfl) ?_
  refine lv_i2l (v := p0.toInt64) hx hb dX10_isVillage_1 rfl ?_
  refine lv_lconst (v := 0) hx hb dX10_isVillage_2 (by decide) ?_
  refine lv_aload_n hx hb dX10_isVillage_3 rfl (lv_at hl 0 rfl) ?_
  refine va_get (D := D) (ci := 10) (v := .ref (u 1)) (C := RX10) (T := TX10) (N := 80) hx hb hw inlX10 hown hK hP 0 rfl rfl 1 (by decide) (hw _ wd_1136) (fun _ h9 => h9) rfl dX10_isVillage_4 ?_
  refine lv_iconst (v := 1) hx hb dX10_isVillage_7 (by decide) ?_
  refine va_iald hx hb hK hP 1 0 rfl rfl (i := 1) (by unfold vp_in; decide) dX10_isVillage_8 ?_
  refine x_top (v := 0) rfl ?_
  refine lv_iconst (v := 1) hx hb dX10_isVillage_9 (by decide) ?_
  refine lv_isub hx hb dX10_isVillage_10 ?_
  refine x_top (v := (-1)) (by decide) ?_
  refine lv_i2l (v := (-1)) hx hb dX10_isVillage_11 (by decide) ?_
  refine x_i (wr := C10 k x u) (va_runS (As := [.long p0.toInt64, .long 0, .long (-1)]) (rest := []) ⟨hx, hb, hml, hown, hw⟩ (kX10_in l D k sd p0.toInt64 s.heap.size) (cwS 3 hw (gS wd_1451 wd_1452 wd_11 wd_1453) rfl rfl rfl (by decide +kernel) ⟨Nat.le_of_ble_eq_true rfl, Nat.le_of_ble_eq_true rfl⟩) (pre_S hK hE hX hP hD hS hA [] (by decide) rfl) rfl rfl hl.1 rfl (lv_room (Nat.le_of_ble_eq_true rfl)) dX10_isVillage_12 ⟨Nat.le_of_ble_eq_true rfl, Nat.le_of_ble_eq_true rfl⟩) hP hD hS hA [] [0, 1] rfl rfl (by decide) (by decide) (fun r_3 u_1 H locs hp_2 hP hD hS => ?_)
  subst hp_2
  have hP : va_P D vwCl (C10 k x u) H := hP
  have hD : va_D A (C10 k x u) := hD
  refine W.widen (k := 0) (n := 0) (Nat.le_of_ble_eq_true rfl) (Nat.le_of_ble_eq_true rfl) ?_
  have hP9 : va_P D vwCl ((fun _ => C10 k x u) ()) H := hP.sub [0, 1] rfl
  have hD9 : va_D A ((fun _ => C10 k x u) ()) := hD.sub [0, 1] (by decide) rfl
  exact W.zret (v := 0) (ty := .boolean) hx hb hr rfl (fun t ht hW => ⟨⟨0, (), rfl, rfl, by rw [ht]; exact hP9, hD9⟩, hS.F ht⟩) hS.2.2 dX10_isVillage_15

set_option maxHeartbeats 4000000 in
set_option maxRecDepth 100000 in
theorem kX10_isLog (l : Launch) (D : va_G) (k : Nat → ClassId) (sd : Nat → Nat) (x : Nat) (u : Nat → Nat) (p0 : Int32) (sz : Nat) : Met l yX10_isLog (wB yX10_isLog cX10_isLog 2 (some .boolean)) ({ frames := 1, cells := 0, slots := 0, locals := 25 }) (va_Pc [.ref x, .int p0] (PRE D k sd (C10 k x u) sz)) (va_Qi (S := Unit) (fun r _ => r = 0) (fun uu t => PO D (va_A (C10 k x u) sz) ((fun _ => C10 k x u) uu) t) (va_A (C10 k x u) sz)) 0 0 (va_A (C10 k x u) sz) := by
  refine Met.ofW (cc := cX10_isLog) (maxL := 2) (ret := (some .boolean)) (by decide) rfl ?_
  intro p e s m args below meth c s₁ B hml hv
  obtain ⟨rfl, hsz, hP, hK, hD0, hE, hX⟩ := hv
  have hx := B.exec
  have hb := B.bytes
  have hr := B.returns
  have hw : ∀ w ∈ wsB, w.before _ s = true := fun w h => atoms_spec (ws := wB yX10_isLog cX10_isLog 2 (some .boolean)) B.pre w (List.mem_cons_of_mem _ h)
  have hown : s.vm.findClass RX10 = some m.cls := findClass_of_methodNamed B.named
  have hlocks := B.notSynchronized
  subst hsz
  have hD := hD0.self (sz := s.heap.size)
  generalize hAe : va_A (C10 k x u) s.heap.size = A at hD hX ⊢
  have hA : ∀ q : Nat, s.heap.size ≤ q → A q := fun q h => by rw [← hAe]; exact Or.inr h
  have hS : va_S A s.heap s.heap [] := va_S.rf
  have hl := lv_entry ([.ref x, .int p0]) (n := 2) (Nat.le_of_ble_eq_true rfl)
  rw [lg_entry_eq]
  generalize (lg_sl ([.ref x, .int p0]) ++ List.replicate (2 - (lg_sl ([.ref x, .int p0])).length) Slot.unset).toArray = ls at hl ⊢
  have hl : lv_has ls 2 [(0, .ref x), (1, .int p0)] := hl
  refine lv_iload_n hx hb dX10_isLog_0 rfl (lv_at hl 1 rfl) ?_
  refine lv_i2l (v := p0.toInt64) hx hb dX10_isLog_1 rfl ?_
  refine lv_lconst (v := 0) hx hb dX10_isLog_2 (by decide) ?_
  refine lv_aload_n hx hb dX10_isLog_3 rfl (lv_at hl 0 rfl) ?_
  refine va_get (D := D) (ci := 10) (v := .ref (u 1)) (C := RX10) (T := TX10) (N := 80) hx hb hw inlX10 hown hK hP 0 rfl rfl 1 (by decide) (hw _ wd_1136) (fun _ h9 => h9) rfl dX10_isLog_4 ?_
  refine lv_iconst (v := 3) hx hb dX10_isLog_7 (by decide) ?_
  refine va_iald hx hb hK hP 1 0 rfl rfl (i := 3) (by unfold vp_in; decide) dX10_isLog_8 ?_
  refine x_top (v := 0) rfl ?_
  refine lv_iconst (v := 1) hx hb dX10_isLog_9 (by decide) ?_
  refine lv_isub hx hb dX10_isLog_10 ?_
  refine x_top (v := (-1)) (by decide) ?_
  refine lv_i2l (v := (-1)) hx hb dX10_isLog_11 (by decide) ?_
  refine x_i (wr := C10 k x u) (va_runS (As := [.long p0.toInt64, .long 0, .long (-1)]) (rest := []) ⟨hx, hb, hml, hown, hw⟩ (kX10_in l D k sd p0.toInt64 s.heap.size) (cwS 3 hw (gS wd_1451 wd_1452 wd_11 wd_1453) rfl rfl rfl (by decide +kernel) ⟨Nat.le_of_ble_eq_true rfl, Nat.le_of_ble_eq_true rfl⟩) (pre_S hK hE hX hP hD hS hA [] (by decide) rfl) rfl rfl hl.1 rfl (lv_room (Nat.le_of_ble_eq_true rfl)) dX10_isLog_12 ⟨Nat.le_of_ble_eq_true rfl, Nat.le_of_ble_eq_true rfl⟩) hP hD hS hA [] [0, 1] rfl rfl (by decide) (by decide) (fun r_3 u_1 H locs hp_2 hP hD hS => ?_)
  subst hp_2
  have hP : va_P D vwCl (C10 k x u) H := hP
  have hD : va_D A (C10 k x u) := hD
  refine W.widen (k := 0) (n := 0) (Nat.le_of_ble_eq_true rfl) (Nat.le_of_ble_eq_true rfl) ?_
  have hP9 : va_P D vwCl ((fun _ => C10 k x u) ()) H := hP.sub [0, 1] rfl
  have hD9 : va_D A ((fun _ => C10 k x u) ()) := hD.sub [0, 1] (by decide) rfl
  exact W.zret (v := 0) (ty := .boolean) hx hb hr rfl (fun t ht hW => ⟨⟨0, (), rfl, rfl, by rw [ht]; exact hP9, hD9⟩, hS.F ht⟩) hS.2.2 dX10_isLog_15

set_option maxHeartbeats 4000000 in
set_option maxRecDepth 100000 in
theorem kX10_mayCut (l : Launch) (D : va_G) (k : Nat → ClassId) (sd : Nat → Nat) (x : Nat) (u : Nat → Nat) (p0 : Int32) (p1 : Int32) (sz : Nat) : Met l yX10_mayCut (wB yX10_mayCut cX10_mayCut 3 (some .boolean)) ({ frames := 2, cells := 0, slots := 0, locals := 46 }) (va_Pc [.ref x, .int p0, .int p1] (PRE D k sd (C10 k x u) sz)) (va_Qi (S := Unit) (fun r _ => r = 0) (fun uu t => PO D (va_A (C10 k x u) sz) ((fun _ => C10 k x u) uu) t) (va_A (C10 k x u) sz)) 0 0 (va_A (C10 k x u) sz) := by
  refine Met.ofW (cc := cX10_mayCut) (maxL := 3) (ret := (some .boolean)) (by decide) rfl ?_
  intro p e s m args below meth c s₁ B hml hv
  obtain ⟨rfl, hsz, hP, hK, hD0, hE, hX⟩ := hv
  have hx := B.exec
  have hb := B.bytes
  have hr := B.returns
  have hw : ∀ w ∈ wsB, w.before _ s = true := fun w h => atoms_spec (ws := wB yX10_mayCut cX10_mayCut 3 (some .boolean)) B.pre w (List.mem_cons_of_mem _ h)
  have hown : s.vm.findClass RX10 = some m.cls := findClass_of_methodNamed B.named
  have hlocks := B.notSynchronized
  subst hsz
  have hD := hD0.self (sz := s.heap.size)
  generalize hAe : va_A (C10 k x u) s.heap.size = A at hD hX ⊢
  have hA : ∀ q : Nat, s.heap.size ≤ q → A q := fun q h => by rw [← hAe]; exact Or.inr h
  have hS : va_S A s.heap s.heap [] := va_S.rf
  have hl := lv_entry ([.ref x, .int p0, .int p1]) (n := 3) (Nat.le_of_ble_eq_true rfl)
  rw [lg_entry_eq]
  generalize (lg_sl ([.ref x, .int p0, .int p1]) ++ List.replicate (3 - (lg_sl ([.ref x, .int p0, .int p1])).length) Slot.unset).toArray = ls at hl ⊢
  have hl : lv_has ls 3 [(0, .ref x), (1, .int p0), (2, .int p1)] := hl
  refine lv_aload_n hx hb dX10_mayCut_0 rfl (lv_at hl 0 rfl) ?_
  refine lv_iload_n hx hb dX10_mayCut_1 rfl (lv_at hl 1 rfl) ?_
  refine x_i (wr := ([] : va_W)) (va_runV (As := [.int p0]) (rest := []) ⟨hx, hb, hml, hown, hw⟩ (kX10_isLog l D k sd x u p0 s.heap.size) (cwV 1 hw (gV wd_1679 wd_1681 wp_78 wd_11 wd_1682) rfl rfl rfl (by decide +kernel) ⟨Nat.le_of_ble_eq_true rfl, Nat.le_of_ble_eq_true rfl⟩) (pre_V (ci := 10) (r := (RX10, TX10, 80)) hK hE hX hP hD hS hA [0, 1] (by decide) rfl rfl (q0 := 0) rfl) rfl rfl hl.1 rfl (lv_room (Nat.le_of_ble_eq_true rfl)) dX10_mayCut_2 ⟨Nat.le_of_ble_eq_true rfl, Nat.le_of_ble_eq_true rfl⟩) hP hD hS hA [0, 1] [] rfl rfl (by decide) (by decide) (fun r_3 u_1 H locs hp_2 hP hD hS => ?_)
  subst hp_2
  have hP : va_P D vwCl (C10 k x u) H := hP
  have hD : va_D A (C10 k x u) := hD
  refine lv_if_eq (tgt := 48) hx hb dX10_mayCut_5 (by decide) (fun _ => ?_) (fun h => absurd (by decide) h)
  refine lv_iconst (v := 0) hx hb dX10_mayCut_48 (by decide) ?_
  refine W.widen (k := 0) (n := 0) (Nat.le_of_ble_eq_true rfl) (Nat.le_of_ble_eq_true rfl) ?_
  have hP9 : va_P D vwCl ((fun _ => C10 k x u) ()) H := hP.sub [0, 1] rfl
  have hD9 : va_D A ((fun _ => C10 k x u) ()) := hD.sub [0, 1] (by decide) rfl
  exact W.zret (v := 0) (ty := .boolean) hx hb hr rfl (fun t ht hW => ⟨⟨0, (), rfl, rfl, by rw [ht]; exact hP9, hD9⟩, hS.F ht⟩) hS.2.2 dX10_mayCut_49

set_option maxHeartbeats 4000000 in
set_option maxRecDepth 100000 in
theorem kX10_force (l : Launch) (D : va_G) (k : Nat → ClassId) (sd : Nat → Nat) (x : Nat) (u : Nat → Nat) (p0 : Int32) (sz : Nat) : Met l yX10_force (wB yX10_force cX10_force 3 (some .int)) ({ frames := 1, cells := 0, slots := 0, locals := 20 }) (va_Pc [.ref x, .int p0] (PRE D k sd (C10 k x u) sz)) (va_Qi (S := Unit) (fun r _ => r = (-2)) (fun uu t => PO D (va_A (C10 k x u) sz) ((fun _ => ([] : va_W)) uu) t) (va_A (C10 k x u) sz)) 0 0 (va_A (C10 k x u) sz) := by
  refine Met.ofW (cc := cX10_force) (maxL := 3) (ret := (some .int)) (by decide) rfl ?_
  intro p e s m args below meth c s₁ B hml hv
  obtain ⟨rfl, hsz, hP, hK, hD0, hE, hX⟩ := hv
  have hx := B.exec
  have hb := B.bytes
  have hr := B.returns
  have hw : ∀ w ∈ wsB, w.before _ s = true := fun w h => atoms_spec (ws := wB yX10_force cX10_force 3 (some .int)) B.pre w (List.mem_cons_of_mem _ h)
  have hown : s.vm.findClass RX10 = some m.cls := findClass_of_methodNamed B.named
  have hlocks := B.notSynchronized
  subst hsz
  have hD := hD0.self (sz := s.heap.size)
  generalize hAe : va_A (C10 k x u) s.heap.size = A at hD hX ⊢
  have hA : ∀ q : Nat, s.heap.size ≤ q → A q := fun q h => by rw [← hAe]; exact Or.inr h
  have hS : va_S A s.heap s.heap [] := va_S.rf
  have hl := lv_entry ([.ref x, .int p0]) (n := 3) (Nat.le_of_ble_eq_true rfl)
  rw [lg_entry_eq]
  generalize (lg_sl ([.ref x, .int p0]) ++ List.replicate (3 - (lg_sl ([.ref x, .int p0])).length) Slot.unset).toArray = ls at hl ⊢
  have hl : lv_has ls 3 [(0, .ref x), (1, .int p0)] := hl
  refine lv_aload_n hx hb dX10_force_0 rfl (lv_at hl 0 rfl) ?_
  refine x_i (wr := ([] : va_W)) (va_runV (As := []) (rest := []) ⟨hx, hb, hml, hown, hw⟩ (kX10_isRiver l D k sd x u  s.heap.size) (cwV 0 hw (gV wd_1554 wd_1556 wp_56 wd_11 wd_1557) rfl rfl rfl (by decide +kernel) ⟨Nat.le_of_ble_eq_true rfl, Nat.le_of_ble_eq_true rfl⟩) (pre_V (ci := 10) (r := (RX10, TX10, 80)) hK hE hX hP hD hS hA [0, 1] (by decide) rfl rfl (q0 := 0) rfl) rfl rfl hl.1 rfl (lv_room (Nat.le_of_ble_eq_true rfl)) dX10_force_1 ⟨Nat.le_of_ble_eq_true rfl, Nat.le_of_ble_eq_true rfl⟩) hP hD hS hA [0, 1] [] rfl rfl (by decide) (by decide) (fun r_3 u_1 H locs hp_2 hP hD hS => ?_)
  subst hp_2
  have hP : va_P D vwCl (C10 k x u) H := hP
  have hD : va_D A (C10 k x u) := hD
  refine lv_if_eq (tgt := 15) hx hb dX10_force_4 (by decide) (fun _ => ?_) (fun h => absurd (by decide) h)
  refine lv_bipush (v := (-2)) hx hb dX10_force_15 (by decide) ?_
  refine W.widen (k := 0) (n := 0) (Nat.le_of_ble_eq_true rfl) (Nat.le_of_ble_eq_true rfl) ?_
  have hP9 : va_P D vwCl ((fun _ => ([] : va_W)) ()) H := hP.sub [] rfl
  have hD9 : va_D A ((fun _ => ([] : va_W)) ()) := hD.sub [] (by decide) rfl
  exact W.iret (v := (-2)) hx hb hr (fun t ht hW => ⟨⟨(-2), (), rfl, rfl, by rw [ht]; exact hP9, hD9⟩, hS.F ht⟩) hS.2.2 dX10_force_17

set_option maxHeartbeats 4000000 in
set_option maxRecDepth 100000 in
theorem kX10_bind (l : Launch) (D : va_G) (k : Nat → ClassId) (sd : Nat → Nat) (x : Nat) (u : Nat → Nat) (p0 : Int32) (p1 : Int32) (sz : Nat) : Met l yX10_bind (wB yX10_bind cX10_bind 4 (some .int)) ({ frames := 2, cells := 0, slots := 0, locals := 46 }) (va_Pc [.ref x, .int p0, .int p1] (PRE D k sd (C10 k x u) sz)) (va_Qi (S := Unit) (fun r _ => r = (-2)) (fun uu t => PO D (va_A (C10 k x u) sz) ((fun _ => ([] : va_W)) uu) t) (va_A (C10 k x u) sz)) 0 0 (va_A (C10 k x u) sz) := by
  refine Met.ofW (cc := cX10_bind) (maxL := 4) (ret := (some .int)) (by decide) rfl ?_
  intro p e s m args below meth c s₁ B hml hv
  obtain ⟨rfl, hsz, hP, hK, hD0, hE, hX⟩ := hv
  have hx := B.exec
  have hb := B.bytes
  have hr := B.returns
  have hw : ∀ w ∈ wsB, w.before _ s = true := fun w h => atoms_spec (ws := wB yX10_bind cX10_bind 4 (some .int)) B.pre w (List.mem_cons_of_mem _ h)
  have hown : s.vm.findClass RX10 = some m.cls := findClass_of_methodNamed B.named
  have hlocks := B.notSynchronized
  subst hsz
  have hD := hD0.self (sz := s.heap.size)
  generalize hAe : va_A (C10 k x u) s.heap.size = A at hD hX ⊢
  have hA : ∀ q : Nat, s.heap.size ≤ q → A q := fun q h => by rw [← hAe]; exact Or.inr h
  have hS : va_S A s.heap s.heap [] := va_S.rf
  have hl := lv_entry ([.ref x, .int p0, .int p1]) (n := 4) (Nat.le_of_ble_eq_true rfl)
  rw [lg_entry_eq]
  generalize (lg_sl ([.ref x, .int p0, .int p1]) ++ List.replicate (4 - (lg_sl ([.ref x, .int p0, .int p1])).length) Slot.unset).toArray = ls at hl ⊢
  have hl : lv_has ls 4 [(0, .ref x), (1, .int p0), (2, .int p1)] := hl
  refine lv_aload_n hx hb dX10_bind_0 rfl (lv_at hl 0 rfl) ?_
  refine lv_iload_n hx hb dX10_bind_1 rfl (lv_at hl 1 rfl) ?_
  refine x_i (wr := ([] : va_W)) (va_runV (As := [.int p0]) (rest := []) ⟨hx, hb, hml, hown, hw⟩ (kX10_isVillage l D k sd x u p0 s.heap.size) (cwV 1 hw (gV wd_1567 wd_1569 wp_58 wd_11 wd_1570) rfl rfl rfl (by decide +kernel) ⟨Nat.le_of_ble_eq_true rfl, Nat.le_of_ble_eq_true rfl⟩) (pre_V (ci := 10) (r := (RX10, TX10, 80)) hK hE hX hP hD hS hA [0, 1] (by decide) rfl rfl (q0 := 0) rfl) rfl rfl hl.1 rfl (lv_room (Nat.le_of_ble_eq_true rfl)) dX10_bind_2 ⟨Nat.le_of_ble_eq_true rfl, Nat.le_of_ble_eq_true rfl⟩) hP hD hS hA [0, 1] [] rfl rfl (by decide) (by decide) (fun r_3 u_1 H locs hp_2 hP hD hS => ?_)
  subst hp_2
  have hP : va_P D vwCl (C10 k x u) H := hP
  have hD : va_D A (C10 k x u) := hD
  refine lv_if_eq (tgt := 16) hx hb dX10_bind_5 (by decide) (fun _ => ?_) (fun h => absurd (by decide) h)
  refine lv_bipush (v := (-2)) hx hb dX10_bind_16 (by decide) ?_
  refine W.widen (k := 0) (n := 0) (Nat.le_of_ble_eq_true rfl) (Nat.le_of_ble_eq_true rfl) ?_
  have hP9 : va_P D vwCl ((fun _ => ([] : va_W)) ()) H := hP.sub [] rfl
  have hD9 : va_D A ((fun _ => ([] : va_W)) ()) := hD.sub [] (by decide) rfl
  exact W.iret (v := (-2)) hx hb hr (fun t ht hW => ⟨⟨(-2), (), rfl, rfl, by rw [ht]; exact hP9, hD9⟩, hS.F ht⟩) hS.2.2 dX10_bind_18

set_option maxHeartbeats 4000000 in
set_option maxRecDepth 100000 in
theorem kX10_law (l : Launch) (D : va_G) (k : Nat → ClassId) (sd : Nat → Nat) (x : Nat) (u : Nat → Nat) (p0 : Int32) (p1 : Int32) (sz : Nat) : Met l yX10_law (wB yX10_law cX10_law 4 (some .int)) ({ frames := 1, cells := 0, slots := 0, locals := 20 }) (va_Pc [.ref x, .int p0, .int p1] (PRE D k sd (C10 k x u) sz)) (va_Qi (S := Unit) (fun r _ => r = (-2)) (fun uu t => PO D (va_A (C10 k x u) sz) ((fun _ => ([] : va_W)) uu) t) (va_A (C10 k x u) sz)) 0 0 (va_A (C10 k x u) sz) := by
  refine Met.ofW (cc := cX10_law) (maxL := 4) (ret := (some .int)) (by decide) rfl ?_
  intro p e s m args below meth c s₁ B hml hv
  obtain ⟨rfl, hsz, hP, hK, hD0, hE, hX⟩ := hv
  have hx := B.exec
  have hb := B.bytes
  have hr := B.returns
  have hw : ∀ w ∈ wsB, w.before _ s = true := fun w h => atoms_spec (ws := wB yX10_law cX10_law 4 (some .int)) B.pre w (List.mem_cons_of_mem _ h)
  have hown : s.vm.findClass RX10 = some m.cls := findClass_of_methodNamed B.named
  have hlocks := B.notSynchronized
  subst hsz
  have hD := hD0.self (sz := s.heap.size)
  generalize hAe : va_A (C10 k x u) s.heap.size = A at hD hX ⊢
  have hA : ∀ q : Nat, s.heap.size ≤ q → A q := fun q h => by rw [← hAe]; exact Or.inr h
  have hS : va_S A s.heap s.heap [] := va_S.rf
  have hl := lv_entry ([.ref x, .int p0, .int p1]) (n := 4) (Nat.le_of_ble_eq_true rfl)
  rw [lg_entry_eq]
  generalize (lg_sl ([.ref x, .int p0, .int p1]) ++ List.replicate (4 - (lg_sl ([.ref x, .int p0, .int p1])).length) Slot.unset).toArray = ls at hl ⊢
  have hl : lv_has ls 4 [(0, .ref x), (1, .int p0), (2, .int p1)] := hl
  refine lv_aload_n hx hb dX10_law_0 rfl (lv_at hl 0 rfl) ?_
  refine x_i (wr := ([] : va_W)) (va_runV (As := []) (rest := []) ⟨hx, hb, hml, hown, hw⟩ (kX10_isRiver l D k sd x u  s.heap.size) (cwV 0 hw (gV wd_1554 wd_1556 wp_56 wd_11 wd_1557) rfl rfl rfl (by decide +kernel) ⟨Nat.le_of_ble_eq_true rfl, Nat.le_of_ble_eq_true rfl⟩) (pre_V (ci := 10) (r := (RX10, TX10, 80)) hK hE hX hP hD hS hA [0, 1] (by decide) rfl rfl (q0 := 0) rfl) rfl rfl hl.1 rfl (lv_room (Nat.le_of_ble_eq_true rfl)) dX10_law_1 ⟨Nat.le_of_ble_eq_true rfl, Nat.le_of_ble_eq_true rfl⟩) hP hD hS hA [0, 1] [] rfl rfl (by decide) (by decide) (fun r_3 u_1 H locs hp_2 hP hD hS => ?_)
  subst hp_2
  have hP : va_P D vwCl (C10 k x u) H := hP
  have hD : va_D A (C10 k x u) := hD
  refine lv_if_eq (tgt := 40) hx hb dX10_law_4 (by decide) (fun _ => ?_) (fun h => absurd (by decide) h)
  refine lv_bipush (v := (-2)) hx hb dX10_law_40 (by decide) ?_
  refine W.widen (k := 0) (n := 0) (Nat.le_of_ble_eq_true rfl) (Nat.le_of_ble_eq_true rfl) ?_
  have hP9 : va_P D vwCl ((fun _ => ([] : va_W)) ()) H := hP.sub [] rfl
  have hD9 : va_D A ((fun _ => ([] : va_W)) ()) := hD.sub [] (by decide) rfl
  exact W.iret (v := (-2)) hx hb hr (fun t ht hW => ⟨⟨(-2), (), rfl, rfl, by rw [ht]; exact hP9, hD9⟩, hS.F ht⟩) hS.2.2 dX10_law_42

set_option maxHeartbeats 4000000 in
set_option maxRecDepth 100000 in
theorem kX10_bend (l : Launch) (D : va_G) (k : Nat → ClassId) (sd : Nat → Nat) (x : Nat) (u : Nat → Nat) (p0 : Int32) (p1 : Int32) (sz : Nat) : Met l yX10_bend (wB yX10_bend cX10_bend 3 (some .int)) ({ frames := 2, cells := 0, slots := 0, locals := 46 }) (va_Pc [.ref x, .int p0, .int p1] (PRE D k sd (C10 k x u) sz)) (va_Qi (S := Unit) (fun r _ => r = (-1)) (fun uu t => PO D (va_A (C10 k x u) sz) ((fun _ => ([] : va_W)) uu) t) (va_A (C10 k x u) sz)) 0 0 (va_A (C10 k x u) sz) := by
  refine Met.ofW (cc := cX10_bend) (maxL := 3) (ret := (some .int)) (by decide) rfl ?_
  intro p e s m args below meth c s₁ B hml hv
  obtain ⟨rfl, hsz, hP, hK, hD0, hE, hX⟩ := hv
  have hx := B.exec
  have hb := B.bytes
  have hr := B.returns
  have hw : ∀ w ∈ wsB, w.before _ s = true := fun w h => atoms_spec (ws := wB yX10_bend cX10_bend 3 (some .int)) B.pre w (List.mem_cons_of_mem _ h)
  have hown : s.vm.findClass RX10 = some m.cls := findClass_of_methodNamed B.named
  have hlocks := B.notSynchronized
  subst hsz
  have hD := hD0.self (sz := s.heap.size)
  generalize hAe : va_A (C10 k x u) s.heap.size = A at hD hX ⊢
  have hA : ∀ q : Nat, s.heap.size ≤ q → A q := fun q h => by rw [← hAe]; exact Or.inr h
  have hS : va_S A s.heap s.heap [] := va_S.rf
  have hl := lv_entry ([.ref x, .int p0, .int p1]) (n := 3) (Nat.le_of_ble_eq_true rfl)
  rw [lg_entry_eq]
  generalize (lg_sl ([.ref x, .int p0, .int p1]) ++ List.replicate (3 - (lg_sl ([.ref x, .int p0, .int p1])).length) Slot.unset).toArray = ls at hl ⊢
  have hl : lv_has ls 3 [(0, .ref x), (1, .int p0), (2, .int p1)] := hl
  refine lv_aload_n hx hb dX10_bend_0 rfl (lv_at hl 0 rfl) ?_
  refine lv_iload_n hx hb dX10_bend_1 rfl (lv_at hl 1 rfl) ?_
  refine x_i (wr := ([] : va_W)) (va_runV (As := [.int p0]) (rest := []) ⟨hx, hb, hml, hown, hw⟩ (kX10_isBend l D k sd x u p0 s.heap.size) (cwV 1 hw (gV wd_1580 wd_1582 wp_59 wd_11 wd_1583) rfl rfl rfl (by decide +kernel) ⟨Nat.le_of_ble_eq_true rfl, Nat.le_of_ble_eq_true rfl⟩) (pre_V (ci := 10) (r := (RX10, TX10, 80)) hK hE hX hP hD hS hA [0, 1] (by decide) rfl rfl (q0 := 0) rfl) rfl rfl hl.1 rfl (lv_room (Nat.le_of_ble_eq_true rfl)) dX10_bend_2 ⟨Nat.le_of_ble_eq_true rfl, Nat.le_of_ble_eq_true rfl⟩) hP hD hS hA [0, 1] [] rfl rfl (by decide) (by decide) (fun r_3 u_1 H locs hp_2 hP hD hS => ?_)
  subst hp_2
  have hP : va_P D vwCl (C10 k x u) H := hP
  have hD : va_D A (C10 k x u) := hD
  refine lv_if_ne (tgt := 10) hx hb dX10_bend_5 (by decide) (fun h => absurd (by decide) h) (fun _ => ?_)
  refine lv_iconst (v := (-1)) hx hb dX10_bend_8 (by decide) ?_
  refine W.widen (k := 0) (n := 0) (Nat.le_of_ble_eq_true rfl) (Nat.le_of_ble_eq_true rfl) ?_
  have hP9 : va_P D vwCl ((fun _ => ([] : va_W)) ()) H := hP.sub [] rfl
  have hD9 : va_D A ((fun _ => ([] : va_W)) ()) := hD.sub [] (by decide) rfl
  exact W.iret (v := (-1)) hx hb hr (fun t ht hW => ⟨⟨(-1), (), rfl, rfl, by rw [ht]; exact hP9, hD9⟩, hS.F ht⟩) hS.2.2 dX10_bend_9

set_option maxHeartbeats 4000000 in
set_option maxRecDepth 100000 in
theorem kX10_village (l : Launch) (D : va_G) (k : Nat → ClassId) (sd : Nat → Nat) (x : Nat) (u : Nat → Nat) (p0 : Int32) (p1 : Int32) (sz : Nat) : Met l yX10_village (wB yX10_village cX10_village 3 (some .int)) ({ frames := 2, cells := 0, slots := 0, locals := 46 }) (va_Pc [.ref x, .int p0, .int p1] (PRE D k sd (C10 k x u) sz)) (va_Qi (S := Unit) (fun r _ => r = (-1000000)) (fun uu t => PO D (va_A (C10 k x u) sz) ((fun _ => ([] : va_W)) uu) t) (va_A (C10 k x u) sz)) 0 0 (va_A (C10 k x u) sz) := by
  refine Met.ofW (cc := cX10_village) (maxL := 3) (ret := (some .int)) (by decide) rfl ?_
  intro p e s m args below meth c s₁ B hml hv
  obtain ⟨rfl, hsz, hP, hK, hD0, hE, hX⟩ := hv
  have hx := B.exec
  have hb := B.bytes
  have hr := B.returns
  have hw : ∀ w ∈ wsB, w.before _ s = true := fun w h => atoms_spec (ws := wB yX10_village cX10_village 3 (some .int)) B.pre w (List.mem_cons_of_mem _ h)
  have hown : s.vm.findClass RX10 = some m.cls := findClass_of_methodNamed B.named
  have hlocks := B.notSynchronized
  subst hsz
  have hD := hD0.self (sz := s.heap.size)
  generalize hAe : va_A (C10 k x u) s.heap.size = A at hD hX ⊢
  have hA : ∀ q : Nat, s.heap.size ≤ q → A q := fun q h => by rw [← hAe]; exact Or.inr h
  have hS : va_S A s.heap s.heap [] := va_S.rf
  have hl := lv_entry ([.ref x, .int p0, .int p1]) (n := 3) (Nat.le_of_ble_eq_true rfl)
  rw [lg_entry_eq]
  generalize (lg_sl ([.ref x, .int p0, .int p1]) ++ List.replicate (3 - (lg_sl ([.ref x, .int p0, .int p1])).length) Slot.unset).toArray = ls at hl ⊢
  have hl : lv_has ls 3 [(0, .ref x), (1, .int p0), (2, .int p1)] := hl
  refine lv_aload_n hx hb dX10_village_0 rfl (lv_at hl 0 rfl) ?_
  refine lv_iload_n hx hb dX10_village_1 rfl (lv_at hl 1 rfl) ?_
  refine x_i (wr := ([] : va_W)) (va_runV (As := [.int p0]) (rest := []) ⟨hx, hb, hml, hown, hw⟩ (kX10_isVillage l D k sd x u p0 s.heap.size) (cwV 1 hw (gV wd_1567 wd_1569 wp_58 wd_11 wd_1570) rfl rfl rfl (by decide +kernel) ⟨Nat.le_of_ble_eq_true rfl, Nat.le_of_ble_eq_true rfl⟩) (pre_V (ci := 10) (r := (RX10, TX10, 80)) hK hE hX hP hD hS hA [0, 1] (by decide) rfl rfl (q0 := 0) rfl) rfl rfl hl.1 rfl (lv_room (Nat.le_of_ble_eq_true rfl)) dX10_village_2 ⟨Nat.le_of_ble_eq_true rfl, Nat.le_of_ble_eq_true rfl⟩) hP hD hS hA [0, 1] [] rfl rfl (by decide) (by decide) (fun r_3 u_1 H locs hp_2 hP hD hS => ?_)
  subst hp_2
  have hP : va_P D vwCl (C10 k x u) H := hP
  have hD : va_D A (C10 k x u) := hD
  refine lv_if_ne (tgt := 12) hx hb dX10_village_5 (by decide) (fun h => absurd (by decide) h) (fun _ => ?_)
  refine lv_ldcw (v := (-1000000)) hx hb hown (hw _ wd_1599) dX10_village_8 ?_
  refine W.widen (k := 0) (n := 0) (Nat.le_of_ble_eq_true rfl) (Nat.le_of_ble_eq_true rfl) ?_
  have hP9 : va_P D vwCl ((fun _ => ([] : va_W)) ()) H := hP.sub [] rfl
  have hD9 : va_D A ((fun _ => ([] : va_W)) ()) := hD.sub [] (by decide) rfl
  exact W.iret (v := (-1000000)) hx hb hr (fun t ht hW => ⟨⟨(-1000000), (), rfl, rfl, by rw [ht]; exact hP9, hD9⟩, hS.F ht⟩) hS.2.2 dX10_village_11

set_option maxHeartbeats 4000000 in
set_option maxRecDepth 100000 in
theorem kX10_log (l : Launch) (D : va_G) (k : Nat → ClassId) (sd : Nat → Nat) (x : Nat) (u : Nat → Nat) (p0 : Int32) (p1 : Int32) (sz : Nat) : Met l yX10_log (wB yX10_log cX10_log 3 (some .int)) ({ frames := 2, cells := 0, slots := 0, locals := 46 }) (va_Pc [.ref x, .int p0, .int p1] (PRE D k sd (C10 k x u) sz)) (va_Qi (S := Unit) (fun r _ => r = (-2)) (fun uu t => PO D (va_A (C10 k x u) sz) ((fun _ => ([] : va_W)) uu) t) (va_A (C10 k x u) sz)) 0 0 (va_A (C10 k x u) sz) := by
  refine Met.ofW (cc := cX10_log) (maxL := 3) (ret := (some .int)) (by decide) rfl ?_
  intro p e s m args below meth c s₁ B hml hv
  obtain ⟨rfl, hsz, hP, hK, hD0, hE, hX⟩ := hv
  have hx := B.exec
  have hb := B.bytes
  have hr := B.returns
  have hw : ∀ w ∈ wsB, w.before _ s = true := fun w h => atoms_spec (ws := wB yX10_log cX10_log 3 (some .int)) B.pre w (List.mem_cons_of_mem _ h)
  have hown : s.vm.findClass RX10 = some m.cls := findClass_of_methodNamed B.named
  have hlocks := B.notSynchronized
  subst hsz
  have hD := hD0.self (sz := s.heap.size)
  generalize hAe : va_A (C10 k x u) s.heap.size = A at hD hX ⊢
  have hA : ∀ q : Nat, s.heap.size ≤ q → A q := fun q h => by rw [← hAe]; exact Or.inr h
  have hS : va_S A s.heap s.heap [] := va_S.rf
  have hl := lv_entry ([.ref x, .int p0, .int p1]) (n := 3) (Nat.le_of_ble_eq_true rfl)
  rw [lg_entry_eq]
  generalize (lg_sl ([.ref x, .int p0, .int p1]) ++ List.replicate (3 - (lg_sl ([.ref x, .int p0, .int p1])).length) Slot.unset).toArray = ls at hl ⊢
  have hl : lv_has ls 3 [(0, .ref x), (1, .int p0), (2, .int p1)] := hl
  refine lv_aload_n hx hb dX10_log_0 rfl (lv_at hl 0 rfl) ?_
  refine lv_iload_n hx hb dX10_log_1 rfl (lv_at hl 1 rfl) ?_
  refine x_i (wr := ([] : va_W)) (va_runV (As := [.int p0]) (rest := []) ⟨hx, hb, hml, hown, hw⟩ (kX10_isLog l D k sd x u p0 s.heap.size) (cwV 1 hw (gV wd_1679 wd_1681 wp_78 wd_11 wd_1682) rfl rfl rfl (by decide +kernel) ⟨Nat.le_of_ble_eq_true rfl, Nat.le_of_ble_eq_true rfl⟩) (pre_V (ci := 10) (r := (RX10, TX10, 80)) hK hE hX hP hD hS hA [0, 1] (by decide) rfl rfl (q0 := 0) rfl) rfl rfl hl.1 rfl (lv_room (Nat.le_of_ble_eq_true rfl)) dX10_log_2 ⟨Nat.le_of_ble_eq_true rfl, Nat.le_of_ble_eq_true rfl⟩) hP hD hS hA [0, 1] [] rfl rfl (by decide) (by decide) (fun r_3 u_1 H locs hp_2 hP hD hS => ?_)
  subst hp_2
  have hP : va_P D vwCl (C10 k x u) H := hP
  have hD : va_D A (C10 k x u) := hD
  refine lv_if_ne (tgt := 11) hx hb dX10_log_5 (by decide) (fun h => absurd (by decide) h) (fun _ => ?_)
  refine lv_bipush (v := (-2)) hx hb dX10_log_8 (by decide) ?_
  refine W.widen (k := 0) (n := 0) (Nat.le_of_ble_eq_true rfl) (Nat.le_of_ble_eq_true rfl) ?_
  have hP9 : va_P D vwCl ((fun _ => ([] : va_W)) ()) H := hP.sub [] rfl
  have hD9 : va_D A ((fun _ => ([] : va_W)) ()) := hD.sub [] (by decide) rfl
  exact W.iret (v := (-2)) hx hb hr (fun t ht hW => ⟨⟨(-2), (), rfl, rfl, by rw [ht]; exact hP9, hD9⟩, hS.F ht⟩) hS.2.2 dX10_log_10

set_option maxHeartbeats 4000000 in
set_option maxRecDepth 100000 in
theorem kX10_notch (l : Launch) (D : va_G) (k : Nat → ClassId) (sd : Nat → Nat) (x : Nat) (u : Nat → Nat) (p0 : Int32) (p1 : Int32) (sz : Nat) : Met l yX10_notch (wB yX10_notch cX10_notch 3 (some .int)) ({ frames := 2, cells := 0, slots := 0, locals := 46 }) (va_Pc [.ref x, .int p0, .int p1] (PRE D k sd (C10 k x u) sz)) (va_Qi (S := Unit) (fun r _ => r = (-2)) (fun uu t => PO D (va_A (C10 k x u) sz) ((fun _ => ([] : va_W)) uu) t) (va_A (C10 k x u) sz)) 0 0 (va_A (C10 k x u) sz) := by
  refine Met.ofW (cc := cX10_notch) (maxL := 3) (ret := (some .int)) (by decide) rfl ?_
  intro p e s m args below meth c s₁ B hml hv
  obtain ⟨rfl, hsz, hP, hK, hD0, hE, hX⟩ := hv
  have hx := B.exec
  have hb := B.bytes
  have hr := B.returns
  have hw : ∀ w ∈ wsB, w.before _ s = true := fun w h => atoms_spec (ws := wB yX10_notch cX10_notch 3 (some .int)) B.pre w (List.mem_cons_of_mem _ h)
  have hown : s.vm.findClass RX10 = some m.cls := findClass_of_methodNamed B.named
  have hlocks := B.notSynchronized
  subst hsz
  have hD := hD0.self (sz := s.heap.size)
  generalize hAe : va_A (C10 k x u) s.heap.size = A at hD hX ⊢
  have hA : ∀ q : Nat, s.heap.size ≤ q → A q := fun q h => by rw [← hAe]; exact Or.inr h
  have hS : va_S A s.heap s.heap [] := va_S.rf
  have hl := lv_entry ([.ref x, .int p0, .int p1]) (n := 3) (Nat.le_of_ble_eq_true rfl)
  rw [lg_entry_eq]
  generalize (lg_sl ([.ref x, .int p0, .int p1]) ++ List.replicate (3 - (lg_sl ([.ref x, .int p0, .int p1])).length) Slot.unset).toArray = ls at hl ⊢
  have hl : lv_has ls 3 [(0, .ref x), (1, .int p0), (2, .int p1)] := hl
  refine lv_aload_n hx hb dX10_notch_0 rfl (lv_at hl 0 rfl) ?_
  refine lv_iload_n hx hb dX10_notch_1 rfl (lv_at hl 1 rfl) ?_
  refine x_i (wr := ([] : va_W)) (va_runV (As := [.int p0]) (rest := []) ⟨hx, hb, hml, hown, hw⟩ (kX10_isLog l D k sd x u p0 s.heap.size) (cwV 1 hw (gV wd_1679 wd_1681 wp_78 wd_11 wd_1682) rfl rfl rfl (by decide +kernel) ⟨Nat.le_of_ble_eq_true rfl, Nat.le_of_ble_eq_true rfl⟩) (pre_V (ci := 10) (r := (RX10, TX10, 80)) hK hE hX hP hD hS hA [0, 1] (by decide) rfl rfl (q0 := 0) rfl) rfl rfl hl.1 rfl (lv_room (Nat.le_of_ble_eq_true rfl)) dX10_notch_2 ⟨Nat.le_of_ble_eq_true rfl, Nat.le_of_ble_eq_true rfl⟩) hP hD hS hA [0, 1] [] rfl rfl (by decide) (by decide) (fun r_3 u_1 H locs hp_2 hP hD hS => ?_)
  subst hp_2
  have hP : va_P D vwCl (C10 k x u) H := hP
  have hD : va_D A (C10 k x u) := hD
  refine lv_if_ne (tgt := 11) hx hb dX10_notch_5 (by decide) (fun h => absurd (by decide) h) (fun _ => ?_)
  refine lv_bipush (v := (-2)) hx hb dX10_notch_8 (by decide) ?_
  refine W.widen (k := 0) (n := 0) (Nat.le_of_ble_eq_true rfl) (Nat.le_of_ble_eq_true rfl) ?_
  have hP9 : va_P D vwCl ((fun _ => ([] : va_W)) ()) H := hP.sub [] rfl
  have hD9 : va_D A ((fun _ => ([] : va_W)) ()) := hD.sub [] (by decide) rfl
  exact W.iret (v := (-2)) hx hb hr (fun t ht hW => ⟨⟨(-2), (), rfl, rfl, by rw [ht]; exact hP9, hD9⟩, hS.F ht⟩) hS.2.2 dX10_notch_10

set_option maxHeartbeats 4000000 in
set_option maxRecDepth 100000 in
theorem kX10_cut (l : Launch) (D : va_G) (k : Nat → ClassId) (sd : Nat → Nat) (x : Nat) (u : Nat → Nat) (p0 : Int32) (p1 : Int32) (sz : Nat) : Met l yX10_cut (wB yX10_cut cX10_cut 3 (some .int)) ({ frames := 3, cells := 0, slots := 0, locals := 68 }) (va_Pc [.ref x, .int p0, .int p1] (PRE D k sd (C10 k x u) sz)) (va_Qi (S := Unit) (fun r _ => r = (-2)) (fun uu t => PO D (va_A (C10 k x u) sz) ((fun _ => ([] : va_W)) uu) t) (va_A (C10 k x u) sz)) 0 0 (va_A (C10 k x u) sz) := by
  refine Met.ofW (cc := cX10_cut) (maxL := 3) (ret := (some .int)) (by decide) rfl ?_
  intro p e s m args below meth c s₁ B hml hv
  obtain ⟨rfl, hsz, hP, hK, hD0, hE, hX⟩ := hv
  have hx := B.exec
  have hb := B.bytes
  have hr := B.returns
  have hw : ∀ w ∈ wsB, w.before _ s = true := fun w h => atoms_spec (ws := wB yX10_cut cX10_cut 3 (some .int)) B.pre w (List.mem_cons_of_mem _ h)
  have hown : s.vm.findClass RX10 = some m.cls := findClass_of_methodNamed B.named
  have hlocks := B.notSynchronized
  subst hsz
  have hD := hD0.self (sz := s.heap.size)
  generalize hAe : va_A (C10 k x u) s.heap.size = A at hD hX ⊢
  have hA : ∀ q : Nat, s.heap.size ≤ q → A q := fun q h => by rw [← hAe]; exact Or.inr h
  have hS : va_S A s.heap s.heap [] := va_S.rf
  have hl := lv_entry ([.ref x, .int p0, .int p1]) (n := 3) (Nat.le_of_ble_eq_true rfl)
  rw [lg_entry_eq]
  generalize (lg_sl ([.ref x, .int p0, .int p1]) ++ List.replicate (3 - (lg_sl ([.ref x, .int p0, .int p1])).length) Slot.unset).toArray = ls at hl ⊢
  have hl : lv_has ls 3 [(0, .ref x), (1, .int p0), (2, .int p1)] := hl
  refine lv_aload_n hx hb dX10_cut_0 rfl (lv_at hl 0 rfl) ?_
  refine lv_iload_n hx hb dX10_cut_1 rfl (lv_at hl 1 rfl) ?_
  refine lv_iload_n hx hb dX10_cut_2 rfl (lv_at hl 2 rfl) ?_
  refine x_i (wr := ([] : va_W)) (va_runV (As := [.int p0, .int p1]) (rest := []) ⟨hx, hb, hml, hown, hw⟩ (kX10_mayCut l D k sd x u p0 p1 s.heap.size) (cwV 2 hw (gV wd_1699 wd_1701 wp_81 wd_11 wd_1702) rfl rfl rfl (by decide +kernel) ⟨Nat.le_of_ble_eq_true rfl, Nat.le_of_ble_eq_true rfl⟩) (pre_V (ci := 10) (r := (RX10, TX10, 80)) hK hE hX hP hD hS hA [0, 1] (by decide) rfl rfl (q0 := 0) rfl) rfl rfl hl.1 rfl (lv_room (Nat.le_of_ble_eq_true rfl)) dX10_cut_3 ⟨Nat.le_of_ble_eq_true rfl, Nat.le_of_ble_eq_true rfl⟩) hP hD hS hA [0, 1] [] rfl rfl (by decide) (by decide) (fun r_3 u_1 H locs hp_2 hP hD hS => ?_)
  subst hp_2
  have hP : va_P D vwCl (C10 k x u) H := hP
  have hD : va_D A (C10 k x u) := hD
  refine lv_if_eq (tgt := 20) hx hb dX10_cut_6 (by decide) (fun _ => ?_) (fun h => absurd (by decide) h)
  refine lv_bipush (v := (-2)) hx hb dX10_cut_20 (by decide) ?_
  refine W.widen (k := 0) (n := 0) (Nat.le_of_ble_eq_true rfl) (Nat.le_of_ble_eq_true rfl) ?_
  have hP9 : va_P D vwCl ((fun _ => ([] : va_W)) ()) H := hP.sub [] rfl
  have hD9 : va_D A ((fun _ => ([] : va_W)) ()) := hD.sub [] (by decide) rfl
  exact W.iret (v := (-2)) hx hb hr (fun t ht hW => ⟨⟨(-2), (), rfl, rfl, by rw [ht]; exact hP9, hD9⟩, hS.F ht⟩) hS.2.2 dX10_cut_22

set_option maxHeartbeats 4000000 in
set_option maxRecDepth 100000 in
theorem kX10_cutOver (l : Launch) (D : va_G) (k : Nat → ClassId) (sd : Nat → Nat) (x : Nat) (u : Nat → Nat) (p0 : Int32) (p1 : Int32) (p2 : Int32) (sz : Nat) : Met l yX10_cutOver (wB yX10_cutOver cX10_cutOver 5 (some .int)) ({ frames := 3, cells := 0, slots := 0, locals := 68 }) (va_Pc [.ref x, .int p0, .int p1, .int p2] (PRE D k sd (C10 k x u) sz)) (va_Qi (S := Unit) (fun r _ => r = (-2)) (fun uu t => PO D (va_A (C10 k x u) sz) ((fun _ => ([] : va_W)) uu) t) (va_A (C10 k x u) sz)) 0 0 (va_A (C10 k x u) sz) := by
  refine Met.ofW (cc := cX10_cutOver) (maxL := 5) (ret := (some .int)) (by decide) rfl ?_
  intro p e s m args below meth c s₁ B hml hv
  obtain ⟨rfl, hsz, hP, hK, hD0, hE, hX⟩ := hv
  have hx := B.exec
  have hb := B.bytes
  have hr := B.returns
  have hw : ∀ w ∈ wsB, w.before _ s = true := fun w h => atoms_spec (ws := wB yX10_cutOver cX10_cutOver 5 (some .int)) B.pre w (List.mem_cons_of_mem _ h)
  have hown : s.vm.findClass RX10 = some m.cls := findClass_of_methodNamed B.named
  have hlocks := B.notSynchronized
  subst hsz
  have hD := hD0.self (sz := s.heap.size)
  generalize hAe : va_A (C10 k x u) s.heap.size = A at hD hX ⊢
  have hA : ∀ q : Nat, s.heap.size ≤ q → A q := fun q h => by rw [← hAe]; exact Or.inr h
  have hS : va_S A s.heap s.heap [] := va_S.rf
  have hl := lv_entry ([.ref x, .int p0, .int p1, .int p2]) (n := 5) (Nat.le_of_ble_eq_true rfl)
  rw [lg_entry_eq]
  generalize (lg_sl ([.ref x, .int p0, .int p1, .int p2]) ++ List.replicate (5 - (lg_sl ([.ref x, .int p0, .int p1, .int p2])).length) Slot.unset).toArray = ls at hl ⊢
  have hl : lv_has ls 5 [(0, .ref x), (1, .int p0), (2, .int p1), (3, .int p2)] := hl
  refine lv_aload_n hx hb dX10_cutOver_0 rfl (lv_at hl 0 rfl) ?_
  refine lv_iload_n hx hb dX10_cutOver_1 rfl (lv_at hl 1 rfl) ?_
  refine lv_iload_n hx hb dX10_cutOver_2 rfl (lv_at hl 3 rfl) ?_
  refine x_i (wr := ([] : va_W)) (va_runV (As := [.int p0, .int p2]) (rest := []) ⟨hx, hb, hml, hown, hw⟩ (kX10_mayCut l D k sd x u p0 p2 s.heap.size) (cwV 2 hw (gV wd_1699 wd_1701 wp_81 wd_11 wd_1702) rfl rfl rfl (by decide +kernel) ⟨Nat.le_of_ble_eq_true rfl, Nat.le_of_ble_eq_true rfl⟩) (pre_V (ci := 10) (r := (RX10, TX10, 80)) hK hE hX hP hD hS hA [0, 1] (by decide) rfl rfl (q0 := 0) rfl) rfl rfl hl.1 rfl (lv_room (Nat.le_of_ble_eq_true rfl)) dX10_cutOver_3 ⟨Nat.le_of_ble_eq_true rfl, Nat.le_of_ble_eq_true rfl⟩) hP hD hS hA [0, 1] [] rfl rfl (by decide) (by decide) (fun r_3 u_1 H locs hp_2 hP hD hS => ?_)
  subst hp_2
  have hP : va_P D vwCl (C10 k x u) H := hP
  have hD : va_D A (C10 k x u) := hD
  refine lv_if_eq (tgt := 42) hx hb dX10_cutOver_6 (by decide) (fun _ => ?_) (fun h => absurd (by decide) h)
  refine lv_bipush (v := (-2)) hx hb dX10_cutOver_42 (by decide) ?_
  refine W.widen (k := 0) (n := 0) (Nat.le_of_ble_eq_true rfl) (Nat.le_of_ble_eq_true rfl) ?_
  have hP9 : va_P D vwCl ((fun _ => ([] : va_W)) ()) H := hP.sub [] rfl
  have hD9 : va_D A ((fun _ => ([] : va_W)) ()) := hD.sub [] (by decide) rfl
  exact W.iret (v := (-2)) hx hb hr (fun t ht hW => ⟨⟨(-2), (), rfl, rfl, by rw [ht]; exact hP9, hD9⟩, hS.F ht⟩) hS.2.2 dX10_cutOver_44

set_option maxHeartbeats 4000000 in
set_option maxRecDepth 100000 in
theorem kX10_undo (l : Launch) (D : va_G) (k : Nat → ClassId) (sd : Nat → Nat) (x : Nat) (u : Nat → Nat) (sz : Nat) : Met l yX10_undo (wB yX10_undo cX10_undo 5 (some .int)) ({ frames := 0, cells := 0, slots := 0, locals := 0 }) (va_Pc [.ref x] (PRE D k sd (C10 k x u) sz)) (va_Qi (S := Unit) (fun r _ => r = (-2)) (fun uu t => PO D (va_A (C10 k x u) sz) ((fun _ => ([] : va_W)) uu) t) (va_A (C10 k x u) sz)) 0 0 (va_A (C10 k x u) sz) := by
  refine Met.ofW (cc := cX10_undo) (maxL := 5) (ret := (some .int)) (by decide) rfl ?_
  intro p e s m args below meth c s₁ B hml hv
  obtain ⟨rfl, hsz, hP, hK, hD0, hE, hX⟩ := hv
  have hx := B.exec
  have hb := B.bytes
  have hr := B.returns
  have hw : ∀ w ∈ wsB, w.before _ s = true := fun w h => atoms_spec (ws := wB yX10_undo cX10_undo 5 (some .int)) B.pre w (List.mem_cons_of_mem _ h)
  have hown : s.vm.findClass RX10 = some m.cls := findClass_of_methodNamed B.named
  have hlocks := B.notSynchronized
  subst hsz
  have hD := hD0.self (sz := s.heap.size)
  generalize hAe : va_A (C10 k x u) s.heap.size = A at hD hX ⊢
  have hA : ∀ q : Nat, s.heap.size ≤ q → A q := fun q h => by rw [← hAe]; exact Or.inr h
  have hS : va_S A s.heap s.heap [] := va_S.rf
  have hl := lv_entry ([.ref x]) (n := 5) (Nat.le_of_ble_eq_true rfl)
  rw [lg_entry_eq]
  generalize (lg_sl ([.ref x]) ++ List.replicate (5 - (lg_sl ([.ref x])).length) Slot.unset).toArray = ls at hl ⊢
  have hl : lv_has ls 5 [(0, .ref x)] := hl
  refine lv_aload_n hx hb dX10_undo_0 rfl (lv_at hl 0 rfl) ?_
  refine va_get (D := D) (ci := 10) (v := .ref (u 1)) (C := RX10) (T := TX10) (N := 80) hx hb hw inlX10 hown hK hP 0 rfl rfl 1 (by decide) (hw _ wd_1136) (fun _ h9 => h9) rfl dX10_undo_1 ?_
  refine lv_bipush (v := 12) hx hb dX10_undo_4 (by decide) ?_
  refine va_iald hx hb hK hP 1 0 rfl rfl (i := 12) (by unfold vp_in; decide) dX10_undo_6 ?_
  refine x_top (v := 0) rfl ?_
  refine lv_iconst (v := 1) hx hb dX10_undo_7 (by decide) ?_
  refine lv_isub hx hb dX10_undo_8 ?_
  refine x_top (v := (-1)) (by decide) ?_
  refine lv_istore_n (lv' := [(1, .int (-1)), (0, .ref x)]) hx hb dX10_undo_9 rfl hl (by decide) rfl (fun ls hl => ?_)
  refine lv_iload_n hx hb dX10_undo_10 rfl (lv_at hl 0 rfl) ?_
  refine lv_if_ge (tgt := 17) hx hb dX10_undo_11 (by decide) (fun h => absurd h (by decide)) (fun _ => ?_)
  refine lv_bipush (v := (-2)) hx hb dX10_undo_14 (by decide) ?_
  refine W.widen (k := 0) (n := 0) (Nat.le_of_ble_eq_true rfl) (Nat.le_of_ble_eq_true rfl) ?_
  have hP9 : va_P D vwCl ((fun _ => ([] : va_W)) ()) s.heap := hP.sub [] rfl
  have hD9 : va_D A ((fun _ => ([] : va_W)) ()) := hD.sub [] (by decide) rfl
  exact W.iret (v := (-2)) hx hb hr (fun t ht hW => ⟨⟨(-2), (), rfl, rfl, by rw [ht]; exact hP9, hD9⟩, hS.F ht⟩) hS.2.2 dX10_undo_16

set_option maxHeartbeats 4000000 in
set_option maxRecDepth 100000 in
theorem kX10_launch (l : Launch) (D : va_G) (k : Nat → ClassId) (sd : Nat → Nat) (x : Nat) (u : Nat → Nat) (p0 : Int32) (sz : Nat) : Met l yX10_launch (wB yX10_launch cX10_launch 2 (some .int)) ({ frames := 2, cells := 0, slots := 0, locals := 46 }) (va_Pc [.ref x, .int p0] (PRE D k sd (C10 k x u) sz)) (va_Qi (S := Unit) (fun r _ => r = (-2)) (fun uu t => PO D (va_A (C10 k x u) sz) ((fun _ => ([] : va_W)) uu) t) (va_A (C10 k x u) sz)) 0 0 (va_A (C10 k x u) sz) := by
  refine Met.ofW (cc := cX10_launch) (maxL := 2) (ret := (some .int)) (by decide) rfl ?_
  intro p e s m args below meth c s₁ B hml hv
  obtain ⟨rfl, hsz, hP, hK, hD0, hE, hX⟩ := hv
  have hx := B.exec
  have hb := B.bytes
  have hr := B.returns
  have hw : ∀ w ∈ wsB, w.before _ s = true := fun w h => atoms_spec (ws := wB yX10_launch cX10_launch 2 (some .int)) B.pre w (List.mem_cons_of_mem _ h)
  have hown : s.vm.findClass RX10 = some m.cls := findClass_of_methodNamed B.named
  have hlocks := B.notSynchronized
  subst hsz
  have hD := hD0.self (sz := s.heap.size)
  generalize hAe : va_A (C10 k x u) s.heap.size = A at hD hX ⊢
  have hA : ∀ q : Nat, s.heap.size ≤ q → A q := fun q h => by rw [← hAe]; exact Or.inr h
  have hS : va_S A s.heap s.heap [] := va_S.rf
  have hl := lv_entry ([.ref x, .int p0]) (n := 2) (Nat.le_of_ble_eq_true rfl)
  rw [lg_entry_eq]
  generalize (lg_sl ([.ref x, .int p0]) ++ List.replicate (2 - (lg_sl ([.ref x, .int p0])).length) Slot.unset).toArray = ls at hl ⊢
  have hl : lv_has ls 2 [(0, .ref x), (1, .int p0)] := hl
  refine lv_aload_n hx hb dX10_launch_0 rfl (lv_at hl 0 rfl) ?_
  refine lv_iload_n hx hb dX10_launch_1 rfl (lv_at hl 1 rfl) ?_
  refine x_i (wr := ([] : va_W)) (va_runV (As := [.int p0]) (rest := []) ⟨hx, hb, hml, hown, hw⟩ (kX10_isLog l D k sd x u p0 s.heap.size) (cwV 1 hw (gV wd_1679 wd_1681 wp_78 wd_11 wd_1682) rfl rfl rfl (by decide +kernel) ⟨Nat.le_of_ble_eq_true rfl, Nat.le_of_ble_eq_true rfl⟩) (pre_V (ci := 10) (r := (RX10, TX10, 80)) hK hE hX hP hD hS hA [0, 1] (by decide) rfl rfl (q0 := 0) rfl) rfl rfl hl.1 rfl (lv_room (Nat.le_of_ble_eq_true rfl)) dX10_launch_2 ⟨Nat.le_of_ble_eq_true rfl, Nat.le_of_ble_eq_true rfl⟩) hP hD hS hA [0, 1] [] rfl rfl (by decide) (by decide) (fun r_3 u_1 H locs hp_2 hP hD hS => ?_)
  subst hp_2
  have hP : va_P D vwCl (C10 k x u) H := hP
  have hD : va_D A (C10 k x u) := hD
  refine lv_if_eq (tgt := 28) hx hb dX10_launch_5 (by decide) (fun _ => ?_) (fun h => absurd (by decide) h)
  refine lv_bipush (v := (-2)) hx hb dX10_launch_28 (by decide) ?_
  refine W.widen (k := 0) (n := 0) (Nat.le_of_ble_eq_true rfl) (Nat.le_of_ble_eq_true rfl) ?_
  have hP9 : va_P D vwCl ((fun _ => ([] : va_W)) ()) H := hP.sub [] rfl
  have hD9 : va_D A ((fun _ => ([] : va_W)) ()) := hD.sub [] (by decide) rfl
  exact W.iret (v := (-2)) hx hb hr (fun t ht hW => ⟨⟨(-2), (), rfl, rfl, by rw [ht]; exact hP9, hD9⟩, hS.F ht⟩) hS.2.2 dX10_launch_30

set_option maxHeartbeats 4000000 in
set_option maxRecDepth 100000 in
theorem kX10_land (l : Launch) (D : va_G) (k : Nat → ClassId) (sd : Nat → Nat) (x : Nat) (u : Nat → Nat) (p0 : Int32) (p1 : Int32) (sz : Nat) : Met l yX10_land (wB yX10_land cX10_land 4 (some .boolean)) ({ frames := 2, cells := 0, slots := 0, locals := 46 }) (va_Pc [.ref x, .int p0, .int p1] (PRE D k sd (C10 k x u) sz)) (va_Qi (S := Unit) (fun r _ => r = 0) (fun uu t => PO D (va_A (C10 k x u) sz) ((fun _ => ([] : va_W)) uu) t) (va_A (C10 k x u) sz)) 0 0 (va_A (C10 k x u) sz) := by
  refine Met.ofW (cc := cX10_land) (maxL := 4) (ret := (some .boolean)) (by decide) rfl ?_
  intro p e s m args below meth c s₁ B hml hv
  obtain ⟨rfl, hsz, hP, hK, hD0, hE, hX⟩ := hv
  have hx := B.exec
  have hb := B.bytes
  have hr := B.returns
  have hw : ∀ w ∈ wsB, w.before _ s = true := fun w h => atoms_spec (ws := wB yX10_land cX10_land 4 (some .boolean)) B.pre w (List.mem_cons_of_mem _ h)
  have hown : s.vm.findClass RX10 = some m.cls := findClass_of_methodNamed B.named
  have hlocks := B.notSynchronized
  subst hsz
  have hD := hD0.self (sz := s.heap.size)
  generalize hAe : va_A (C10 k x u) s.heap.size = A at hD hX ⊢
  have hA : ∀ q : Nat, s.heap.size ≤ q → A q := fun q h => by rw [← hAe]; exact Or.inr h
  have hS : va_S A s.heap s.heap [] := va_S.rf
  have hl := lv_entry ([.ref x, .int p0, .int p1]) (n := 4) (Nat.le_of_ble_eq_true rfl)
  rw [lg_entry_eq]
  generalize (lg_sl ([.ref x, .int p0, .int p1]) ++ List.replicate (4 - (lg_sl ([.ref x, .int p0, .int p1])).length) Slot.unset).toArray = ls at hl ⊢
  have hl : lv_has ls 4 [(0, .ref x), (1, .int p0), (2, .int p1)] := hl
  refine lv_aload_n hx hb dX10_land_0 rfl (lv_at hl 0 rfl) ?_
  refine lv_iload_n hx hb dX10_land_1 rfl (lv_at hl 1 rfl) ?_
  refine x_i (wr := ([] : va_W)) (va_runV (As := [.int p0]) (rest := []) ⟨hx, hb, hml, hown, hw⟩ (kX10_isLog l D k sd x u p0 s.heap.size) (cwV 1 hw (gV wd_1679 wd_1681 wp_78 wd_11 wd_1682) rfl rfl rfl (by decide +kernel) ⟨Nat.le_of_ble_eq_true rfl, Nat.le_of_ble_eq_true rfl⟩) (pre_V (ci := 10) (r := (RX10, TX10, 80)) hK hE hX hP hD hS hA [0, 1] (by decide) rfl rfl (q0 := 0) rfl) rfl rfl hl.1 rfl (lv_room (Nat.le_of_ble_eq_true rfl)) dX10_land_2 ⟨Nat.le_of_ble_eq_true rfl, Nat.le_of_ble_eq_true rfl⟩) hP hD hS hA [0, 1] [] rfl rfl (by decide) (by decide) (fun r_3 u_1 H locs hp_2 hP hD hS => ?_)
  subst hp_2
  have hP : va_P D vwCl (C10 k x u) H := hP
  have hD : va_D A (C10 k x u) := hD
  refine lv_if_eq (tgt := 35) hx hb dX10_land_5 (by decide) (fun _ => ?_) (fun h => absurd (by decide) h)
  refine lv_iconst (v := 0) hx hb dX10_land_35 (by decide) ?_
  refine lv_istore_n (lv' := [(3, .int 0), (0, .ref x), (1, .int p0), (2, .int p1)]) hx hb dX10_land_36 rfl hl (by decide) rfl (fun ls hl => ?_)
  refine lv_iload_n hx hb dX10_land_37 rfl (lv_at hl 0 rfl) ?_
  refine lv_if_eq (tgt := 58) hx hb dX10_land_38 (by decide) (fun _ => ?_) (fun h => absurd (by decide) h)
  refine lv_iload_n hx hb dX10_land_58 rfl (lv_at hl 0 rfl) ?_
  refine W.widen (k := 0) (n := 0) (Nat.le_of_ble_eq_true rfl) (Nat.le_of_ble_eq_true rfl) ?_
  have hP9 : va_P D vwCl ((fun _ => ([] : va_W)) ()) H := hP.sub [] rfl
  have hD9 : va_D A ((fun _ => ([] : va_W)) ()) := hD.sub [] (by decide) rfl
  exact W.zret (v := 0) (ty := .boolean) hx hb hr rfl (fun t ht hW => ⟨⟨0, (), rfl, rfl, by rw [ht]; exact hP9, hD9⟩, hS.F ht⟩) hS.2.2 dX10_land_59

set_option maxHeartbeats 4000000 in
set_option maxRecDepth 100000 in
theorem kX10_burn (l : Launch) (D : va_G) (k : Nat → ClassId) (sd : Nat → Nat) (x : Nat) (u : Nat → Nat) (p0 : Int32) (sz : Nat) : Met l yX10_burn (wB yX10_burn cX10_burn 3 (some .int)) ({ frames := 2, cells := 0, slots := 0, locals := 46 }) (va_Pc [.ref x, .int p0] (PRE D k sd (C10 k x u) sz)) (va_Qi (S := Unit) (fun r _ => r = (-2)) (fun uu t => PO D (va_A (C10 k x u) sz) ((fun _ => ([] : va_W)) uu) t) (va_A (C10 k x u) sz)) 0 0 (va_A (C10 k x u) sz) := by
  refine Met.ofW (cc := cX10_burn) (maxL := 3) (ret := (some .int)) (by decide) rfl ?_
  intro p e s m args below meth c s₁ B hml hv
  obtain ⟨rfl, hsz, hP, hK, hD0, hE, hX⟩ := hv
  have hx := B.exec
  have hb := B.bytes
  have hr := B.returns
  have hw : ∀ w ∈ wsB, w.before _ s = true := fun w h => atoms_spec (ws := wB yX10_burn cX10_burn 3 (some .int)) B.pre w (List.mem_cons_of_mem _ h)
  have hown : s.vm.findClass RX10 = some m.cls := findClass_of_methodNamed B.named
  have hlocks := B.notSynchronized
  subst hsz
  have hD := hD0.self (sz := s.heap.size)
  generalize hAe : va_A (C10 k x u) s.heap.size = A at hD hX ⊢
  have hA : ∀ q : Nat, s.heap.size ≤ q → A q := fun q h => by rw [← hAe]; exact Or.inr h
  have hS : va_S A s.heap s.heap [] := va_S.rf
  have hl := lv_entry ([.ref x, .int p0]) (n := 3) (Nat.le_of_ble_eq_true rfl)
  rw [lg_entry_eq]
  generalize (lg_sl ([.ref x, .int p0]) ++ List.replicate (3 - (lg_sl ([.ref x, .int p0])).length) Slot.unset).toArray = ls at hl ⊢
  have hl : lv_has ls 3 [(0, .ref x), (1, .int p0)] := hl
  refine lv_aload_n hx hb dX10_burn_0 rfl (lv_at hl 0 rfl) ?_
  refine lv_iload_n hx hb dX10_burn_1 rfl (lv_at hl 1 rfl) ?_
  refine x_i (wr := ([] : va_W)) (va_runV (As := [.int p0]) (rest := []) ⟨hx, hb, hml, hown, hw⟩ (kX10_isLog l D k sd x u p0 s.heap.size) (cwV 1 hw (gV wd_1679 wd_1681 wp_78 wd_11 wd_1682) rfl rfl rfl (by decide +kernel) ⟨Nat.le_of_ble_eq_true rfl, Nat.le_of_ble_eq_true rfl⟩) (pre_V (ci := 10) (r := (RX10, TX10, 80)) hK hE hX hP hD hS hA [0, 1] (by decide) rfl rfl (q0 := 0) rfl) rfl rfl hl.1 rfl (lv_room (Nat.le_of_ble_eq_true rfl)) dX10_burn_2 ⟨Nat.le_of_ble_eq_true rfl, Nat.le_of_ble_eq_true rfl⟩) hP hD hS hA [0, 1] [] rfl rfl (by decide) (by decide) (fun r_3 u_1 H locs hp_2 hP hD hS => ?_)
  subst hp_2
  have hP : va_P D vwCl (C10 k x u) H := hP
  have hD : va_D A (C10 k x u) := hD
  refine lv_if_eq (tgt := 16) hx hb dX10_burn_5 (by decide) (fun _ => ?_) (fun h => absurd (by decide) h)
  refine lv_bipush (v := (-2)) hx hb dX10_burn_16 (by decide) ?_
  refine W.widen (k := 0) (n := 0) (Nat.le_of_ble_eq_true rfl) (Nat.le_of_ble_eq_true rfl) ?_
  have hP9 : va_P D vwCl ((fun _ => ([] : va_W)) ()) H := hP.sub [] rfl
  have hD9 : va_D A ((fun _ => ([] : va_W)) ()) := hD.sub [] (by decide) rfl
  exact W.iret (v := (-2)) hx hb hr (fun t ht hW => ⟨⟨(-2), (), rfl, rfl, by rw [ht]; exact hP9, hD9⟩, hS.F ht⟩) hS.2.2 dX10_burn_18

set_option maxHeartbeats 4000000 in
set_option maxRecDepth 100000 in
theorem kX10_saw (l : Launch) (D : va_G) (k : Nat → ClassId) (sd : Nat → Nat) (x : Nat) (u : Nat → Nat) (p0 : Int32) (p1 : Int32) (sz : Nat) : Met l yX10_saw (wB yX10_saw cX10_saw 3 (some .int)) ({ frames := 2, cells := 0, slots := 0, locals := 46 }) (va_Pc [.ref x, .int p0, .int p1] (PRE D k sd (C10 k x u) sz)) (va_Qi (S := Unit) (fun r _ => r = (-2)) (fun uu t => PO D (va_A (C10 k x u) sz) ((fun _ => ([] : va_W)) uu) t) (va_A (C10 k x u) sz)) 0 0 (va_A (C10 k x u) sz) := by
  refine Met.ofW (cc := cX10_saw) (maxL := 3) (ret := (some .int)) (by decide) rfl ?_
  intro p e s m args below meth c s₁ B hml hv
  obtain ⟨rfl, hsz, hP, hK, hD0, hE, hX⟩ := hv
  have hx := B.exec
  have hb := B.bytes
  have hr := B.returns
  have hw : ∀ w ∈ wsB, w.before _ s = true := fun w h => atoms_spec (ws := wB yX10_saw cX10_saw 3 (some .int)) B.pre w (List.mem_cons_of_mem _ h)
  have hown : s.vm.findClass RX10 = some m.cls := findClass_of_methodNamed B.named
  have hlocks := B.notSynchronized
  subst hsz
  have hD := hD0.self (sz := s.heap.size)
  generalize hAe : va_A (C10 k x u) s.heap.size = A at hD hX ⊢
  have hA : ∀ q : Nat, s.heap.size ≤ q → A q := fun q h => by rw [← hAe]; exact Or.inr h
  have hS : va_S A s.heap s.heap [] := va_S.rf
  have hl := lv_entry ([.ref x, .int p0, .int p1]) (n := 3) (Nat.le_of_ble_eq_true rfl)
  rw [lg_entry_eq]
  generalize (lg_sl ([.ref x, .int p0, .int p1]) ++ List.replicate (3 - (lg_sl ([.ref x, .int p0, .int p1])).length) Slot.unset).toArray = ls at hl ⊢
  have hl : lv_has ls 3 [(0, .ref x), (1, .int p0), (2, .int p1)] := hl
  refine lv_aload_n hx hb dX10_saw_0 rfl (lv_at hl 0 rfl) ?_
  refine lv_iload_n hx hb dX10_saw_1 rfl (lv_at hl 1 rfl) ?_
  refine x_i (wr := ([] : va_W)) (va_runV (As := [.int p0]) (rest := []) ⟨hx, hb, hml, hown, hw⟩ (kX10_isLog l D k sd x u p0 s.heap.size) (cwV 1 hw (gV wd_1679 wd_1681 wp_78 wd_11 wd_1682) rfl rfl rfl (by decide +kernel) ⟨Nat.le_of_ble_eq_true rfl, Nat.le_of_ble_eq_true rfl⟩) (pre_V (ci := 10) (r := (RX10, TX10, 80)) hK hE hX hP hD hS hA [0, 1] (by decide) rfl rfl (q0 := 0) rfl) rfl rfl hl.1 rfl (lv_room (Nat.le_of_ble_eq_true rfl)) dX10_saw_2 ⟨Nat.le_of_ble_eq_true rfl, Nat.le_of_ble_eq_true rfl⟩) hP hD hS hA [0, 1] [] rfl rfl (by decide) (by decide) (fun r_3 u_1 H locs hp_2 hP hD hS => ?_)
  subst hp_2
  have hP : va_P D vwCl (C10 k x u) H := hP
  have hD : va_D A (C10 k x u) := hD
  refine lv_if_eq (tgt := 43) hx hb dX10_saw_5 (by decide) (fun _ => ?_) (fun h => absurd (by decide) h)
  refine lv_bipush (v := (-2)) hx hb dX10_saw_43 (by decide) ?_
  refine W.widen (k := 0) (n := 0) (Nat.le_of_ble_eq_true rfl) (Nat.le_of_ble_eq_true rfl) ?_
  have hP9 : va_P D vwCl ((fun _ => ([] : va_W)) ()) H := hP.sub [] rfl
  have hD9 : va_D A ((fun _ => ([] : va_W)) ()) := hD.sub [] (by decide) rfl
  exact W.iret (v := (-2)) hx hb hr (fun t ht hW => ⟨⟨(-2), (), rfl, rfl, by rw [ht]; exact hP9, hD9⟩, hS.F ht⟩) hS.2.2 dX10_saw_45

set_option maxHeartbeats 4000000 in
set_option maxRecDepth 100000 in
theorem kX10_ahead (l : Launch) (D : va_G) (k : Nat → ClassId) (sd : Nat → Nat) (x : Nat) (u : Nat → Nat) (p0 : Int32) (p1 : Int32) (sz : Nat) : Met l yX10_ahead (wB yX10_ahead cX10_ahead 5 (some .int)) ({ frames := 2, cells := 0, slots := 0, locals := 46 }) (va_Pc [.ref x, .int p0, .int p1] (PRE D k sd (C10 k x u) sz)) (va_Qi (S := Unit) (fun r _ => r = (-2)) (fun uu t => PO D (va_A (C10 k x u) sz) ((fun _ => ([] : va_W)) uu) t) (va_A (C10 k x u) sz)) 0 0 (va_A (C10 k x u) sz) := by
  refine Met.ofW (cc := cX10_ahead) (maxL := 5) (ret := (some .int)) (by decide) rfl ?_
  intro p e s m args below meth c s₁ B hml hv
  obtain ⟨rfl, hsz, hP, hK, hD0, hE, hX⟩ := hv
  have hx := B.exec
  have hb := B.bytes
  have hr := B.returns
  have hw : ∀ w ∈ wsB, w.before _ s = true := fun w h => atoms_spec (ws := wB yX10_ahead cX10_ahead 5 (some .int)) B.pre w (List.mem_cons_of_mem _ h)
  have hown : s.vm.findClass RX10 = some m.cls := findClass_of_methodNamed B.named
  have hlocks := B.notSynchronized
  subst hsz
  have hD := hD0.self (sz := s.heap.size)
  generalize hAe : va_A (C10 k x u) s.heap.size = A at hD hX ⊢
  have hA : ∀ q : Nat, s.heap.size ≤ q → A q := fun q h => by rw [← hAe]; exact Or.inr h
  have hS : va_S A s.heap s.heap [] := va_S.rf
  have hl := lv_entry ([.ref x, .int p0, .int p1]) (n := 5) (Nat.le_of_ble_eq_true rfl)
  rw [lg_entry_eq]
  generalize (lg_sl ([.ref x, .int p0, .int p1]) ++ List.replicate (5 - (lg_sl ([.ref x, .int p0, .int p1])).length) Slot.unset).toArray = ls at hl ⊢
  have hl : lv_has ls 5 [(0, .ref x), (1, .int p0), (2, .int p1)] := hl
  refine lv_aload_n hx hb dX10_ahead_0 rfl (lv_at hl 0 rfl) ?_
  refine lv_iload_n hx hb dX10_ahead_1 rfl (lv_at hl 1 rfl) ?_
  refine x_i (wr := ([] : va_W)) (va_runV (As := [.int p0]) (rest := []) ⟨hx, hb, hml, hown, hw⟩ (kX10_isLog l D k sd x u p0 s.heap.size) (cwV 1 hw (gV wd_1679 wd_1681 wp_78 wd_11 wd_1682) rfl rfl rfl (by decide +kernel) ⟨Nat.le_of_ble_eq_true rfl, Nat.le_of_ble_eq_true rfl⟩) (pre_V (ci := 10) (r := (RX10, TX10, 80)) hK hE hX hP hD hS hA [0, 1] (by decide) rfl rfl (q0 := 0) rfl) rfl rfl hl.1 rfl (lv_room (Nat.le_of_ble_eq_true rfl)) dX10_ahead_2 ⟨Nat.le_of_ble_eq_true rfl, Nat.le_of_ble_eq_true rfl⟩) hP hD hS hA [0, 1] [] rfl rfl (by decide) (by decide) (fun r_3 u_1 H locs hp_2 hP hD hS => ?_)
  subst hp_2
  have hP : va_P D vwCl (C10 k x u) H := hP
  have hD : va_D A (C10 k x u) := hD
  refine lv_if_eq (tgt := 16) hx hb dX10_ahead_5 (by decide) (fun _ => ?_) (fun h => absurd (by decide) h)
  refine lv_bipush (v := (-2)) hx hb dX10_ahead_16 (by decide) ?_
  refine W.widen (k := 0) (n := 0) (Nat.le_of_ble_eq_true rfl) (Nat.le_of_ble_eq_true rfl) ?_
  have hP9 : va_P D vwCl ((fun _ => ([] : va_W)) ()) H := hP.sub [] rfl
  have hD9 : va_D A ((fun _ => ([] : va_W)) ()) := hD.sub [] (by decide) rfl
  exact W.iret (v := (-2)) hx hb hr (fun t ht hW => ⟨⟨(-2), (), rfl, rfl, by rw [ht]; exact hP9, hD9⟩, hS.F ht⟩) hS.2.2 dX10_ahead_18

set_option maxHeartbeats 4000000 in
set_option maxRecDepth 100000 in
theorem kX10_dam (l : Launch) (D : va_G) (k : Nat → ClassId) (sd : Nat → Nat) (x : Nat) (u : Nat → Nat) (p0 : Int32) (sz : Nat) : Met l yX10_dam (wB yX10_dam cX10_dam 2 (some .int)) ({ frames := 2, cells := 0, slots := 0, locals := 46 }) (va_Pc [.ref x, .int p0] (PRE D k sd (C10 k x u) sz)) (va_Qi (S := Unit) (fun r _ => r = (-2)) (fun uu t => PO D (va_A (C10 k x u) sz) ((fun _ => ([] : va_W)) uu) t) (va_A (C10 k x u) sz)) 0 0 (va_A (C10 k x u) sz) := by
  refine Met.ofW (cc := cX10_dam) (maxL := 2) (ret := (some .int)) (by decide) rfl ?_
  intro p e s m args below meth c s₁ B hml hv
  obtain ⟨rfl, hsz, hP, hK, hD0, hE, hX⟩ := hv
  have hx := B.exec
  have hb := B.bytes
  have hr := B.returns
  have hw : ∀ w ∈ wsB, w.before _ s = true := fun w h => atoms_spec (ws := wB yX10_dam cX10_dam 2 (some .int)) B.pre w (List.mem_cons_of_mem _ h)
  have hown : s.vm.findClass RX10 = some m.cls := findClass_of_methodNamed B.named
  have hlocks := B.notSynchronized
  subst hsz
  have hD := hD0.self (sz := s.heap.size)
  generalize hAe : va_A (C10 k x u) s.heap.size = A at hD hX ⊢
  have hA : ∀ q : Nat, s.heap.size ≤ q → A q := fun q h => by rw [← hAe]; exact Or.inr h
  have hS : va_S A s.heap s.heap [] := va_S.rf
  have hl := lv_entry ([.ref x, .int p0]) (n := 2) (Nat.le_of_ble_eq_true rfl)
  rw [lg_entry_eq]
  generalize (lg_sl ([.ref x, .int p0]) ++ List.replicate (2 - (lg_sl ([.ref x, .int p0])).length) Slot.unset).toArray = ls at hl ⊢
  have hl : lv_has ls 2 [(0, .ref x), (1, .int p0)] := hl
  refine lv_aload_n hx hb dX10_dam_0 rfl (lv_at hl 0 rfl) ?_
  refine lv_iload_n hx hb dX10_dam_1 rfl (lv_at hl 1 rfl) ?_
  refine x_i (wr := ([] : va_W)) (va_runV (As := [.int p0]) (rest := []) ⟨hx, hb, hml, hown, hw⟩ (kX10_isBend l D k sd x u p0 s.heap.size) (cwV 1 hw (gV wd_1580 wd_1582 wp_59 wd_11 wd_1583) rfl rfl rfl (by decide +kernel) ⟨Nat.le_of_ble_eq_true rfl, Nat.le_of_ble_eq_true rfl⟩) (pre_V (ci := 10) (r := (RX10, TX10, 80)) hK hE hX hP hD hS hA [0, 1] (by decide) rfl rfl (q0 := 0) rfl) rfl rfl hl.1 rfl (lv_room (Nat.le_of_ble_eq_true rfl)) dX10_dam_2 ⟨Nat.le_of_ble_eq_true rfl, Nat.le_of_ble_eq_true rfl⟩) hP hD hS hA [0, 1] [] rfl rfl (by decide) (by decide) (fun r_3 u_1 H locs hp_2 hP hD hS => ?_)
  subst hp_2
  have hP : va_P D vwCl (C10 k x u) H := hP
  have hD : va_D A (C10 k x u) := hD
  refine lv_if_eq (tgt := 18) hx hb dX10_dam_5 (by decide) (fun _ => ?_) (fun h => absurd (by decide) h)
  refine lv_bipush (v := (-2)) hx hb dX10_dam_18 (by decide) ?_
  refine W.widen (k := 0) (n := 0) (Nat.le_of_ble_eq_true rfl) (Nat.le_of_ble_eq_true rfl) ?_
  have hP9 : va_P D vwCl ((fun _ => ([] : va_W)) ()) H := hP.sub [] rfl
  have hD9 : va_D A ((fun _ => ([] : va_W)) ()) := hD.sub [] (by decide) rfl
  exact W.iret (v := (-2)) hx hb hr (fun t ht hW => ⟨⟨(-2), (), rfl, rfl, by rw [ht]; exact hP9, hD9⟩, hS.F ht⟩) hS.2.2 dX10_dam_20

set_option maxHeartbeats 4000000 in
set_option maxRecDepth 100000 in
theorem kX10_appeal (l : Launch) (D : va_G) (k : Nat → ClassId) (sd : Nat → Nat) (x : Nat) (u : Nat → Nat) (p0 : Int32) (sz : Nat) : Met l yX10_appeal (wB yX10_appeal cX10_appeal 3 (some .int)) ({ frames := 2, cells := 0, slots := 0, locals := 46 }) (va_Pc [.ref x, .int p0] (PRE D k sd (C10 k x u) sz)) (va_Qi (S := Unit) (fun r _ => r = (-2)) (fun uu t => PO D (va_A (C10 k x u) sz) ((fun _ => ([] : va_W)) uu) t) (va_A (C10 k x u) sz)) 0 0 (va_A (C10 k x u) sz) := by
  refine Met.ofW (cc := cX10_appeal) (maxL := 3) (ret := (some .int)) (by decide) rfl ?_
  intro p e s m args below meth c s₁ B hml hv
  obtain ⟨rfl, hsz, hP, hK, hD0, hE, hX⟩ := hv
  have hx := B.exec
  have hb := B.bytes
  have hr := B.returns
  have hw : ∀ w ∈ wsB, w.before _ s = true := fun w h => atoms_spec (ws := wB yX10_appeal cX10_appeal 3 (some .int)) B.pre w (List.mem_cons_of_mem _ h)
  have hown : s.vm.findClass RX10 = some m.cls := findClass_of_methodNamed B.named
  have hlocks := B.notSynchronized
  subst hsz
  have hD := hD0.self (sz := s.heap.size)
  generalize hAe : va_A (C10 k x u) s.heap.size = A at hD hX ⊢
  have hA : ∀ q : Nat, s.heap.size ≤ q → A q := fun q h => by rw [← hAe]; exact Or.inr h
  have hS : va_S A s.heap s.heap [] := va_S.rf
  have hl := lv_entry ([.ref x, .int p0]) (n := 3) (Nat.le_of_ble_eq_true rfl)
  rw [lg_entry_eq]
  generalize (lg_sl ([.ref x, .int p0]) ++ List.replicate (3 - (lg_sl ([.ref x, .int p0])).length) Slot.unset).toArray = ls at hl ⊢
  have hl : lv_has ls 3 [(0, .ref x), (1, .int p0)] := hl
  refine lv_aload_n hx hb dX10_appeal_0 rfl (lv_at hl 0 rfl) ?_
  refine lv_iload_n hx hb dX10_appeal_1 rfl (lv_at hl 1 rfl) ?_
  refine x_i (wr := ([] : va_W)) (va_runV (As := [.int p0]) (rest := []) ⟨hx, hb, hml, hown, hw⟩ (kX10_isBend l D k sd x u p0 s.heap.size) (cwV 1 hw (gV wd_1580 wd_1582 wp_59 wd_11 wd_1583) rfl rfl rfl (by decide +kernel) ⟨Nat.le_of_ble_eq_true rfl, Nat.le_of_ble_eq_true rfl⟩) (pre_V (ci := 10) (r := (RX10, TX10, 80)) hK hE hX hP hD hS hA [0, 1] (by decide) rfl rfl (q0 := 0) rfl) rfl rfl hl.1 rfl (lv_room (Nat.le_of_ble_eq_true rfl)) dX10_appeal_2 ⟨Nat.le_of_ble_eq_true rfl, Nat.le_of_ble_eq_true rfl⟩) hP hD hS hA [0, 1] [] rfl rfl (by decide) (by decide) (fun r_3 u_1 H locs hp_2 hP hD hS => ?_)
  subst hp_2
  have hP : va_P D vwCl (C10 k x u) H := hP
  have hD : va_D A (C10 k x u) := hD
  refine lv_if_eq (tgt := 17) hx hb dX10_appeal_5 (by decide) (fun _ => ?_) (fun h => absurd (by decide) h)
  refine lv_bipush (v := (-2)) hx hb dX10_appeal_17 (by decide) ?_
  refine W.widen (k := 0) (n := 0) (Nat.le_of_ble_eq_true rfl) (Nat.le_of_ble_eq_true rfl) ?_
  have hP9 : va_P D vwCl ((fun _ => ([] : va_W)) ()) H := hP.sub [] rfl
  have hD9 : va_D A ((fun _ => ([] : va_W)) ()) := hD.sub [] (by decide) rfl
  exact W.iret (v := (-2)) hx hb hr (fun t ht hW => ⟨⟨(-2), (), rfl, rfl, by rw [ht]; exact hP9, hD9⟩, hS.F ht⟩) hS.2.2 dX10_appeal_19

set_option maxHeartbeats 4000000 in
set_option maxRecDepth 100000 in
theorem kX10_votes (l : Launch) (D : va_G) (k : Nat → ClassId) (sd : Nat → Nat) (x : Nat) (u : Nat → Nat) (p0 : Int32) (p1 : Int32) (sz : Nat) : Met l yX10_votes (wB yX10_votes cX10_votes 3 (some .int)) ({ frames := 2, cells := 0, slots := 0, locals := 46 }) (va_Pc [.ref x, .int p0, .int p1] (PRE D k sd (C10 k x u) sz)) (va_Qi (S := Unit) (fun r _ => r = (-1)) (fun uu t => PO D (va_A (C10 k x u) sz) ((fun _ => ([] : va_W)) uu) t) (va_A (C10 k x u) sz)) 0 0 (va_A (C10 k x u) sz) := by
  refine Met.ofW (cc := cX10_votes) (maxL := 3) (ret := (some .int)) (by decide) rfl ?_
  intro p e s m args below meth c s₁ B hml hv
  obtain ⟨rfl, hsz, hP, hK, hD0, hE, hX⟩ := hv
  have hx := B.exec
  have hb := B.bytes
  have hr := B.returns
  have hw : ∀ w ∈ wsB, w.before _ s = true := fun w h => atoms_spec (ws := wB yX10_votes cX10_votes 3 (some .int)) B.pre w (List.mem_cons_of_mem _ h)
  have hown : s.vm.findClass RX10 = some m.cls := findClass_of_methodNamed B.named
  have hlocks := B.notSynchronized
  subst hsz
  have hD := hD0.self (sz := s.heap.size)
  generalize hAe : va_A (C10 k x u) s.heap.size = A at hD hX ⊢
  have hA : ∀ q : Nat, s.heap.size ≤ q → A q := fun q h => by rw [← hAe]; exact Or.inr h
  have hS : va_S A s.heap s.heap [] := va_S.rf
  have hl := lv_entry ([.ref x, .int p0, .int p1]) (n := 3) (Nat.le_of_ble_eq_true rfl)
  rw [lg_entry_eq]
  generalize (lg_sl ([.ref x, .int p0, .int p1]) ++ List.replicate (3 - (lg_sl ([.ref x, .int p0, .int p1])).length) Slot.unset).toArray = ls at hl ⊢
  have hl : lv_has ls 3 [(0, .ref x), (1, .int p0), (2, .int p1)] := hl
  refine lv_aload_n hx hb dX10_votes_0 rfl (lv_at hl 0 rfl) ?_
  refine lv_iload_n hx hb dX10_votes_1 rfl (lv_at hl 1 rfl) ?_
  refine x_i (wr := ([] : va_W)) (va_runV (As := [.int p0]) (rest := []) ⟨hx, hb, hml, hown, hw⟩ (kX10_isBend l D k sd x u p0 s.heap.size) (cwV 1 hw (gV wd_1580 wd_1582 wp_59 wd_11 wd_1583) rfl rfl rfl (by decide +kernel) ⟨Nat.le_of_ble_eq_true rfl, Nat.le_of_ble_eq_true rfl⟩) (pre_V (ci := 10) (r := (RX10, TX10, 80)) hK hE hX hP hD hS hA [0, 1] (by decide) rfl rfl (q0 := 0) rfl) rfl rfl hl.1 rfl (lv_room (Nat.le_of_ble_eq_true rfl)) dX10_votes_2 ⟨Nat.le_of_ble_eq_true rfl, Nat.le_of_ble_eq_true rfl⟩) hP hD hS hA [0, 1] [] rfl rfl (by decide) (by decide) (fun r_3 u_1 H locs hp_2 hP hD hS => ?_)
  subst hp_2
  have hP : va_P D vwCl (C10 k x u) H := hP
  have hD : va_D A (C10 k x u) := hD
  refine lv_if_eq (tgt := 35) hx hb dX10_votes_5 (by decide) (fun _ => ?_) (fun h => absurd (by decide) h)
  refine lv_iconst (v := (-1)) hx hb dX10_votes_35 (by decide) ?_
  refine W.widen (k := 0) (n := 0) (Nat.le_of_ble_eq_true rfl) (Nat.le_of_ble_eq_true rfl) ?_
  have hP9 : va_P D vwCl ((fun _ => ([] : va_W)) ()) H := hP.sub [] rfl
  have hD9 : va_D A ((fun _ => ([] : va_W)) ()) := hD.sub [] (by decide) rfl
  exact W.iret (v := (-1)) hx hb hr (fun t ht hW => ⟨⟨(-1), (), rfl, rfl, by rw [ht]; exact hP9, hD9⟩, hS.F ht⟩) hS.2.2 dX10_votes_36

set_option maxHeartbeats 4000000 in
set_option maxRecDepth 100000 in
theorem kX10_flood (l : Launch) (D : va_G) (k : Nat → ClassId) (sd : Nat → Nat) (x : Nat) (u : Nat → Nat) (p0 : Int32) (sz : Nat) : Met l yX10_flood (wB yX10_flood cX10_flood 2 (some .int)) ({ frames := 1, cells := 0, slots := 0, locals := 20 }) (va_Pc [.ref x, .int p0] (PRE D k sd (C10 k x u) sz)) (va_Qi (S := Unit) (fun r _ => r = (-2)) (fun uu t => PO D (va_A (C10 k x u) sz) ((fun _ => ([] : va_W)) uu) t) (va_A (C10 k x u) sz)) 0 0 (va_A (C10 k x u) sz) := by
  refine Met.ofW (cc := cX10_flood) (maxL := 2) (ret := (some .int)) (by decide) rfl ?_
  intro p e s m args below meth c s₁ B hml hv
  obtain ⟨rfl, hsz, hP, hK, hD0, hE, hX⟩ := hv
  have hx := B.exec
  have hb := B.bytes
  have hr := B.returns
  have hw : ∀ w ∈ wsB, w.before _ s = true := fun w h => atoms_spec (ws := wB yX10_flood cX10_flood 2 (some .int)) B.pre w (List.mem_cons_of_mem _ h)
  have hown : s.vm.findClass RX10 = some m.cls := findClass_of_methodNamed B.named
  have hlocks := B.notSynchronized
  subst hsz
  have hD := hD0.self (sz := s.heap.size)
  generalize hAe : va_A (C10 k x u) s.heap.size = A at hD hX ⊢
  have hA : ∀ q : Nat, s.heap.size ≤ q → A q := fun q h => by rw [← hAe]; exact Or.inr h
  have hS : va_S A s.heap s.heap [] := va_S.rf
  have hl := lv_entry ([.ref x, .int p0]) (n := 2) (Nat.le_of_ble_eq_true rfl)
  rw [lg_entry_eq]
  generalize (lg_sl ([.ref x, .int p0]) ++ List.replicate (2 - (lg_sl ([.ref x, .int p0])).length) Slot.unset).toArray = ls at hl ⊢
  have hl : lv_has ls 2 [(0, .ref x), (1, .int p0)] := hl
  refine lv_aload_n hx hb dX10_flood_0 rfl (lv_at hl 0 rfl) ?_
  refine x_i (wr := ([] : va_W)) (va_runV (As := []) (rest := []) ⟨hx, hb, hml, hown, hw⟩ (kX10_isRiver l D k sd x u  s.heap.size) (cwV 0 hw (gV wd_1554 wd_1556 wp_56 wd_11 wd_1557) rfl rfl rfl (by decide +kernel) ⟨Nat.le_of_ble_eq_true rfl, Nat.le_of_ble_eq_true rfl⟩) (pre_V (ci := 10) (r := (RX10, TX10, 80)) hK hE hX hP hD hS hA [0, 1] (by decide) rfl rfl (q0 := 0) rfl) rfl rfl hl.1 rfl (lv_room (Nat.le_of_ble_eq_true rfl)) dX10_flood_1 ⟨Nat.le_of_ble_eq_true rfl, Nat.le_of_ble_eq_true rfl⟩) hP hD hS hA [0, 1] [] rfl rfl (by decide) (by decide) (fun r_3 u_1 H locs hp_2 hP hD hS => ?_)
  subst hp_2
  have hP : va_P D vwCl (C10 k x u) H := hP
  have hD : va_D A (C10 k x u) := hD
  refine lv_if_eq (tgt := 19) hx hb dX10_flood_4 (by decide) (fun _ => ?_) (fun h => absurd (by decide) h)
  refine lv_bipush (v := (-2)) hx hb dX10_flood_19 (by decide) ?_
  refine W.widen (k := 0) (n := 0) (Nat.le_of_ble_eq_true rfl) (Nat.le_of_ble_eq_true rfl) ?_
  have hP9 : va_P D vwCl ((fun _ => ([] : va_W)) ()) H := hP.sub [] rfl
  have hD9 : va_D A ((fun _ => ([] : va_W)) ()) := hD.sub [] (by decide) rfl
  exact W.iret (v := (-2)) hx hb hr (fun t ht hW => ⟨⟨(-2), (), rfl, rfl, by rw [ht]; exact hP9, hD9⟩, hS.F ht⟩) hS.2.2 dX10_flood_21

set_option maxHeartbeats 4000000 in
set_option maxRecDepth 100000 in
theorem kX10_elected (l : Launch) (D : va_G) (k : Nat → ClassId) (sd : Nat → Nat) (x : Nat) (u : Nat → Nat) (p0 : Int32) (sz : Nat) : Met l yX10_elected (wB yX10_elected cX10_elected 3 (some .int)) ({ frames := 2, cells := 0, slots := 0, locals := 46 }) (va_Pc [.ref x, .int p0] (PRE D k sd (C10 k x u) sz)) (va_Qi (S := Unit) (fun r _ => r = (-1)) (fun uu t => PO D (va_A (C10 k x u) sz) ((fun _ => ([] : va_W)) uu) t) (va_A (C10 k x u) sz)) 0 0 (va_A (C10 k x u) sz) := by
  refine Met.ofW (cc := cX10_elected) (maxL := 3) (ret := (some .int)) (by decide) rfl ?_
  intro p e s m args below meth c s₁ B hml hv
  obtain ⟨rfl, hsz, hP, hK, hD0, hE, hX⟩ := hv
  have hx := B.exec
  have hb := B.bytes
  have hr := B.returns
  have hw : ∀ w ∈ wsB, w.before _ s = true := fun w h => atoms_spec (ws := wB yX10_elected cX10_elected 3 (some .int)) B.pre w (List.mem_cons_of_mem _ h)
  have hown : s.vm.findClass RX10 = some m.cls := findClass_of_methodNamed B.named
  have hlocks := B.notSynchronized
  subst hsz
  have hD := hD0.self (sz := s.heap.size)
  generalize hAe : va_A (C10 k x u) s.heap.size = A at hD hX ⊢
  have hA : ∀ q : Nat, s.heap.size ≤ q → A q := fun q h => by rw [← hAe]; exact Or.inr h
  have hS : va_S A s.heap s.heap [] := va_S.rf
  have hl := lv_entry ([.ref x, .int p0]) (n := 3) (Nat.le_of_ble_eq_true rfl)
  rw [lg_entry_eq]
  generalize (lg_sl ([.ref x, .int p0]) ++ List.replicate (3 - (lg_sl ([.ref x, .int p0])).length) Slot.unset).toArray = ls at hl ⊢
  have hl : lv_has ls 3 [(0, .ref x), (1, .int p0)] := hl
  refine lv_aload_n hx hb dX10_elected_0 rfl (lv_at hl 0 rfl) ?_
  refine lv_iload_n hx hb dX10_elected_1 rfl (lv_at hl 1 rfl) ?_
  refine x_i (wr := ([] : va_W)) (va_runV (As := [.int p0]) (rest := []) ⟨hx, hb, hml, hown, hw⟩ (kX10_isLog l D k sd x u p0 s.heap.size) (cwV 1 hw (gV wd_1679 wd_1681 wp_78 wd_11 wd_1682) rfl rfl rfl (by decide +kernel) ⟨Nat.le_of_ble_eq_true rfl, Nat.le_of_ble_eq_true rfl⟩) (pre_V (ci := 10) (r := (RX10, TX10, 80)) hK hE hX hP hD hS hA [0, 1] (by decide) rfl rfl (q0 := 0) rfl) rfl rfl hl.1 rfl (lv_room (Nat.le_of_ble_eq_true rfl)) dX10_elected_2 ⟨Nat.le_of_ble_eq_true rfl, Nat.le_of_ble_eq_true rfl⟩) hP hD hS hA [0, 1] [] rfl rfl (by decide) (by decide) (fun r_3 u_1 H locs hp_2 hP hD hS => ?_)
  subst hp_2
  have hP : va_P D vwCl (C10 k x u) H := hP
  have hD : va_D A (C10 k x u) := hD
  refine lv_if_ne (tgt := 10) hx hb dX10_elected_5 (by decide) (fun h => absurd (by decide) h) (fun _ => ?_)
  refine lv_iconst (v := (-1)) hx hb dX10_elected_8 (by decide) ?_
  refine W.widen (k := 0) (n := 0) (Nat.le_of_ble_eq_true rfl) (Nat.le_of_ble_eq_true rfl) ?_
  have hP9 : va_P D vwCl ((fun _ => ([] : va_W)) ()) H := hP.sub [] rfl
  have hD9 : va_D A ((fun _ => ([] : va_W)) ()) := hD.sub [] (by decide) rfl
  exact W.iret (v := (-1)) hx hb hr (fun t ht hW => ⟨⟨(-1), (), rfl, rfl, by rw [ht]; exact hP9, hD9⟩, hS.F ht⟩) hS.2.2 dX10_elected_9

set_option maxHeartbeats 4000000 in
set_option maxRecDepth 100000 in
theorem kX10_wedding (l : Launch) (D : va_G) (k : Nat → ClassId) (sd : Nat → Nat) (x : Nat) (u : Nat → Nat) (p0 : Int32) (sz : Nat) : Met l yX10_wedding (wB yX10_wedding cX10_wedding 4 (some .int)) ({ frames := 2, cells := 0, slots := 0, locals := 46 }) (va_Pc [.ref x, .int p0] (PRE D k sd (C10 k x u) sz)) (va_Qi (S := Unit) (fun r _ => r = (-2)) (fun uu t => PO D (va_A (C10 k x u) sz) ((fun _ => ([] : va_W)) uu) t) (va_A (C10 k x u) sz)) 0 0 (va_A (C10 k x u) sz) := by
  refine Met.ofW (cc := cX10_wedding) (maxL := 4) (ret := (some .int)) (by decide) rfl ?_
  intro p e s m args below meth c s₁ B hml hv
  obtain ⟨rfl, hsz, hP, hK, hD0, hE, hX⟩ := hv
  have hx := B.exec
  have hb := B.bytes
  have hr := B.returns
  have hw : ∀ w ∈ wsB, w.before _ s = true := fun w h => atoms_spec (ws := wB yX10_wedding cX10_wedding 4 (some .int)) B.pre w (List.mem_cons_of_mem _ h)
  have hown : s.vm.findClass RX10 = some m.cls := findClass_of_methodNamed B.named
  have hlocks := B.notSynchronized
  subst hsz
  have hD := hD0.self (sz := s.heap.size)
  generalize hAe : va_A (C10 k x u) s.heap.size = A at hD hX ⊢
  have hA : ∀ q : Nat, s.heap.size ≤ q → A q := fun q h => by rw [← hAe]; exact Or.inr h
  have hS : va_S A s.heap s.heap [] := va_S.rf
  have hl := lv_entry ([.ref x, .int p0]) (n := 4) (Nat.le_of_ble_eq_true rfl)
  rw [lg_entry_eq]
  generalize (lg_sl ([.ref x, .int p0]) ++ List.replicate (4 - (lg_sl ([.ref x, .int p0])).length) Slot.unset).toArray = ls at hl ⊢
  have hl : lv_has ls 4 [(0, .ref x), (1, .int p0)] := hl
  refine lv_aload_n hx hb dX10_wedding_0 rfl (lv_at hl 0 rfl) ?_
  refine lv_iload_n hx hb dX10_wedding_1 rfl (lv_at hl 1 rfl) ?_
  refine x_i (wr := ([] : va_W)) (va_runV (As := [.int p0]) (rest := []) ⟨hx, hb, hml, hown, hw⟩ (kX10_isVillage l D k sd x u p0 s.heap.size) (cwV 1 hw (gV wd_1567 wd_1569 wp_58 wd_11 wd_1570) rfl rfl rfl (by decide +kernel) ⟨Nat.le_of_ble_eq_true rfl, Nat.le_of_ble_eq_true rfl⟩) (pre_V (ci := 10) (r := (RX10, TX10, 80)) hK hE hX hP hD hS hA [0, 1] (by decide) rfl rfl (q0 := 0) rfl) rfl rfl hl.1 rfl (lv_room (Nat.le_of_ble_eq_true rfl)) dX10_wedding_2 ⟨Nat.le_of_ble_eq_true rfl, Nat.le_of_ble_eq_true rfl⟩) hP hD hS hA [0, 1] [] rfl rfl (by decide) (by decide) (fun r_3 u_1 H locs hp_2 hP hD hS => ?_)
  subst hp_2
  have hP : va_P D vwCl (C10 k x u) H := hP
  have hD : va_D A (C10 k x u) := hD
  refine lv_if_eq (tgt := 20) hx hb dX10_wedding_5 (by decide) (fun _ => ?_) (fun h => absurd (by decide) h)
  refine lv_bipush (v := (-2)) hx hb dX10_wedding_20 (by decide) ?_
  refine W.widen (k := 0) (n := 0) (Nat.le_of_ble_eq_true rfl) (Nat.le_of_ble_eq_true rfl) ?_
  have hP9 : va_P D vwCl ((fun _ => ([] : va_W)) ()) H := hP.sub [] rfl
  have hD9 : va_D A ((fun _ => ([] : va_W)) ()) := hD.sub [] (by decide) rfl
  exact W.iret (v := (-2)) hx hb hr (fun t ht hW => ⟨⟨(-2), (), rfl, rfl, by rw [ht]; exact hP9, hD9⟩, hS.F ht⟩) hS.2.2 dX10_wedding_22

set_option maxHeartbeats 4000000 in
set_option maxRecDepth 100000 in
theorem kX10_winter (l : Launch) (D : va_G) (k : Nat → ClassId) (sd : Nat → Nat) (x : Nat) (u : Nat → Nat) (p0 : Int32) (sz : Nat) : Met l yX10_winter (wB yX10_winter cX10_winter 4 (some .int)) ({ frames := 1, cells := 0, slots := 0, locals := 20 }) (va_Pc [.ref x, .int p0] (PRE D k sd (C10 k x u) sz)) (va_Qi (S := Unit) (fun r _ => r = (-2)) (fun uu t => PO D (va_A (C10 k x u) sz) ((fun _ => ([] : va_W)) uu) t) (va_A (C10 k x u) sz)) 0 0 (va_A (C10 k x u) sz) := by
  refine Met.ofW (cc := cX10_winter) (maxL := 4) (ret := (some .int)) (by decide) rfl ?_
  intro p e s m args below meth c s₁ B hml hv
  obtain ⟨rfl, hsz, hP, hK, hD0, hE, hX⟩ := hv
  have hx := B.exec
  have hb := B.bytes
  have hr := B.returns
  have hw : ∀ w ∈ wsB, w.before _ s = true := fun w h => atoms_spec (ws := wB yX10_winter cX10_winter 4 (some .int)) B.pre w (List.mem_cons_of_mem _ h)
  have hown : s.vm.findClass RX10 = some m.cls := findClass_of_methodNamed B.named
  have hlocks := B.notSynchronized
  subst hsz
  have hD := hD0.self (sz := s.heap.size)
  generalize hAe : va_A (C10 k x u) s.heap.size = A at hD hX ⊢
  have hA : ∀ q : Nat, s.heap.size ≤ q → A q := fun q h => by rw [← hAe]; exact Or.inr h
  have hS : va_S A s.heap s.heap [] := va_S.rf
  have hl := lv_entry ([.ref x, .int p0]) (n := 4) (Nat.le_of_ble_eq_true rfl)
  rw [lg_entry_eq]
  generalize (lg_sl ([.ref x, .int p0]) ++ List.replicate (4 - (lg_sl ([.ref x, .int p0])).length) Slot.unset).toArray = ls at hl ⊢
  have hl : lv_has ls 4 [(0, .ref x), (1, .int p0)] := hl
  refine lv_aload_n hx hb dX10_winter_0 rfl (lv_at hl 0 rfl) ?_
  refine x_i (wr := ([] : va_W)) (va_runV (As := []) (rest := []) ⟨hx, hb, hml, hown, hw⟩ (kX10_isRiver l D k sd x u  s.heap.size) (cwV 0 hw (gV wd_1554 wd_1556 wp_56 wd_11 wd_1557) rfl rfl rfl (by decide +kernel) ⟨Nat.le_of_ble_eq_true rfl, Nat.le_of_ble_eq_true rfl⟩) (pre_V (ci := 10) (r := (RX10, TX10, 80)) hK hE hX hP hD hS hA [0, 1] (by decide) rfl rfl (q0 := 0) rfl) rfl rfl hl.1 rfl (lv_room (Nat.le_of_ble_eq_true rfl)) dX10_winter_1 ⟨Nat.le_of_ble_eq_true rfl, Nat.le_of_ble_eq_true rfl⟩) hP hD hS hA [0, 1] [] rfl rfl (by decide) (by decide) (fun r_3 u_1 H locs hp_2 hP hD hS => ?_)
  subst hp_2
  have hP : va_P D vwCl (C10 k x u) H := hP
  have hD : va_D A (C10 k x u) := hD
  refine lv_if_eq (tgt := 19) hx hb dX10_winter_4 (by decide) (fun _ => ?_) (fun h => absurd (by decide) h)
  refine lv_bipush (v := (-2)) hx hb dX10_winter_19 (by decide) ?_
  refine W.widen (k := 0) (n := 0) (Nat.le_of_ble_eq_true rfl) (Nat.le_of_ble_eq_true rfl) ?_
  have hP9 : va_P D vwCl ((fun _ => ([] : va_W)) ()) H := hP.sub [] rfl
  have hD9 : va_D A ((fun _ => ([] : va_W)) ()) := hD.sub [] (by decide) rfl
  exact W.iret (v := (-2)) hx hb hr (fun t ht hW => ⟨⟨(-2), (), rfl, rfl, by rw [ht]; exact hP9, hD9⟩, hS.F ht⟩) hS.2.2 dX10_winter_21

set_option maxHeartbeats 4000000 in
set_option maxRecDepth 100000 in
theorem kX10_days (l : Launch) (D : va_G) (k : Nat → ClassId) (sd : Nat → Nat) (x : Nat) (u : Nat → Nat) (p0 : Int32) (sz : Nat) : Met l yX10_days (wB yX10_days cX10_days 3 (some .int)) ({ frames := 1, cells := 0, slots := 0, locals := 20 }) (va_Pc [.ref x, .int p0] (PRE D k sd (C10 k x u) sz)) (va_Qi (S := Unit) (fun r _ => r = (-2)) (fun uu t => PO D (va_A (C10 k x u) sz) ((fun _ => ([] : va_W)) uu) t) (va_A (C10 k x u) sz)) 0 0 (va_A (C10 k x u) sz) := by
  refine Met.ofW (cc := cX10_days) (maxL := 3) (ret := (some .int)) (by decide) rfl ?_
  intro p e s m args below meth c s₁ B hml hv
  obtain ⟨rfl, hsz, hP, hK, hD0, hE, hX⟩ := hv
  have hx := B.exec
  have hb := B.bytes
  have hr := B.returns
  have hw : ∀ w ∈ wsB, w.before _ s = true := fun w h => atoms_spec (ws := wB yX10_days cX10_days 3 (some .int)) B.pre w (List.mem_cons_of_mem _ h)
  have hown : s.vm.findClass RX10 = some m.cls := findClass_of_methodNamed B.named
  have hlocks := B.notSynchronized
  subst hsz
  have hD := hD0.self (sz := s.heap.size)
  generalize hAe : va_A (C10 k x u) s.heap.size = A at hD hX ⊢
  have hA : ∀ q : Nat, s.heap.size ≤ q → A q := fun q h => by rw [← hAe]; exact Or.inr h
  have hS : va_S A s.heap s.heap [] := va_S.rf
  have hl := lv_entry ([.ref x, .int p0]) (n := 3) (Nat.le_of_ble_eq_true rfl)
  rw [lg_entry_eq]
  generalize (lg_sl ([.ref x, .int p0]) ++ List.replicate (3 - (lg_sl ([.ref x, .int p0])).length) Slot.unset).toArray = ls at hl ⊢
  have hl : lv_has ls 3 [(0, .ref x), (1, .int p0)] := hl
  refine lv_aload_n hx hb dX10_days_0 rfl (lv_at hl 0 rfl) ?_
  refine x_i (wr := ([] : va_W)) (va_runV (As := []) (rest := []) ⟨hx, hb, hml, hown, hw⟩ (kX10_isRiver l D k sd x u  s.heap.size) (cwV 0 hw (gV wd_1554 wd_1556 wp_56 wd_11 wd_1557) rfl rfl rfl (by decide +kernel) ⟨Nat.le_of_ble_eq_true rfl, Nat.le_of_ble_eq_true rfl⟩) (pre_V (ci := 10) (r := (RX10, TX10, 80)) hK hE hX hP hD hS hA [0, 1] (by decide) rfl rfl (q0 := 0) rfl) rfl rfl hl.1 rfl (lv_room (Nat.le_of_ble_eq_true rfl)) dX10_days_1 ⟨Nat.le_of_ble_eq_true rfl, Nat.le_of_ble_eq_true rfl⟩) hP hD hS hA [0, 1] [] rfl rfl (by decide) (by decide) (fun r_3 u_1 H locs hp_2 hP hD hS => ?_)
  subst hp_2
  have hP : va_P D vwCl (C10 k x u) H := hP
  have hD : va_D A (C10 k x u) := hD
  refine lv_if_eq (tgt := 34) hx hb dX10_days_4 (by decide) (fun _ => ?_) (fun h => absurd (by decide) h)
  refine lv_bipush (v := (-2)) hx hb dX10_days_34 (by decide) ?_
  refine W.widen (k := 0) (n := 0) (Nat.le_of_ble_eq_true rfl) (Nat.le_of_ble_eq_true rfl) ?_
  have hP9 : va_P D vwCl ((fun _ => ([] : va_W)) ()) H := hP.sub [] rfl
  have hD9 : va_D A ((fun _ => ([] : va_W)) ()) := hD.sub [] (by decide) rfl
  exact W.iret (v := (-2)) hx hb hr (fun t ht hW => ⟨⟨(-2), (), rfl, rfl, by rw [ht]; exact hP9, hD9⟩, hS.F ht⟩) hS.2.2 dX10_days_36

set_option maxHeartbeats 4000000 in
set_option maxRecDepth 100000 in
theorem kX10_floats (l : Launch) (D : va_G) (k : Nat → ClassId) (sd : Nat → Nat) (x : Nat) (u : Nat → Nat) (p0 : Int32) (p1 : Int32) (sz : Nat) : Met l yX10_floats (wB yX10_floats cX10_floats 3 (some .int)) ({ frames := 1, cells := 0, slots := 0, locals := 20 }) (va_Pc [.ref x, .int p0, .int p1] (PRE D k sd (C10 k x u) sz)) (va_Qi (S := Unit) (fun r _ => r = (-1)) (fun uu t => PO D (va_A (C10 k x u) sz) ((fun _ => ([] : va_W)) uu) t) (va_A (C10 k x u) sz)) 0 0 (va_A (C10 k x u) sz) := by
  refine Met.ofW (cc := cX10_floats) (maxL := 3) (ret := (some .int)) (by decide) rfl ?_
  intro p e s m args below meth c s₁ B hml hv
  obtain ⟨rfl, hsz, hP, hK, hD0, hE, hX⟩ := hv
  have hx := B.exec
  have hb := B.bytes
  have hr := B.returns
  have hw : ∀ w ∈ wsB, w.before _ s = true := fun w h => atoms_spec (ws := wB yX10_floats cX10_floats 3 (some .int)) B.pre w (List.mem_cons_of_mem _ h)
  have hown : s.vm.findClass RX10 = some m.cls := findClass_of_methodNamed B.named
  have hlocks := B.notSynchronized
  subst hsz
  have hD := hD0.self (sz := s.heap.size)
  generalize hAe : va_A (C10 k x u) s.heap.size = A at hD hX ⊢
  have hA : ∀ q : Nat, s.heap.size ≤ q → A q := fun q h => by rw [← hAe]; exact Or.inr h
  have hS : va_S A s.heap s.heap [] := va_S.rf
  have hl := lv_entry ([.ref x, .int p0, .int p1]) (n := 3) (Nat.le_of_ble_eq_true rfl)
  rw [lg_entry_eq]
  generalize (lg_sl ([.ref x, .int p0, .int p1]) ++ List.replicate (3 - (lg_sl ([.ref x, .int p0, .int p1])).length) Slot.unset).toArray = ls at hl ⊢
  have hl : lv_has ls 3 [(0, .ref x), (1, .int p0), (2, .int p1)] := hl
  refine lv_aload_n hx hb dX10_floats_0 rfl (lv_at hl 0 rfl) ?_
  refine x_i (wr := ([] : va_W)) (va_runV (As := []) (rest := []) ⟨hx, hb, hml, hown, hw⟩ (kX10_isRiver l D k sd x u  s.heap.size) (cwV 0 hw (gV wd_1554 wd_1556 wp_56 wd_11 wd_1557) rfl rfl rfl (by decide +kernel) ⟨Nat.le_of_ble_eq_true rfl, Nat.le_of_ble_eq_true rfl⟩) (pre_V (ci := 10) (r := (RX10, TX10, 80)) hK hE hX hP hD hS hA [0, 1] (by decide) rfl rfl (q0 := 0) rfl) rfl rfl hl.1 rfl (lv_room (Nat.le_of_ble_eq_true rfl)) dX10_floats_1 ⟨Nat.le_of_ble_eq_true rfl, Nat.le_of_ble_eq_true rfl⟩) hP hD hS hA [0, 1] [] rfl rfl (by decide) (by decide) (fun r_3 u_1 H locs hp_2 hP hD hS => ?_)
  subst hp_2
  have hP : va_P D vwCl (C10 k x u) H := hP
  have hD : va_D A (C10 k x u) := hD
  refine lv_if_eq (tgt := 31) hx hb dX10_floats_4 (by decide) (fun _ => ?_) (fun h => absurd (by decide) h)
  refine lv_iconst (v := (-1)) hx hb dX10_floats_31 (by decide) ?_
  refine W.widen (k := 0) (n := 0) (Nat.le_of_ble_eq_true rfl) (Nat.le_of_ble_eq_true rfl) ?_
  have hP9 : va_P D vwCl ((fun _ => ([] : va_W)) ()) H := hP.sub [] rfl
  have hD9 : va_D A ((fun _ => ([] : va_W)) ()) := hD.sub [] (by decide) rfl
  exact W.iret (v := (-1)) hx hb hr (fun t ht hW => ⟨⟨(-1), (), rfl, rfl, by rw [ht]; exact hP9, hD9⟩, hS.F ht⟩) hS.2.2 dX10_floats_32

set_option maxHeartbeats 4000000 in
set_option maxRecDepth 100000 in
theorem kX10_letAhead (l : Launch) (D : va_G) (k : Nat → ClassId) (sd : Nat → Nat) (x : Nat) (u : Nat → Nat) (p0 : Int32) (p1 : Int32) (sz : Nat) : Met l yX10_letAhead (wB yX10_letAhead cX10_letAhead 3 (some .int)) ({ frames := 1, cells := 0, slots := 0, locals := 20 }) (va_Pc [.ref x, .int p0, .int p1] (PRE D k sd (C10 k x u) sz)) (va_Qi (S := Unit) (fun r _ => r = (-1)) (fun uu t => PO D (va_A (C10 k x u) sz) ((fun _ => ([] : va_W)) uu) t) (va_A (C10 k x u) sz)) 0 0 (va_A (C10 k x u) sz) := by
  refine Met.ofW (cc := cX10_letAhead) (maxL := 3) (ret := (some .int)) (by decide) rfl ?_
  intro p e s m args below meth c s₁ B hml hv
  obtain ⟨rfl, hsz, hP, hK, hD0, hE, hX⟩ := hv
  have hx := B.exec
  have hb := B.bytes
  have hr := B.returns
  have hw : ∀ w ∈ wsB, w.before _ s = true := fun w h => atoms_spec (ws := wB yX10_letAhead cX10_letAhead 3 (some .int)) B.pre w (List.mem_cons_of_mem _ h)
  have hown : s.vm.findClass RX10 = some m.cls := findClass_of_methodNamed B.named
  have hlocks := B.notSynchronized
  subst hsz
  have hD := hD0.self (sz := s.heap.size)
  generalize hAe : va_A (C10 k x u) s.heap.size = A at hD hX ⊢
  have hA : ∀ q : Nat, s.heap.size ≤ q → A q := fun q h => by rw [← hAe]; exact Or.inr h
  have hS : va_S A s.heap s.heap [] := va_S.rf
  have hl := lv_entry ([.ref x, .int p0, .int p1]) (n := 3) (Nat.le_of_ble_eq_true rfl)
  rw [lg_entry_eq]
  generalize (lg_sl ([.ref x, .int p0, .int p1]) ++ List.replicate (3 - (lg_sl ([.ref x, .int p0, .int p1])).length) Slot.unset).toArray = ls at hl ⊢
  have hl : lv_has ls 3 [(0, .ref x), (1, .int p0), (2, .int p1)] := hl
  refine lv_aload_n hx hb dX10_letAhead_0 rfl (lv_at hl 0 rfl) ?_
  refine x_i (wr := ([] : va_W)) (va_runV (As := []) (rest := []) ⟨hx, hb, hml, hown, hw⟩ (kX10_isRiver l D k sd x u  s.heap.size) (cwV 0 hw (gV wd_1554 wd_1556 wp_56 wd_11 wd_1557) rfl rfl rfl (by decide +kernel) ⟨Nat.le_of_ble_eq_true rfl, Nat.le_of_ble_eq_true rfl⟩) (pre_V (ci := 10) (r := (RX10, TX10, 80)) hK hE hX hP hD hS hA [0, 1] (by decide) rfl rfl (q0 := 0) rfl) rfl rfl hl.1 rfl (lv_room (Nat.le_of_ble_eq_true rfl)) dX10_letAhead_1 ⟨Nat.le_of_ble_eq_true rfl, Nat.le_of_ble_eq_true rfl⟩) hP hD hS hA [0, 1] [] rfl rfl (by decide) (by decide) (fun r_3 u_1 H locs hp_2 hP hD hS => ?_)
  subst hp_2
  have hP : va_P D vwCl (C10 k x u) H := hP
  have hD : va_D A (C10 k x u) := hD
  refine lv_if_eq (tgt := 31) hx hb dX10_letAhead_4 (by decide) (fun _ => ?_) (fun h => absurd (by decide) h)
  refine lv_iconst (v := (-1)) hx hb dX10_letAhead_31 (by decide) ?_
  refine W.widen (k := 0) (n := 0) (Nat.le_of_ble_eq_true rfl) (Nat.le_of_ble_eq_true rfl) ?_
  have hP9 : va_P D vwCl ((fun _ => ([] : va_W)) ()) H := hP.sub [] rfl
  have hD9 : va_D A ((fun _ => ([] : va_W)) ()) := hD.sub [] (by decide) rfl
  exact W.iret (v := (-1)) hx hb hr (fun t ht hW => ⟨⟨(-1), (), rfl, rfl, by rw [ht]; exact hP9, hD9⟩, hS.F ht⟩) hS.2.2 dX10_letAhead_32

set_option maxHeartbeats 4000000 in
set_option maxRecDepth 100000 in
theorem kX10_kin (l : Launch) (D : va_G) (k : Nat → ClassId) (sd : Nat → Nat) (x : Nat) (u : Nat → Nat) (p0 : Int32) (p1 : Int32) (sz : Nat) : Met l yX10_kin (wB yX10_kin cX10_kin 5 (some .int)) ({ frames := 2, cells := 0, slots := 0, locals := 46 }) (va_Pc [.ref x, .int p0, .int p1] (PRE D k sd (C10 k x u) sz)) (va_Qi (S := Unit) (fun r _ => r = (-1)) (fun uu t => PO D (va_A (C10 k x u) sz) ((fun _ => ([] : va_W)) uu) t) (va_A (C10 k x u) sz)) 0 0 (va_A (C10 k x u) sz) := by
  refine Met.ofW (cc := cX10_kin) (maxL := 5) (ret := (some .int)) (by decide) rfl ?_
  intro p e s m args below meth c s₁ B hml hv
  obtain ⟨rfl, hsz, hP, hK, hD0, hE, hX⟩ := hv
  have hx := B.exec
  have hb := B.bytes
  have hr := B.returns
  have hw : ∀ w ∈ wsB, w.before _ s = true := fun w h => atoms_spec (ws := wB yX10_kin cX10_kin 5 (some .int)) B.pre w (List.mem_cons_of_mem _ h)
  have hown : s.vm.findClass RX10 = some m.cls := findClass_of_methodNamed B.named
  have hlocks := B.notSynchronized
  subst hsz
  have hD := hD0.self (sz := s.heap.size)
  generalize hAe : va_A (C10 k x u) s.heap.size = A at hD hX ⊢
  have hA : ∀ q : Nat, s.heap.size ≤ q → A q := fun q h => by rw [← hAe]; exact Or.inr h
  have hS : va_S A s.heap s.heap [] := va_S.rf
  have hl := lv_entry ([.ref x, .int p0, .int p1]) (n := 5) (Nat.le_of_ble_eq_true rfl)
  rw [lg_entry_eq]
  generalize (lg_sl ([.ref x, .int p0, .int p1]) ++ List.replicate (5 - (lg_sl ([.ref x, .int p0, .int p1])).length) Slot.unset).toArray = ls at hl ⊢
  have hl : lv_has ls 5 [(0, .ref x), (1, .int p0), (2, .int p1)] := hl
  refine lv_aload_n hx hb dX10_kin_0 rfl (lv_at hl 0 rfl) ?_
  refine lv_iload_n hx hb dX10_kin_1 rfl (lv_at hl 1 rfl) ?_
  refine x_i (wr := ([] : va_W)) (va_runV (As := [.int p0]) (rest := []) ⟨hx, hb, hml, hown, hw⟩ (kX10_isLog l D k sd x u p0 s.heap.size) (cwV 1 hw (gV wd_1679 wd_1681 wp_78 wd_11 wd_1682) rfl rfl rfl (by decide +kernel) ⟨Nat.le_of_ble_eq_true rfl, Nat.le_of_ble_eq_true rfl⟩) (pre_V (ci := 10) (r := (RX10, TX10, 80)) hK hE hX hP hD hS hA [0, 1] (by decide) rfl rfl (q0 := 0) rfl) rfl rfl hl.1 rfl (lv_room (Nat.le_of_ble_eq_true rfl)) dX10_kin_2 ⟨Nat.le_of_ble_eq_true rfl, Nat.le_of_ble_eq_true rfl⟩) hP hD hS hA [0, 1] [] rfl rfl (by decide) (by decide) (fun r_3 u_1 H locs hp_2 hP hD hS => ?_)
  subst hp_2
  have hP : va_P D vwCl (C10 k x u) H := hP
  have hD : va_D A (C10 k x u) := hD
  refine lv_if_eq (tgt := 16) hx hb dX10_kin_5 (by decide) (fun _ => ?_) (fun h => absurd (by decide) h)
  refine lv_iconst (v := (-1)) hx hb dX10_kin_16 (by decide) ?_
  refine W.widen (k := 0) (n := 0) (Nat.le_of_ble_eq_true rfl) (Nat.le_of_ble_eq_true rfl) ?_
  have hP9 : va_P D vwCl ((fun _ => ([] : va_W)) ()) H := hP.sub [] rfl
  have hD9 : va_D A ((fun _ => ([] : va_W)) ()) := hD.sub [] (by decide) rfl
  exact W.iret (v := (-1)) hx hb hr (fun t ht hW => ⟨⟨(-1), (), rfl, rfl, by rw [ht]; exact hP9, hD9⟩, hS.F ht⟩) hS.2.2 dX10_kin_17

set_option maxHeartbeats 4000000 in
set_option maxRecDepth 100000 in
theorem kX10_kinOf (l : Launch) (D : va_G) (k : Nat → ClassId) (sd : Nat → Nat) (x : Nat) (u : Nat → Nat) (p0 : Int32) (sz : Nat) : Met l yX10_kinOf (wB yX10_kinOf cX10_kinOf 4 (some .int)) ({ frames := 2, cells := 0, slots := 0, locals := 46 }) (va_Pc [.ref x, .int p0] (PRE D k sd (C10 k x u) sz)) (va_Qi (S := Unit) (fun r _ => r = (-1)) (fun uu t => PO D (va_A (C10 k x u) sz) ((fun _ => ([] : va_W)) uu) t) (va_A (C10 k x u) sz)) 0 0 (va_A (C10 k x u) sz) := by
  refine Met.ofW (cc := cX10_kinOf) (maxL := 4) (ret := (some .int)) (by decide) rfl ?_
  intro p e s m args below meth c s₁ B hml hv
  obtain ⟨rfl, hsz, hP, hK, hD0, hE, hX⟩ := hv
  have hx := B.exec
  have hb := B.bytes
  have hr := B.returns
  have hw : ∀ w ∈ wsB, w.before _ s = true := fun w h => atoms_spec (ws := wB yX10_kinOf cX10_kinOf 4 (some .int)) B.pre w (List.mem_cons_of_mem _ h)
  have hown : s.vm.findClass RX10 = some m.cls := findClass_of_methodNamed B.named
  have hlocks := B.notSynchronized
  subst hsz
  have hD := hD0.self (sz := s.heap.size)
  generalize hAe : va_A (C10 k x u) s.heap.size = A at hD hX ⊢
  have hA : ∀ q : Nat, s.heap.size ≤ q → A q := fun q h => by rw [← hAe]; exact Or.inr h
  have hS : va_S A s.heap s.heap [] := va_S.rf
  have hl := lv_entry ([.ref x, .int p0]) (n := 4) (Nat.le_of_ble_eq_true rfl)
  rw [lg_entry_eq]
  generalize (lg_sl ([.ref x, .int p0]) ++ List.replicate (4 - (lg_sl ([.ref x, .int p0])).length) Slot.unset).toArray = ls at hl ⊢
  have hl : lv_has ls 4 [(0, .ref x), (1, .int p0)] := hl
  refine lv_aload_n hx hb dX10_kinOf_0 rfl (lv_at hl 0 rfl) ?_
  refine lv_iload_n hx hb dX10_kinOf_1 rfl (lv_at hl 1 rfl) ?_
  refine x_i (wr := ([] : va_W)) (va_runV (As := [.int p0]) (rest := []) ⟨hx, hb, hml, hown, hw⟩ (kX10_isLog l D k sd x u p0 s.heap.size) (cwV 1 hw (gV wd_1679 wd_1681 wp_78 wd_11 wd_1682) rfl rfl rfl (by decide +kernel) ⟨Nat.le_of_ble_eq_true rfl, Nat.le_of_ble_eq_true rfl⟩) (pre_V (ci := 10) (r := (RX10, TX10, 80)) hK hE hX hP hD hS hA [0, 1] (by decide) rfl rfl (q0 := 0) rfl) rfl rfl hl.1 rfl (lv_room (Nat.le_of_ble_eq_true rfl)) dX10_kinOf_2 ⟨Nat.le_of_ble_eq_true rfl, Nat.le_of_ble_eq_true rfl⟩) hP hD hS hA [0, 1] [] rfl rfl (by decide) (by decide) (fun r_3 u_1 H locs hp_2 hP hD hS => ?_)
  subst hp_2
  have hP : va_P D vwCl (C10 k x u) H := hP
  have hD : va_D A (C10 k x u) := hD
  refine lv_if_ne (tgt := 10) hx hb dX10_kinOf_5 (by decide) (fun h => absurd (by decide) h) (fun _ => ?_)
  refine lv_iconst (v := (-1)) hx hb dX10_kinOf_8 (by decide) ?_
  refine W.widen (k := 0) (n := 0) (Nat.le_of_ble_eq_true rfl) (Nat.le_of_ble_eq_true rfl) ?_
  have hP9 : va_P D vwCl ((fun _ => ([] : va_W)) ()) H := hP.sub [] rfl
  have hD9 : va_D A ((fun _ => ([] : va_W)) ()) := hD.sub [] (by decide) rfl
  exact W.iret (v := (-1)) hx hb hr (fun t ht hW => ⟨⟨(-1), (), rfl, rfl, by rw [ht]; exact hP9, hD9⟩, hS.F ht⟩) hS.2.2 dX10_kinOf_9

set_option maxHeartbeats 4000000 in
set_option maxRecDepth 100000 in
theorem kX10_was (l : Launch) (D : va_G) (k : Nat → ClassId) (sd : Nat → Nat) (x : Nat) (u : Nat → Nat) (p0 : Int32) (p1 : Int32) (sz : Nat) : Met l yX10_was (wB yX10_was cX10_was 3 (some .int)) ({ frames := 2, cells := 0, slots := 0, locals := 46 }) (va_Pc [.ref x, .int p0, .int p1] (PRE D k sd (C10 k x u) sz)) (va_Qi (S := Unit) (fun r _ => r = (-2)) (fun uu t => PO D (va_A (C10 k x u) sz) ((fun _ => ([] : va_W)) uu) t) (va_A (C10 k x u) sz)) 0 0 (va_A (C10 k x u) sz) := by
  refine Met.ofW (cc := cX10_was) (maxL := 3) (ret := (some .int)) (by decide) rfl ?_
  intro p e s m args below meth c s₁ B hml hv
  obtain ⟨rfl, hsz, hP, hK, hD0, hE, hX⟩ := hv
  have hx := B.exec
  have hb := B.bytes
  have hr := B.returns
  have hw : ∀ w ∈ wsB, w.before _ s = true := fun w h => atoms_spec (ws := wB yX10_was cX10_was 3 (some .int)) B.pre w (List.mem_cons_of_mem _ h)
  have hown : s.vm.findClass RX10 = some m.cls := findClass_of_methodNamed B.named
  have hlocks := B.notSynchronized
  subst hsz
  have hD := hD0.self (sz := s.heap.size)
  generalize hAe : va_A (C10 k x u) s.heap.size = A at hD hX ⊢
  have hA : ∀ q : Nat, s.heap.size ≤ q → A q := fun q h => by rw [← hAe]; exact Or.inr h
  have hS : va_S A s.heap s.heap [] := va_S.rf
  have hl := lv_entry ([.ref x, .int p0, .int p1]) (n := 3) (Nat.le_of_ble_eq_true rfl)
  rw [lg_entry_eq]
  generalize (lg_sl ([.ref x, .int p0, .int p1]) ++ List.replicate (3 - (lg_sl ([.ref x, .int p0, .int p1])).length) Slot.unset).toArray = ls at hl ⊢
  have hl : lv_has ls 3 [(0, .ref x), (1, .int p0), (2, .int p1)] := hl
  refine lv_aload_n hx hb dX10_was_0 rfl (lv_at hl 0 rfl) ?_
  refine lv_iload_n hx hb dX10_was_1 rfl (lv_at hl 1 rfl) ?_
  refine x_i (wr := ([] : va_W)) (va_runV (As := [.int p0]) (rest := []) ⟨hx, hb, hml, hown, hw⟩ (kX10_isLog l D k sd x u p0 s.heap.size) (cwV 1 hw (gV wd_1679 wd_1681 wp_78 wd_11 wd_1682) rfl rfl rfl (by decide +kernel) ⟨Nat.le_of_ble_eq_true rfl, Nat.le_of_ble_eq_true rfl⟩) (pre_V (ci := 10) (r := (RX10, TX10, 80)) hK hE hX hP hD hS hA [0, 1] (by decide) rfl rfl (q0 := 0) rfl) rfl rfl hl.1 rfl (lv_room (Nat.le_of_ble_eq_true rfl)) dX10_was_2 ⟨Nat.le_of_ble_eq_true rfl, Nat.le_of_ble_eq_true rfl⟩) hP hD hS hA [0, 1] [] rfl rfl (by decide) (by decide) (fun r_3 u_1 H locs hp_2 hP hD hS => ?_)
  subst hp_2
  have hP : va_P D vwCl (C10 k x u) H := hP
  have hD : va_D A (C10 k x u) := hD
  refine lv_if_eq (tgt := 41) hx hb dX10_was_5 (by decide) (fun _ => ?_) (fun h => absurd (by decide) h)
  refine lv_bipush (v := (-2)) hx hb dX10_was_41 (by decide) ?_
  refine W.widen (k := 0) (n := 0) (Nat.le_of_ble_eq_true rfl) (Nat.le_of_ble_eq_true rfl) ?_
  have hP9 : va_P D vwCl ((fun _ => ([] : va_W)) ()) H := hP.sub [] rfl
  have hD9 : va_D A ((fun _ => ([] : va_W)) ()) := hD.sub [] (by decide) rfl
  exact W.iret (v := (-2)) hx hb hr (fun t ht hW => ⟨⟨(-2), (), rfl, rfl, by rw [ht]; exact hP9, hD9⟩, hS.F ht⟩) hS.2.2 dX10_was_43

set_option maxHeartbeats 4000000 in
set_option maxRecDepth 100000 in
theorem kX10_wereAt (l : Launch) (D : va_G) (k : Nat → ClassId) (sd : Nat → Nat) (x : Nat) (u : Nat → Nat) (p0 : Int32) (p1 : Int32) (p2 : Int32) (sz : Nat) : Met l yX10_wereAt (wB yX10_wereAt cX10_wereAt 4 (some .int)) ({ frames := 2, cells := 0, slots := 0, locals := 46 }) (va_Pc [.ref x, .int p0, .int p1, .int p2] (PRE D k sd (C10 k x u) sz)) (va_Qi (S := Unit) (fun r _ => r = (-1)) (fun uu t => PO D (va_A (C10 k x u) sz) ((fun _ => ([] : va_W)) uu) t) (va_A (C10 k x u) sz)) 0 0 (va_A (C10 k x u) sz) := by
  refine Met.ofW (cc := cX10_wereAt) (maxL := 4) (ret := (some .int)) (by decide) rfl ?_
  intro p e s m args below meth c s₁ B hml hv
  obtain ⟨rfl, hsz, hP, hK, hD0, hE, hX⟩ := hv
  have hx := B.exec
  have hb := B.bytes
  have hr := B.returns
  have hw : ∀ w ∈ wsB, w.before _ s = true := fun w h => atoms_spec (ws := wB yX10_wereAt cX10_wereAt 4 (some .int)) B.pre w (List.mem_cons_of_mem _ h)
  have hown : s.vm.findClass RX10 = some m.cls := findClass_of_methodNamed B.named
  have hlocks := B.notSynchronized
  subst hsz
  have hD := hD0.self (sz := s.heap.size)
  generalize hAe : va_A (C10 k x u) s.heap.size = A at hD hX ⊢
  have hA : ∀ q : Nat, s.heap.size ≤ q → A q := fun q h => by rw [← hAe]; exact Or.inr h
  have hS : va_S A s.heap s.heap [] := va_S.rf
  have hl := lv_entry ([.ref x, .int p0, .int p1, .int p2]) (n := 4) (Nat.le_of_ble_eq_true rfl)
  rw [lg_entry_eq]
  generalize (lg_sl ([.ref x, .int p0, .int p1, .int p2]) ++ List.replicate (4 - (lg_sl ([.ref x, .int p0, .int p1, .int p2])).length) Slot.unset).toArray = ls at hl ⊢
  have hl : lv_has ls 4 [(0, .ref x), (1, .int p0), (2, .int p1), (3, .int p2)] := hl
  refine lv_aload_n hx hb dX10_wereAt_0 rfl (lv_at hl 0 rfl) ?_
  refine lv_iload_n hx hb dX10_wereAt_1 rfl (lv_at hl 1 rfl) ?_
  refine x_i (wr := ([] : va_W)) (va_runV (As := [.int p0]) (rest := []) ⟨hx, hb, hml, hown, hw⟩ (kX10_isLog l D k sd x u p0 s.heap.size) (cwV 1 hw (gV wd_1679 wd_1681 wp_78 wd_11 wd_1682) rfl rfl rfl (by decide +kernel) ⟨Nat.le_of_ble_eq_true rfl, Nat.le_of_ble_eq_true rfl⟩) (pre_V (ci := 10) (r := (RX10, TX10, 80)) hK hE hX hP hD hS hA [0, 1] (by decide) rfl rfl (q0 := 0) rfl) rfl rfl hl.1 rfl (lv_room (Nat.le_of_ble_eq_true rfl)) dX10_wereAt_2 ⟨Nat.le_of_ble_eq_true rfl, Nat.le_of_ble_eq_true rfl⟩) hP hD hS hA [0, 1] [] rfl rfl (by decide) (by decide) (fun r_3 u_1 H locs hp_2 hP hD hS => ?_)
  subst hp_2
  have hP : va_P D vwCl (C10 k x u) H := hP
  have hD : va_D A (C10 k x u) := hD
  refine lv_if_eq (tgt := 41) hx hb dX10_wereAt_5 (by decide) (fun _ => ?_) (fun h => absurd (by decide) h)
  refine lv_iconst (v := (-1)) hx hb dX10_wereAt_41 (by decide) ?_
  refine W.widen (k := 0) (n := 0) (Nat.le_of_ble_eq_true rfl) (Nat.le_of_ble_eq_true rfl) ?_
  have hP9 : va_P D vwCl ((fun _ => ([] : va_W)) ()) H := hP.sub [] rfl
  have hD9 : va_D A ((fun _ => ([] : va_W)) ()) := hD.sub [] (by decide) rfl
  exact W.iret (v := (-1)) hx hb hr (fun t ht hW => ⟨⟨(-1), (), rfl, rfl, by rw [ht]; exact hP9, hD9⟩, hS.F ht⟩) hS.2.2 dX10_wereAt_42

set_option maxHeartbeats 4000000 in
set_option maxRecDepth 100000 in
theorem kX10_likely (l : Launch) (D : va_G) (k : Nat → ClassId) (sd : Nat → Nat) (x : Nat) (u : Nat → Nat) (p0 : Int32) (p1 : Int32) (p2 : Int32) (p3 : Int32) (p4 : Int32) (sz : Nat) : Met l yX10_likely (wB yX10_likely cX10_likely 10 (some .int)) ({ frames := 2, cells := 0, slots := 0, locals := 46 }) (va_Pc [.ref x, .int p0, .int p1, .int p2, .int p3, .int p4] (PRE D k sd (C10 k x u) sz)) (va_Qi (S := Unit) (fun r _ => r = (-1)) (fun uu t => PO D (va_A (C10 k x u) sz) ((fun _ => ([] : va_W)) uu) t) (va_A (C10 k x u) sz)) 0 0 (va_A (C10 k x u) sz) := by
  refine Met.ofW (cc := cX10_likely) (maxL := 10) (ret := (some .int)) (by decide) rfl ?_
  intro p e s m args below meth c s₁ B hml hv
  obtain ⟨rfl, hsz, hP, hK, hD0, hE, hX⟩ := hv
  have hx := B.exec
  have hb := B.bytes
  have hr := B.returns
  have hw : ∀ w ∈ wsB, w.before _ s = true := fun w h => atoms_spec (ws := wB yX10_likely cX10_likely 10 (some .int)) B.pre w (List.mem_cons_of_mem _ h)
  have hown : s.vm.findClass RX10 = some m.cls := findClass_of_methodNamed B.named
  have hlocks := B.notSynchronized
  subst hsz
  have hD := hD0.self (sz := s.heap.size)
  generalize hAe : va_A (C10 k x u) s.heap.size = A at hD hX ⊢
  have hA : ∀ q : Nat, s.heap.size ≤ q → A q := fun q h => by rw [← hAe]; exact Or.inr h
  have hS : va_S A s.heap s.heap [] := va_S.rf
  have hl := lv_entry ([.ref x, .int p0, .int p1, .int p2, .int p3, .int p4]) (n := 10) (Nat.le_of_ble_eq_true rfl)
  rw [lg_entry_eq]
  generalize (lg_sl ([.ref x, .int p0, .int p1, .int p2, .int p3, .int p4]) ++ List.replicate (10 - (lg_sl ([.ref x, .int p0, .int p1, .int p2, .int p3, .int p4])).length) Slot.unset).toArray = ls at hl ⊢
  have hl : lv_has ls 10 [(0, .ref x), (1, .int p0), (2, .int p1), (3, .int p2), (4, .int p3), (5, .int p4)] := hl
  refine lv_aload_n hx hb dX10_likely_0 rfl (lv_at hl 0 rfl) ?_
  refine lv_iload_n hx hb dX10_likely_1 rfl (lv_at hl 1 rfl) ?_
  refine x_i (wr := ([] : va_W)) (va_runV (As := [.int p0]) (rest := []) ⟨hx, hb, hml, hown, hw⟩ (kX10_isLog l D k sd x u p0 s.heap.size) (cwV 1 hw (gV wd_1679 wd_1681 wp_78 wd_11 wd_1682) rfl rfl rfl (by decide +kernel) ⟨Nat.le_of_ble_eq_true rfl, Nat.le_of_ble_eq_true rfl⟩) (pre_V (ci := 10) (r := (RX10, TX10, 80)) hK hE hX hP hD hS hA [0, 1] (by decide) rfl rfl (q0 := 0) rfl) rfl rfl hl.1 rfl (lv_room (Nat.le_of_ble_eq_true rfl)) dX10_likely_2 ⟨Nat.le_of_ble_eq_true rfl, Nat.le_of_ble_eq_true rfl⟩) hP hD hS hA [0, 1] [] rfl rfl (by decide) (by decide) (fun r_3 u_1 H locs hp_2 hP hD hS => ?_)
  subst hp_2
  have hP : va_P D vwCl (C10 k x u) H := hP
  have hD : va_D A (C10 k x u) := hD
  refine lv_if_eq (tgt := 51) hx hb dX10_likely_5 (by decide) (fun _ => ?_) (fun h => absurd (by decide) h)
  refine lv_iconst (v := (-1)) hx hb dX10_likely_51 (by decide) ?_
  refine W.widen (k := 0) (n := 0) (Nat.le_of_ble_eq_true rfl) (Nat.le_of_ble_eq_true rfl) ?_
  have hP9 : va_P D vwCl ((fun _ => ([] : va_W)) ()) H := hP.sub [] rfl
  have hD9 : va_D A ((fun _ => ([] : va_W)) ()) := hD.sub [] (by decide) rfl
  exact W.iret (v := (-1)) hx hb hr (fun t ht hW => ⟨⟨(-1), (), rfl, rfl, by rw [ht]; exact hP9, hD9⟩, hS.F ht⟩) hS.2.2 dX10_likely_52

set_option maxHeartbeats 4000000 in
set_option maxRecDepth 100000 in
theorem kX10_parted (l : Launch) (D : va_G) (k : Nat → ClassId) (sd : Nat → Nat) (x : Nat) (u : Nat → Nat) (p0 : Int32) (p1 : Int32) (p2 : Int32) (sz : Nat) : Met l yX10_parted (wB yX10_parted cX10_parted 6 (some .int)) ({ frames := 2, cells := 0, slots := 0, locals := 46 }) (va_Pc [.ref x, .int p0, .int p1, .int p2] (PRE D k sd (C10 k x u) sz)) (va_Qi (S := Unit) (fun r _ => r = (-1)) (fun uu t => PO D (va_A (C10 k x u) sz) ((fun _ => ([] : va_W)) uu) t) (va_A (C10 k x u) sz)) 0 0 (va_A (C10 k x u) sz) := by
  refine Met.ofW (cc := cX10_parted) (maxL := 6) (ret := (some .int)) (by decide) rfl ?_
  intro p e s m args below meth c s₁ B hml hv
  obtain ⟨rfl, hsz, hP, hK, hD0, hE, hX⟩ := hv
  have hx := B.exec
  have hb := B.bytes
  have hr := B.returns
  have hw : ∀ w ∈ wsB, w.before _ s = true := fun w h => atoms_spec (ws := wB yX10_parted cX10_parted 6 (some .int)) B.pre w (List.mem_cons_of_mem _ h)
  have hown : s.vm.findClass RX10 = some m.cls := findClass_of_methodNamed B.named
  have hlocks := B.notSynchronized
  subst hsz
  have hD := hD0.self (sz := s.heap.size)
  generalize hAe : va_A (C10 k x u) s.heap.size = A at hD hX ⊢
  have hA : ∀ q : Nat, s.heap.size ≤ q → A q := fun q h => by rw [← hAe]; exact Or.inr h
  have hS : va_S A s.heap s.heap [] := va_S.rf
  have hl := lv_entry ([.ref x, .int p0, .int p1, .int p2]) (n := 6) (Nat.le_of_ble_eq_true rfl)
  rw [lg_entry_eq]
  generalize (lg_sl ([.ref x, .int p0, .int p1, .int p2]) ++ List.replicate (6 - (lg_sl ([.ref x, .int p0, .int p1, .int p2])).length) Slot.unset).toArray = ls at hl ⊢
  have hl : lv_has ls 6 [(0, .ref x), (1, .int p0), (2, .int p1), (3, .int p2)] := hl
  refine lv_aload_n hx hb dX10_parted_0 rfl (lv_at hl 0 rfl) ?_
  refine lv_iload_n hx hb dX10_parted_1 rfl (lv_at hl 1 rfl) ?_
  refine x_i (wr := ([] : va_W)) (va_runV (As := [.int p0]) (rest := []) ⟨hx, hb, hml, hown, hw⟩ (kX10_isLog l D k sd x u p0 s.heap.size) (cwV 1 hw (gV wd_1679 wd_1681 wp_78 wd_11 wd_1682) rfl rfl rfl (by decide +kernel) ⟨Nat.le_of_ble_eq_true rfl, Nat.le_of_ble_eq_true rfl⟩) (pre_V (ci := 10) (r := (RX10, TX10, 80)) hK hE hX hP hD hS hA [0, 1] (by decide) rfl rfl (q0 := 0) rfl) rfl rfl hl.1 rfl (lv_room (Nat.le_of_ble_eq_true rfl)) dX10_parted_2 ⟨Nat.le_of_ble_eq_true rfl, Nat.le_of_ble_eq_true rfl⟩) hP hD hS hA [0, 1] [] rfl rfl (by decide) (by decide) (fun r_3 u_1 H locs hp_2 hP hD hS => ?_)
  subst hp_2
  have hP : va_P D vwCl (C10 k x u) H := hP
  have hD : va_D A (C10 k x u) := hD
  refine lv_if_eq (tgt := 32) hx hb dX10_parted_5 (by decide) (fun _ => ?_) (fun h => absurd (by decide) h)
  refine lv_iconst (v := (-1)) hx hb dX10_parted_32 (by decide) ?_
  refine W.widen (k := 0) (n := 0) (Nat.le_of_ble_eq_true rfl) (Nat.le_of_ble_eq_true rfl) ?_
  have hP9 : va_P D vwCl ((fun _ => ([] : va_W)) ()) H := hP.sub [] rfl
  have hD9 : va_D A ((fun _ => ([] : va_W)) ()) := hD.sub [] (by decide) rfl
  exact W.iret (v := (-1)) hx hb hr (fun t ht hW => ⟨⟨(-1), (), rfl, rfl, by rw [ht]; exact hP9, hD9⟩, hS.F ht⟩) hS.2.2 dX10_parted_33

set_option maxHeartbeats 4000000 in
set_option maxRecDepth 100000 in
theorem kX10_owes (l : Launch) (D : va_G) (k : Nat → ClassId) (sd : Nat → Nat) (x : Nat) (u : Nat → Nat) (p0 : Int32) (p1 : Int32) (sz : Nat) : Met l yX10_owes (wB yX10_owes cX10_owes 3 (some .int)) ({ frames := 2, cells := 0, slots := 0, locals := 46 }) (va_Pc [.ref x, .int p0, .int p1] (PRE D k sd (C10 k x u) sz)) (va_Qi (S := Unit) (fun r _ => r = (-1)) (fun uu t => PO D (va_A (C10 k x u) sz) ((fun _ => ([] : va_W)) uu) t) (va_A (C10 k x u) sz)) 0 0 (va_A (C10 k x u) sz) := by
  refine Met.ofW (cc := cX10_owes) (maxL := 3) (ret := (some .int)) (by decide) rfl ?_
  intro p e s m args below meth c s₁ B hml hv
  obtain ⟨rfl, hsz, hP, hK, hD0, hE, hX⟩ := hv
  have hx := B.exec
  have hb := B.bytes
  have hr := B.returns
  have hw : ∀ w ∈ wsB, w.before _ s = true := fun w h => atoms_spec (ws := wB yX10_owes cX10_owes 3 (some .int)) B.pre w (List.mem_cons_of_mem _ h)
  have hown : s.vm.findClass RX10 = some m.cls := findClass_of_methodNamed B.named
  have hlocks := B.notSynchronized
  subst hsz
  have hD := hD0.self (sz := s.heap.size)
  generalize hAe : va_A (C10 k x u) s.heap.size = A at hD hX ⊢
  have hA : ∀ q : Nat, s.heap.size ≤ q → A q := fun q h => by rw [← hAe]; exact Or.inr h
  have hS : va_S A s.heap s.heap [] := va_S.rf
  have hl := lv_entry ([.ref x, .int p0, .int p1]) (n := 3) (Nat.le_of_ble_eq_true rfl)
  rw [lg_entry_eq]
  generalize (lg_sl ([.ref x, .int p0, .int p1]) ++ List.replicate (3 - (lg_sl ([.ref x, .int p0, .int p1])).length) Slot.unset).toArray = ls at hl ⊢
  have hl : lv_has ls 3 [(0, .ref x), (1, .int p0), (2, .int p1)] := hl
  refine lv_aload_n hx hb dX10_owes_0 rfl (lv_at hl 0 rfl) ?_
  refine lv_iload_n hx hb dX10_owes_1 rfl (lv_at hl 1 rfl) ?_
  refine x_i (wr := ([] : va_W)) (va_runV (As := [.int p0]) (rest := []) ⟨hx, hb, hml, hown, hw⟩ (kX10_isVillage l D k sd x u p0 s.heap.size) (cwV 1 hw (gV wd_1567 wd_1569 wp_58 wd_11 wd_1570) rfl rfl rfl (by decide +kernel) ⟨Nat.le_of_ble_eq_true rfl, Nat.le_of_ble_eq_true rfl⟩) (pre_V (ci := 10) (r := (RX10, TX10, 80)) hK hE hX hP hD hS hA [0, 1] (by decide) rfl rfl (q0 := 0) rfl) rfl rfl hl.1 rfl (lv_room (Nat.le_of_ble_eq_true rfl)) dX10_owes_2 ⟨Nat.le_of_ble_eq_true rfl, Nat.le_of_ble_eq_true rfl⟩) hP hD hS hA [0, 1] [] rfl rfl (by decide) (by decide) (fun r_3 u_1 H locs hp_2 hP hD hS => ?_)
  subst hp_2
  have hP : va_P D vwCl (C10 k x u) H := hP
  have hD : va_D A (C10 k x u) := hD
  refine lv_if_eq (tgt := 35) hx hb dX10_owes_5 (by decide) (fun _ => ?_) (fun h => absurd (by decide) h)
  refine lv_iconst (v := (-1)) hx hb dX10_owes_35 (by decide) ?_
  refine W.widen (k := 0) (n := 0) (Nat.le_of_ble_eq_true rfl) (Nat.le_of_ble_eq_true rfl) ?_
  have hP9 : va_P D vwCl ((fun _ => ([] : va_W)) ()) H := hP.sub [] rfl
  have hD9 : va_D A ((fun _ => ([] : va_W)) ()) := hD.sub [] (by decide) rfl
  exact W.iret (v := (-1)) hx hb hr (fun t ht hW => ⟨⟨(-1), (), rfl, rfl, by rw [ht]; exact hP9, hD9⟩, hS.F ht⟩) hS.2.2 dX10_owes_36

set_option maxHeartbeats 4000000 in
set_option maxRecDepth 100000 in
theorem kX10_payments (l : Launch) (D : va_G) (k : Nat → ClassId) (sd : Nat → Nat) (x : Nat) (u : Nat → Nat) (sz : Nat) : Met l yX10_payments (wB yX10_payments cX10_payments 7 (some .int)) ({ frames := 1, cells := 0, slots := 0, locals := 20 }) (va_Pc [.ref x] (PRE D k sd (C10 k x u) sz)) (va_Qi (S := Unit) (fun r _ => r = (-1)) (fun uu t => PO D (va_A (C10 k x u) sz) ((fun _ => ([] : va_W)) uu) t) (va_A (C10 k x u) sz)) 0 0 (va_A (C10 k x u) sz) := by
  refine Met.ofW (cc := cX10_payments) (maxL := 7) (ret := (some .int)) (by decide) rfl ?_
  intro p e s m args below meth c s₁ B hml hv
  obtain ⟨rfl, hsz, hP, hK, hD0, hE, hX⟩ := hv
  have hx := B.exec
  have hb := B.bytes
  have hr := B.returns
  have hw : ∀ w ∈ wsB, w.before _ s = true := fun w h => atoms_spec (ws := wB yX10_payments cX10_payments 7 (some .int)) B.pre w (List.mem_cons_of_mem _ h)
  have hown : s.vm.findClass RX10 = some m.cls := findClass_of_methodNamed B.named
  have hlocks := B.notSynchronized
  subst hsz
  have hD := hD0.self (sz := s.heap.size)
  generalize hAe : va_A (C10 k x u) s.heap.size = A at hD hX ⊢
  have hA : ∀ q : Nat, s.heap.size ≤ q → A q := fun q h => by rw [← hAe]; exact Or.inr h
  have hS : va_S A s.heap s.heap [] := va_S.rf
  have hl := lv_entry ([.ref x]) (n := 7) (Nat.le_of_ble_eq_true rfl)
  rw [lg_entry_eq]
  generalize (lg_sl ([.ref x]) ++ List.replicate (7 - (lg_sl ([.ref x])).length) Slot.unset).toArray = ls at hl ⊢
  have hl : lv_has ls 7 [(0, .ref x)] := hl
  refine lv_aload_n hx hb dX10_payments_0 rfl (lv_at hl 0 rfl) ?_
  refine x_i (wr := ([] : va_W)) (va_runV (As := []) (rest := []) ⟨hx, hb, hml, hown, hw⟩ (kX10_isRiver l D k sd x u  s.heap.size) (cwV 0 hw (gV wd_1554 wd_1556 wp_56 wd_11 wd_1557) rfl rfl rfl (by decide +kernel) ⟨Nat.le_of_ble_eq_true rfl, Nat.le_of_ble_eq_true rfl⟩) (pre_V (ci := 10) (r := (RX10, TX10, 80)) hK hE hX hP hD hS hA [0, 1] (by decide) rfl rfl (q0 := 0) rfl) rfl rfl hl.1 rfl (lv_room (Nat.le_of_ble_eq_true rfl)) dX10_payments_1 ⟨Nat.le_of_ble_eq_true rfl, Nat.le_of_ble_eq_true rfl⟩) hP hD hS hA [0, 1] [] rfl rfl (by decide) (by decide) (fun r_3 u_1 H locs hp_2 hP hD hS => ?_)
  subst hp_2
  have hP : va_P D vwCl (C10 k x u) H := hP
  have hD : va_D A (C10 k x u) := hD
  refine lv_if_ne (tgt := 9) hx hb dX10_payments_4 (by decide) (fun h => absurd (by decide) h) (fun _ => ?_)
  refine lv_iconst (v := (-1)) hx hb dX10_payments_7 (by decide) ?_
  refine W.widen (k := 0) (n := 0) (Nat.le_of_ble_eq_true rfl) (Nat.le_of_ble_eq_true rfl) ?_
  have hP9 : va_P D vwCl ((fun _ => ([] : va_W)) ()) H := hP.sub [] rfl
  have hD9 : va_D A ((fun _ => ([] : va_W)) ()) := hD.sub [] (by decide) rfl
  exact W.iret (v := (-1)) hx hb hr (fun t ht hW => ⟨⟨(-1), (), rfl, rfl, by rw [ht]; exact hP9, hD9⟩, hS.F ht⟩) hS.2.2 dX10_payments_8

set_option maxHeartbeats 4000000 in
set_option maxRecDepth 100000 in
theorem kX10_repaid (l : Launch) (D : va_G) (k : Nat → ClassId) (sd : Nat → Nat) (x : Nat) (u : Nat → Nat) (p0 : Int32) (p1 : Int32) (p2 : Int32) (sz : Nat) : Met l yX10_repaid (wB yX10_repaid cX10_repaid 10 (some .int)) ({ frames := 2, cells := 0, slots := 0, locals := 46 }) (va_Pc [.ref x, .int p0, .int p1, .int p2] (PRE D k sd (C10 k x u) sz)) (va_Qi (S := Unit) (fun r _ => r = (-1)) (fun uu t => PO D (va_A (C10 k x u) sz) ((fun _ => ([] : va_W)) uu) t) (va_A (C10 k x u) sz)) 0 0 (va_A (C10 k x u) sz) := by
  refine Met.ofW (cc := cX10_repaid) (maxL := 10) (ret := (some .int)) (by decide) rfl ?_
  intro p e s m args below meth c s₁ B hml hv
  obtain ⟨rfl, hsz, hP, hK, hD0, hE, hX⟩ := hv
  have hx := B.exec
  have hb := B.bytes
  have hr := B.returns
  have hw : ∀ w ∈ wsB, w.before _ s = true := fun w h => atoms_spec (ws := wB yX10_repaid cX10_repaid 10 (some .int)) B.pre w (List.mem_cons_of_mem _ h)
  have hown : s.vm.findClass RX10 = some m.cls := findClass_of_methodNamed B.named
  have hlocks := B.notSynchronized
  subst hsz
  have hD := hD0.self (sz := s.heap.size)
  generalize hAe : va_A (C10 k x u) s.heap.size = A at hD hX ⊢
  have hA : ∀ q : Nat, s.heap.size ≤ q → A q := fun q h => by rw [← hAe]; exact Or.inr h
  have hS : va_S A s.heap s.heap [] := va_S.rf
  have hl := lv_entry ([.ref x, .int p0, .int p1, .int p2]) (n := 10) (Nat.le_of_ble_eq_true rfl)
  rw [lg_entry_eq]
  generalize (lg_sl ([.ref x, .int p0, .int p1, .int p2]) ++ List.replicate (10 - (lg_sl ([.ref x, .int p0, .int p1, .int p2])).length) Slot.unset).toArray = ls at hl ⊢
  have hl : lv_has ls 10 [(0, .ref x), (1, .int p0), (2, .int p1), (3, .int p2)] := hl
  refine lv_aload_n hx hb dX10_repaid_0 rfl (lv_at hl 0 rfl) ?_
  refine lv_iload_n hx hb dX10_repaid_1 rfl (lv_at hl 1 rfl) ?_
  refine x_i (wr := ([] : va_W)) (va_runV (As := [.int p0]) (rest := []) ⟨hx, hb, hml, hown, hw⟩ (kX10_isVillage l D k sd x u p0 s.heap.size) (cwV 1 hw (gV wd_1567 wd_1569 wp_58 wd_11 wd_1570) rfl rfl rfl (by decide +kernel) ⟨Nat.le_of_ble_eq_true rfl, Nat.le_of_ble_eq_true rfl⟩) (pre_V (ci := 10) (r := (RX10, TX10, 80)) hK hE hX hP hD hS hA [0, 1] (by decide) rfl rfl (q0 := 0) rfl) rfl rfl hl.1 rfl (lv_room (Nat.le_of_ble_eq_true rfl)) dX10_repaid_2 ⟨Nat.le_of_ble_eq_true rfl, Nat.le_of_ble_eq_true rfl⟩) hP hD hS hA [0, 1] [] rfl rfl (by decide) (by decide) (fun r_3 u_1 H locs hp_2 hP hD hS => ?_)
  subst hp_2
  have hP : va_P D vwCl (C10 k x u) H := hP
  have hD : va_D A (C10 k x u) := hD
  refine lv_if_eq (tgt := 31) hx hb dX10_repaid_5 (by decide) (fun _ => ?_) (fun h => absurd (by decide) h)
  refine lv_iconst (v := (-1)) hx hb dX10_repaid_31 (by decide) ?_
  refine W.widen (k := 0) (n := 0) (Nat.le_of_ble_eq_true rfl) (Nat.le_of_ble_eq_true rfl) ?_
  have hP9 : va_P D vwCl ((fun _ => ([] : va_W)) ()) H := hP.sub [] rfl
  have hD9 : va_D A ((fun _ => ([] : va_W)) ()) := hD.sub [] (by decide) rfl
  exact W.iret (v := (-1)) hx hb hr (fun t ht hW => ⟨⟨(-1), (), rfl, rfl, by rw [ht]; exact hP9, hD9⟩, hS.F ht⟩) hS.2.2 dX10_repaid_32

set_option maxHeartbeats 4000000 in
set_option maxRecDepth 100000 in
theorem kX10_drawn (l : Launch) (D : va_G) (k : Nat → ClassId) (sd : Nat → Nat) (x : Nat) (u : Nat → Nat) (p0 : Int32) (p1 : Int32) (p2 : Int32) (p3 : Int32) (sz : Nat) : Met l yX10_drawn (wB yX10_drawn cX10_drawn 10 (some .int)) ({ frames := 1, cells := 0, slots := 0, locals := 20 }) (va_Pc [.ref x, .int p0, .int p1, .int p2, .int p3] (PRE D k sd (C10 k x u) sz)) (va_Qi (S := Unit) (fun r _ => r = (-1)) (fun uu t => PO D (va_A (C10 k x u) sz) ((fun _ => ([] : va_W)) uu) t) (va_A (C10 k x u) sz)) 0 0 (va_A (C10 k x u) sz) := by
  refine Met.ofW (cc := cX10_drawn) (maxL := 10) (ret := (some .int)) (by decide) rfl ?_
  intro p e s m args below meth c s₁ B hml hv
  obtain ⟨rfl, hsz, hP, hK, hD0, hE, hX⟩ := hv
  have hx := B.exec
  have hb := B.bytes
  have hr := B.returns
  have hw : ∀ w ∈ wsB, w.before _ s = true := fun w h => atoms_spec (ws := wB yX10_drawn cX10_drawn 10 (some .int)) B.pre w (List.mem_cons_of_mem _ h)
  have hown : s.vm.findClass RX10 = some m.cls := findClass_of_methodNamed B.named
  have hlocks := B.notSynchronized
  subst hsz
  have hD := hD0.self (sz := s.heap.size)
  generalize hAe : va_A (C10 k x u) s.heap.size = A at hD hX ⊢
  have hA : ∀ q : Nat, s.heap.size ≤ q → A q := fun q h => by rw [← hAe]; exact Or.inr h
  have hS : va_S A s.heap s.heap [] := va_S.rf
  have hl := lv_entry ([.ref x, .int p0, .int p1, .int p2, .int p3]) (n := 10) (Nat.le_of_ble_eq_true rfl)
  rw [lg_entry_eq]
  generalize (lg_sl ([.ref x, .int p0, .int p1, .int p2, .int p3]) ++ List.replicate (10 - (lg_sl ([.ref x, .int p0, .int p1, .int p2, .int p3])).length) Slot.unset).toArray = ls at hl ⊢
  have hl : lv_has ls 10 [(0, .ref x), (1, .int p0), (2, .int p1), (3, .int p2), (4, .int p3)] := hl
  refine lv_aload_n hx hb dX10_drawn_0 rfl (lv_at hl 0 rfl) ?_
  refine x_i (wr := ([] : va_W)) (va_runV (As := []) (rest := []) ⟨hx, hb, hml, hown, hw⟩ (kX10_isRiver l D k sd x u  s.heap.size) (cwV 0 hw (gV wd_1554 wd_1556 wp_56 wd_11 wd_1557) rfl rfl rfl (by decide +kernel) ⟨Nat.le_of_ble_eq_true rfl, Nat.le_of_ble_eq_true rfl⟩) (pre_V (ci := 10) (r := (RX10, TX10, 80)) hK hE hX hP hD hS hA [0, 1] (by decide) rfl rfl (q0 := 0) rfl) rfl rfl hl.1 rfl (lv_room (Nat.le_of_ble_eq_true rfl)) dX10_drawn_1 ⟨Nat.le_of_ble_eq_true rfl, Nat.le_of_ble_eq_true rfl⟩) hP hD hS hA [0, 1] [] rfl rfl (by decide) (by decide) (fun r_3 u_1 H locs hp_2 hP hD hS => ?_)
  subst hp_2
  have hP : va_P D vwCl (C10 k x u) H := hP
  have hD : va_D A (C10 k x u) := hD
  refine lv_if_eq (tgt := 56) hx hb dX10_drawn_4 (by decide) (fun _ => ?_) (fun h => absurd (by decide) h)
  refine lv_iconst (v := (-1)) hx hb dX10_drawn_56 (by decide) ?_
  refine W.widen (k := 0) (n := 0) (Nat.le_of_ble_eq_true rfl) (Nat.le_of_ble_eq_true rfl) ?_
  have hP9 : va_P D vwCl ((fun _ => ([] : va_W)) ()) H := hP.sub [] rfl
  have hD9 : va_D A ((fun _ => ([] : va_W)) ()) := hD.sub [] (by decide) rfl
  exact W.iret (v := (-1)) hx hb hr (fun t ht hW => ⟨⟨(-1), (), rfl, rfl, by rw [ht]; exact hP9, hD9⟩, hS.F ht⟩) hS.2.2 dX10_drawn_57

set_option maxHeartbeats 4000000 in
set_option maxRecDepth 100000 in
theorem kX10_end (l : Launch) (D : va_G) (k : Nat → ClassId) (sd : Nat → Nat) (x : Nat) (u : Nat → Nat) (p0 : Int32) (sz : Nat) : Met l yX10_end (wB yX10_end cX10_end 2 (some .int)) ({ frames := 0, cells := 0, slots := 0, locals := 0 }) (va_Pc [.ref x, .int p0] (PRE D k sd (C10 k x u) sz)) (va_Qi (S := Unit) (fun r _ => r = sp_end p0) (fun uu t => PO D (va_A (C10 k x u) sz) ((fun _ => ([] : va_W)) uu) t) (va_A (C10 k x u) sz)) 0 0 (va_A (C10 k x u) sz) := by
  refine Met.ofW (cc := cX10_end) (maxL := 2) (ret := (some .int)) (by decide) rfl ?_
  intro p e s m args below meth c s₁ B hml hv
  obtain ⟨rfl, hsz, hP, hK, hD0, hE, hX⟩ := hv
  have hx := B.exec
  have hb := B.bytes
  have hr := B.returns
  have hw : ∀ w ∈ wsB, w.before _ s = true := fun w h => atoms_spec (ws := wB yX10_end cX10_end 2 (some .int)) B.pre w (List.mem_cons_of_mem _ h)
  have hown : s.vm.findClass RX10 = some m.cls := findClass_of_methodNamed B.named
  have hlocks := B.notSynchronized
  subst hsz
  have hD := hD0.self (sz := s.heap.size)
  generalize hAe : va_A (C10 k x u) s.heap.size = A at hD hX ⊢
  have hA : ∀ q : Nat, s.heap.size ≤ q → A q := fun q h => by rw [← hAe]; exact Or.inr h
  have hS : va_S A s.heap s.heap [] := va_S.rf
  have hl := lv_entry ([.ref x, .int p0]) (n := 2) (Nat.le_of_ble_eq_true rfl)
  rw [lg_entry_eq]
  generalize (lg_sl ([.ref x, .int p0]) ++ List.replicate (2 - (lg_sl ([.ref x, .int p0])).length) Slot.unset).toArray = ls at hl ⊢
  have hl : lv_has ls 2 [(0, .ref x), (1, .int p0)] := hl
  refine lv_iload_n hx hb dX10_end_0 rfl (lv_at hl 1 rfl) ?_
  refine lv_if_lt (tgt := 12) hx hb dX10_end_1 (by decide) (fun c_1 => ?_) (fun c_1 => ?_)
  · refine lv_iconst (v := (-1)) hx hb dX10_end_12 (by decide) ?_
    refine W.widen (k := 0) (n := 0) (Nat.le_of_ble_eq_true rfl) (Nat.le_of_ble_eq_true rfl) ?_
    have hP9 : va_P D vwCl ((fun _ => ([] : va_W)) ()) s.heap := hP.sub [] rfl
    have hD9 : va_D A ((fun _ => ([] : va_W)) ()) := hD.sub [] (by decide) rfl
    exact W.iret (v := (-1)) hx hb hr (fun t ht hW => ⟨⟨(-1), (), rfl, (by rw [sp_end, if_pos c_1]), by rw [ht]; exact hP9, hD9⟩, hS.F ht⟩) hS.2.2 dX10_end_13
  · refine lv_iload_n hx hb dX10_end_4 rfl (lv_at hl 1 rfl) ?_
    refine lv_aload_n hx hb dX10_end_5 rfl (lv_at hl 0 rfl) ?_
    refine va_get (D := D) (ci := 10) (v := .int 0) (C := RX10) (T := TX10) (N := 80) hx hb hw inlX10 hown hK hP 0 rfl rfl 37 (by decide) (hw _ wd_1172) (fun _ h9 => h9) rfl dX10_end_6 ?_
    refine lv_icmp_le (tgt := 14) hx hb dX10_end_9 (by decide) (fun c_2 => ?_) (fun c_2 => ?_)
    · refine lv_aload_n hx hb dX10_end_14 rfl (lv_at hl 0 rfl) ?_
      refine lv_iload_n hx hb dX10_end_15 rfl (lv_at hl 1 rfl) ?_
      refine va_put (D := D) (ci := 10) (v := .int p0) (ty := .int) (C := RX10) (T := TX10) (N := 80) hx hb hw inlX10 tyX10 tyX10_ok nmX10 hown hK hP hD hS 0 rfl rfl 37 (by decide) (hw _ wd_1172) (fun _ h9 => h9) rfl (by decide +kernel) rfl rfl (Nat.le_of_ble_eq_true rfl) dX10_end_16 (fun H locs hP hD hS => ?_)
      have hP : va_P D vwCl ([(x, .inr (10, [.int 0, .ref (u 1), .ref (u 2), .ref (u 3), .ref (u 4), .ref (u 5), .ref (u 6), .ref (u 7), .ref (u 8), .ref (u 9), .ref (u 10), .ref (u 11), .ref (u 12), .ref (u 13), .ref (u 14), .ref (u 15), .ref (u 16), .ref (u 17), .ref (u 18), .ref (u 19), .ref (u 20), .ref (u 21), .ref (u 22), .ref (u 23), .ref (u 24), .ref (u 25), .ref (u 26), .ref (u 27), .ref (u 28), .ref (u 29), .ref (u 30), .ref (u 31), .ref (u 32), .ref (u 33), .ref (u 34), .ref (u 35), .ref (u 36), .int p0, .int 0, .int 0, .int 0, .int 0, .int 0, .int 0, .int 0, .int 0, .int 13, .int 0, .ref (u 48), .ref (u 49), .ref (u 50), .ref (u 51), .ref (u 52), .ref (u 53), .ref (u 54), .ref (u 55), .ref (u 56), .ref (u 57), .ref (u 58), .ref (u 59), .ref (u 60), .int 0, .int 0, .int 0, .int 0, .int 0, .int 0, .int 0, .ref (u 68), .ref (u 69), .ref (u 70), .ref (u 71), .ref (u 72), .int 0, .int 0, .ref (u 75), .ref (u 76), .ref (u 77), .int 0, .int 0])), (u 1, .inl (k 0, 17, .inl (scal0)))]) H := hP
      have hD : va_D A ([(x, .inr (10, [.int 0, .ref (u 1), .ref (u 2), .ref (u 3), .ref (u 4), .ref (u 5), .ref (u 6), .ref (u 7), .ref (u 8), .ref (u 9), .ref (u 10), .ref (u 11), .ref (u 12), .ref (u 13), .ref (u 14), .ref (u 15), .ref (u 16), .ref (u 17), .ref (u 18), .ref (u 19), .ref (u 20), .ref (u 21), .ref (u 22), .ref (u 23), .ref (u 24), .ref (u 25), .ref (u 26), .ref (u 27), .ref (u 28), .ref (u 29), .ref (u 30), .ref (u 31), .ref (u 32), .ref (u 33), .ref (u 34), .ref (u 35), .ref (u 36), .int p0, .int 0, .int 0, .int 0, .int 0, .int 0, .int 0, .int 0, .int 0, .int 13, .int 0, .ref (u 48), .ref (u 49), .ref (u 50), .ref (u 51), .ref (u 52), .ref (u 53), .ref (u 54), .ref (u 55), .ref (u 56), .ref (u 57), .ref (u 58), .ref (u 59), .ref (u 60), .int 0, .int 0, .int 0, .int 0, .int 0, .int 0, .int 0, .ref (u 68), .ref (u 69), .ref (u 70), .ref (u 71), .ref (u 72), .int 0, .int 0, .ref (u 75), .ref (u 76), .ref (u 77), .int 0, .int 0])), (u 1, .inl (k 0, 17, .inl (scal0)))]) := hD
      refine lv_iload_n hx hb dX10_end_19 rfl (lv_at hl 1 rfl) ?_
      refine W.widen (k := 0) (n := 0) (Nat.le_of_ble_eq_true rfl) (Nat.le_of_ble_eq_true rfl) ?_
      have hP9 : va_P D vwCl ((fun _ => ([] : va_W)) ()) H := hP.sub [] rfl
      have hD9 : va_D A ((fun _ => ([] : va_W)) ()) := hD.sub [] (by decide) rfl
      exact W.iret (v := p0) hx hb hr (fun t ht hW => ⟨⟨p0, (), rfl, (by rw [sp_end, if_neg c_1, if_neg (Int32.not_lt.mpr c_2)]), by rw [ht]; exact hP9, hD9⟩, hS.F ht⟩) hS.2.2 dX10_end_20
    · refine lv_iconst (v := (-1)) hx hb dX10_end_12 (by decide) ?_
      refine W.widen (k := 0) (n := 0) (Nat.le_of_ble_eq_true rfl) (Nat.le_of_ble_eq_true rfl) ?_
      have hP9 : va_P D vwCl ((fun _ => ([] : va_W)) ()) s.heap := hP.sub [] rfl
      have hD9 : va_D A ((fun _ => ([] : va_W)) ()) := hD.sub [] (by decide) rfl
      exact W.iret (v := (-1)) hx hb hr (fun t ht hW => ⟨⟨(-1), (), rfl, (by rw [sp_end, if_neg c_1, if_pos (Int32.not_le.mp c_2)]), by rw [ht]; exact hP9, hD9⟩, hS.F ht⟩) hS.2.2 dX10_end_13

set_option maxHeartbeats 4000000 in
set_option maxRecDepth 100000 in
theorem kX10_seed (l : Launch) (D : va_G) (k : Nat → ClassId) (sd : Nat → Nat) (x : Nat) (u : Nat → Nat) (p0 : Int32) (sz : Nat) : Met l yX10_seed (wB yX10_seed cX10_seed 3 (some .int)) ({ frames := 0, cells := 0, slots := 0, locals := 0 }) (va_Pc [.ref x, .int p0] (PRE D k sd (C10 k x u) sz)) (va_Qi (S := Unit) (fun r _ => r = sp_seed p0) (fun uu t => PO D (va_A (C10 k x u) sz) ((fun _ => ([] : va_W)) uu) t) (va_A (C10 k x u) sz)) 0 0 (va_A (C10 k x u) sz) := by
  refine Met.ofW (cc := cX10_seed) (maxL := 3) (ret := (some .int)) (by decide) rfl ?_
  intro p e s m args below meth c s₁ B hml hv
  obtain ⟨rfl, hsz, hP, hK, hD0, hE, hX⟩ := hv
  have hx := B.exec
  have hb := B.bytes
  have hr := B.returns
  have hw : ∀ w ∈ wsB, w.before _ s = true := fun w h => atoms_spec (ws := wB yX10_seed cX10_seed 3 (some .int)) B.pre w (List.mem_cons_of_mem _ h)
  have hown : s.vm.findClass RX10 = some m.cls := findClass_of_methodNamed B.named
  have hlocks := B.notSynchronized
  subst hsz
  have hD := hD0.self (sz := s.heap.size)
  generalize hAe : va_A (C10 k x u) s.heap.size = A at hD hX ⊢
  have hA : ∀ q : Nat, s.heap.size ≤ q → A q := fun q h => by rw [← hAe]; exact Or.inr h
  have hS : va_S A s.heap s.heap [] := va_S.rf
  have hl := lv_entry ([.ref x, .int p0]) (n := 3) (Nat.le_of_ble_eq_true rfl)
  rw [lg_entry_eq]
  generalize (lg_sl ([.ref x, .int p0]) ++ List.replicate (3 - (lg_sl ([.ref x, .int p0])).length) Slot.unset).toArray = ls at hl ⊢
  have hl : lv_has ls 3 [(0, .ref x), (1, .int p0)] := hl
  refine lv_iload_n hx hb dX10_seed_0 rfl (lv_at hl 1 rfl) ?_
  refine lv_if_ge (tgt := 6) hx hb dX10_seed_1 (by decide) (fun c_1 => ?_) (fun c_1 => ?_)
  · refine lv_aload_n hx hb dX10_seed_6 rfl (lv_at hl 0 rfl) ?_
    refine va_get (D := D) (ci := 10) (v := .ref (u 1)) (C := RX10) (T := TX10) (N := 80) hx hb hw inlX10 hown hK hP 0 rfl rfl 1 (by decide) (hw _ wd_1136) (fun _ h9 => h9) rfl dX10_seed_7 ?_
    refine lv_bipush (v := 16) hx hb dX10_seed_10 (by decide) ?_
    refine va_iald hx hb hK hP 1 0 rfl rfl (i := 16) (by unfold vp_in; decide) dX10_seed_12 ?_
    refine x_top (v := 0) rfl ?_
    refine lv_istore_n (lv' := [(2, .int 0), (0, .ref x), (1, .int p0)]) hx hb dX10_seed_13 rfl hl (by decide) rfl (fun ls hl => ?_)
    refine lv_aload_n hx hb dX10_seed_14 rfl (lv_at hl 1 rfl) ?_
    refine va_get (D := D) (ci := 10) (v := .ref (u 1)) (C := RX10) (T := TX10) (N := 80) hx hb hw inlX10 hown hK hP 0 rfl rfl 1 (by decide) (hw _ wd_1136) (fun _ h9 => h9) rfl dX10_seed_15 ?_
    refine lv_bipush (v := 16) hx hb dX10_seed_18 (by decide) ?_
    refine lv_iload_n hx hb dX10_seed_20 rfl (lv_at hl 2 rfl) ?_
    refine va_iast hx hb hK hP hD hS 1 0 rfl rfl (i := 16) (by unfold vp_in; decide) dX10_seed_21 (fun H locs hP hD hS => ?_)
    have hP : va_P D vwCl ([(x, .inr (10, [.int 0, .ref (u 1), .ref (u 2), .ref (u 3), .ref (u 4), .ref (u 5), .ref (u 6), .ref (u 7), .ref (u 8), .ref (u 9), .ref (u 10), .ref (u 11), .ref (u 12), .ref (u 13), .ref (u 14), .ref (u 15), .ref (u 16), .ref (u 17), .ref (u 18), .ref (u 19), .ref (u 20), .ref (u 21), .ref (u 22), .ref (u 23), .ref (u 24), .ref (u 25), .ref (u 26), .ref (u 27), .ref (u 28), .ref (u 29), .ref (u 30), .ref (u 31), .ref (u 32), .ref (u 33), .ref (u 34), .ref (u 35), .ref (u 36), .int 0, .int 0, .int 0, .int 0, .int 0, .int 0, .int 0, .int 0, .int 0, .int 13, .int 0, .ref (u 48), .ref (u 49), .ref (u 50), .ref (u 51), .ref (u 52), .ref (u 53), .ref (u 54), .ref (u 55), .ref (u 56), .ref (u 57), .ref (u 58), .ref (u 59), .ref (u 60), .int 0, .int 0, .int 0, .int 0, .int 0, .int 0, .int 0, .ref (u 68), .ref (u 69), .ref (u 70), .ref (u 71), .ref (u 72), .int 0, .int 0, .ref (u 75), .ref (u 76), .ref (u 77), .int 0, .int 0])), (u 1, .inl (k 0, 17, .inl (upd (scal0) 16 p0)))]) H := hP
    have hD : va_D A ([(x, .inr (10, [.int 0, .ref (u 1), .ref (u 2), .ref (u 3), .ref (u 4), .ref (u 5), .ref (u 6), .ref (u 7), .ref (u 8), .ref (u 9), .ref (u 10), .ref (u 11), .ref (u 12), .ref (u 13), .ref (u 14), .ref (u 15), .ref (u 16), .ref (u 17), .ref (u 18), .ref (u 19), .ref (u 20), .ref (u 21), .ref (u 22), .ref (u 23), .ref (u 24), .ref (u 25), .ref (u 26), .ref (u 27), .ref (u 28), .ref (u 29), .ref (u 30), .ref (u 31), .ref (u 32), .ref (u 33), .ref (u 34), .ref (u 35), .ref (u 36), .int 0, .int 0, .int 0, .int 0, .int 0, .int 0, .int 0, .int 0, .int 0, .int 13, .int 0, .ref (u 48), .ref (u 49), .ref (u 50), .ref (u 51), .ref (u 52), .ref (u 53), .ref (u 54), .ref (u 55), .ref (u 56), .ref (u 57), .ref (u 58), .ref (u 59), .ref (u 60), .int 0, .int 0, .int 0, .int 0, .int 0, .int 0, .int 0, .ref (u 68), .ref (u 69), .ref (u 70), .ref (u 71), .ref (u 72), .int 0, .int 0, .ref (u 75), .ref (u 76), .ref (u 77), .int 0, .int 0])), (u 1, .inl (k 0, 17, .inl (upd (scal0) 16 p0)))]) := hD
    refine lv_iload_n hx hb dX10_seed_22 rfl (lv_at hl 0 rfl) ?_
    refine W.widen (k := 0) (n := 0) (Nat.le_of_ble_eq_true rfl) (Nat.le_of_ble_eq_true rfl) ?_
    have hP9 : va_P D vwCl ((fun _ => ([] : va_W)) ()) H := hP.sub [] rfl
    have hD9 : va_D A ((fun _ => ([] : va_W)) ()) := hD.sub [] (by decide) rfl
    exact W.iret (v := 0) hx hb hr (fun t ht hW => ⟨⟨0, (), rfl, (by rw [sp_seed, if_neg (Int32.not_lt.mpr c_1)]), by rw [ht]; exact hP9, hD9⟩, hS.F ht⟩) hS.2.2 dX10_seed_23
  · refine lv_iconst (v := (-1)) hx hb dX10_seed_4 (by decide) ?_
    refine W.widen (k := 0) (n := 0) (Nat.le_of_ble_eq_true rfl) (Nat.le_of_ble_eq_true rfl) ?_
    have hP9 : va_P D vwCl ((fun _ => ([] : va_W)) ()) s.heap := hP.sub [] rfl
    have hD9 : va_D A ((fun _ => ([] : va_W)) ()) := hD.sub [] (by decide) rfl
    exact W.iret (v := (-1)) hx hb hr (fun t ht hW => ⟨⟨(-1), (), rfl, (by rw [sp_seed, if_pos (Int32.not_le.mp c_1)]), by rw [ht]; exact hP9, hD9⟩, hS.F ht⟩) hS.2.2 dX10_seed_5

set_option maxHeartbeats 4000000 in
set_option maxRecDepth 100000 in
theorem kX10_sight (l : Launch) (D : va_G) (k : Nat → ClassId) (sd : Nat → Nat) (x : Nat) (u : Nat → Nat) (p0 : Int32) (p1 : Int32) (p2 : Int32) (sz : Nat) : Met l yX10_sight (wB yX10_sight cX10_sight 5 (some .int)) ({ frames := 2, cells := 0, slots := 0, locals := 46 }) (va_Pc [.ref x, .int p0, .int p1, .int p2] (PRE D k sd (C10 k x u) sz)) (va_Qi (S := Unit) (fun r _ => r = sp_sight p0) (fun uu t => PO D (va_A (C10 k x u) sz) ((fun _ => ([] : va_W)) uu) t) (va_A (C10 k x u) sz)) 0 0 (va_A (C10 k x u) sz) := by
  refine Met.ofW (cc := cX10_sight) (maxL := 5) (ret := (some .int)) (by decide) rfl ?_
  intro p e s m args below meth c s₁ B hml hv
  obtain ⟨rfl, hsz, hP, hK, hD0, hE, hX⟩ := hv
  have hx := B.exec
  have hb := B.bytes
  have hr := B.returns
  have hw : ∀ w ∈ wsB, w.before _ s = true := fun w h => atoms_spec (ws := wB yX10_sight cX10_sight 5 (some .int)) B.pre w (List.mem_cons_of_mem _ h)
  have hown : s.vm.findClass RX10 = some m.cls := findClass_of_methodNamed B.named
  have hlocks := B.notSynchronized
  subst hsz
  have hD := hD0.self (sz := s.heap.size)
  generalize hAe : va_A (C10 k x u) s.heap.size = A at hD hX ⊢
  have hA : ∀ q : Nat, s.heap.size ≤ q → A q := fun q h => by rw [← hAe]; exact Or.inr h
  have hS : va_S A s.heap s.heap [] := va_S.rf
  have hl := lv_entry ([.ref x, .int p0, .int p1, .int p2]) (n := 5) (Nat.le_of_ble_eq_true rfl)
  rw [lg_entry_eq]
  generalize (lg_sl ([.ref x, .int p0, .int p1, .int p2]) ++ List.replicate (5 - (lg_sl ([.ref x, .int p0, .int p1, .int p2])).length) Slot.unset).toArray = ls at hl ⊢
  have hl : lv_has ls 5 [(0, .ref x), (1, .int p0), (2, .int p1), (3, .int p2)] := hl
  refine lv_iload_n hx hb dX10_sight_0 rfl (lv_at hl 1 rfl) ?_
  refine lv_iconst (v := (-1)) hx hb dX10_sight_1 (by decide) ?_
  refine lv_icmp_ne (tgt := 15) hx hb dX10_sight_2 (by decide) (fun c_1 => ?_) (fun c_1 => ?_)
  · refine lv_aload_n hx hb dX10_sight_15 rfl (lv_at hl 0 rfl) ?_
    refine va_get (D := D) (ci := 10) (v := .ref (u 1)) (C := RX10) (T := TX10) (N := 80) hx hb hw inlX10 hown hK hP 0 rfl rfl 1 (by decide) (hw _ wd_1136) (fun _ h9 => h9) rfl dX10_sight_16 ?_
    refine lv_bipush (v := 11) hx hb dX10_sight_19 (by decide) ?_
    refine va_iald hx hb hK hP 1 0 rfl rfl (i := 11) (by unfold vp_in; decide) dX10_sight_21 ?_
    refine x_top (v := 0) rfl ?_
    refine lv_istore (lv' := [(4, .int 0), (0, .ref x), (1, .int p0), (2, .int p1), (3, .int p2)]) hx hb dX10_sight_22 hl (by decide) rfl (fun ls hl => ?_)
    refine lv_aload_n hx hb dX10_sight_24 rfl (lv_at hl 1 rfl) ?_
    refine lv_iload_n hx hb dX10_sight_25 rfl (lv_at hl 2 rfl) ?_
    refine x_i (wr := ([] : va_W)) (va_runV (As := [.int p0]) (rest := []) ⟨hx, hb, hml, hown, hw⟩ (kX10_isLog l D k sd x u p0 s.heap.size) (cwV 1 hw (gV wd_1679 wd_1681 wp_78 wd_11 wd_1682) rfl rfl rfl (by decide +kernel) ⟨Nat.le_of_ble_eq_true rfl, Nat.le_of_ble_eq_true rfl⟩) (pre_V (ci := 10) (r := (RX10, TX10, 80)) hK hE hX hP hD hS hA [0, 1] (by decide) rfl rfl (q0 := 0) rfl) rfl rfl hl.1 rfl (lv_room (Nat.le_of_ble_eq_true rfl)) dX10_sight_26 ⟨Nat.le_of_ble_eq_true rfl, Nat.le_of_ble_eq_true rfl⟩) hP hD hS hA [0, 1] [] rfl rfl (by decide) (by decide) (fun r_4 u_2 H locs hp_3 hP hD hS => ?_)
    subst hp_3
    have hP : va_P D vwCl (C10 k x u) H := hP
    have hD : va_D A (C10 k x u) := hD
    refine lv_if_eq (tgt := 64) hx hb dX10_sight_29 (by decide) (fun _ => ?_) (fun h => absurd (by decide) h)
    refine lv_bipush (v := (-2)) hx hb dX10_sight_64 (by decide) ?_
    refine W.widen (k := 0) (n := 0) (Nat.le_of_ble_eq_true rfl) (Nat.le_of_ble_eq_true rfl) ?_
    have hP9 : va_P D vwCl ((fun _ => ([] : va_W)) ()) H := hP.sub [] rfl
    have hD9 : va_D A ((fun _ => ([] : va_W)) ()) := hD.sub [] (by decide) rfl
    exact W.iret (v := (-2)) hx hb hr (fun t ht hW => ⟨⟨(-2), (), rfl, (by rw [sp_sight, if_neg c_1]), by rw [ht]; exact hP9, hD9⟩, hS.F ht⟩) hS.2.2 dX10_sight_66
  · refine lv_aload_n hx hb dX10_sight_5 rfl (lv_at hl 0 rfl) ?_
    refine va_get (D := D) (ci := 10) (v := .ref (u 1)) (C := RX10) (T := TX10) (N := 80) hx hb hw inlX10 hown hK hP 0 rfl rfl 1 (by decide) (hw _ wd_1136) (fun _ h9 => h9) rfl dX10_sight_6 ?_
    refine lv_bipush (v := 11) hx hb dX10_sight_9 (by decide) ?_
    refine lv_iconst (v := 0) hx hb dX10_sight_11 (by decide) ?_
    refine va_iast hx hb hK hP hD hS 1 0 rfl rfl (i := 11) (by unfold vp_in; decide) dX10_sight_12 (fun H locs hP hD hS => ?_)
    have hP : va_P D vwCl ([(x, .inr (10, [.int 0, .ref (u 1), .ref (u 2), .ref (u 3), .ref (u 4), .ref (u 5), .ref (u 6), .ref (u 7), .ref (u 8), .ref (u 9), .ref (u 10), .ref (u 11), .ref (u 12), .ref (u 13), .ref (u 14), .ref (u 15), .ref (u 16), .ref (u 17), .ref (u 18), .ref (u 19), .ref (u 20), .ref (u 21), .ref (u 22), .ref (u 23), .ref (u 24), .ref (u 25), .ref (u 26), .ref (u 27), .ref (u 28), .ref (u 29), .ref (u 30), .ref (u 31), .ref (u 32), .ref (u 33), .ref (u 34), .ref (u 35), .ref (u 36), .int 0, .int 0, .int 0, .int 0, .int 0, .int 0, .int 0, .int 0, .int 0, .int 13, .int 0, .ref (u 48), .ref (u 49), .ref (u 50), .ref (u 51), .ref (u 52), .ref (u 53), .ref (u 54), .ref (u 55), .ref (u 56), .ref (u 57), .ref (u 58), .ref (u 59), .ref (u 60), .int 0, .int 0, .int 0, .int 0, .int 0, .int 0, .int 0, .ref (u 68), .ref (u 69), .ref (u 70), .ref (u 71), .ref (u 72), .int 0, .int 0, .ref (u 75), .ref (u 76), .ref (u 77), .int 0, .int 0])), (u 1, .inl (k 0, 17, .inl (upd (scal0) 11 0)))]) H := hP
    have hD : va_D A ([(x, .inr (10, [.int 0, .ref (u 1), .ref (u 2), .ref (u 3), .ref (u 4), .ref (u 5), .ref (u 6), .ref (u 7), .ref (u 8), .ref (u 9), .ref (u 10), .ref (u 11), .ref (u 12), .ref (u 13), .ref (u 14), .ref (u 15), .ref (u 16), .ref (u 17), .ref (u 18), .ref (u 19), .ref (u 20), .ref (u 21), .ref (u 22), .ref (u 23), .ref (u 24), .ref (u 25), .ref (u 26), .ref (u 27), .ref (u 28), .ref (u 29), .ref (u 30), .ref (u 31), .ref (u 32), .ref (u 33), .ref (u 34), .ref (u 35), .ref (u 36), .int 0, .int 0, .int 0, .int 0, .int 0, .int 0, .int 0, .int 0, .int 0, .int 13, .int 0, .ref (u 48), .ref (u 49), .ref (u 50), .ref (u 51), .ref (u 52), .ref (u 53), .ref (u 54), .ref (u 55), .ref (u 56), .ref (u 57), .ref (u 58), .ref (u 59), .ref (u 60), .int 0, .int 0, .int 0, .int 0, .int 0, .int 0, .int 0, .ref (u 68), .ref (u 69), .ref (u 70), .ref (u 71), .ref (u 72), .int 0, .int 0, .ref (u 75), .ref (u 76), .ref (u 77), .int 0, .int 0])), (u 1, .inl (k 0, 17, .inl (upd (scal0) 11 0)))]) := hD
    refine lv_iconst (v := 0) hx hb dX10_sight_13 (by decide) ?_
    refine W.widen (k := 0) (n := 0) (Nat.le_of_ble_eq_true rfl) (Nat.le_of_ble_eq_true rfl) ?_
    have hP9 : va_P D vwCl ((fun _ => ([] : va_W)) ()) H := hP.sub [] rfl
    have hD9 : va_D A ((fun _ => ([] : va_W)) ()) := hD.sub [] (by decide) rfl
    exact W.iret (v := 0) hx hb hr (fun t ht hW => ⟨⟨0, (), rfl, (by rw [sp_sight, if_pos c_1]), by rw [ht]; exact hP9, hD9⟩, hS.F ht⟩) hS.2.2 dX10_sight_14

set_option maxHeartbeats 4000000 in
set_option maxRecDepth 100000 in
theorem kX10_countOf (l : Launch) (D : va_G) (k : Nat → ClassId) (sd : Nat → Nat) (x : Nat) (u : Nat → Nat) (p0 : Int32) (p1 : Int32) (sz : Nat) : Met l yX10_countOf (wB yX10_countOf cX10_countOf 5 (some .int)) ({ frames := 0, cells := 0, slots := 0, locals := 0 }) (va_Pc [.ref x, .int p0, .int p1] (PRE D k sd (C10 k x u) sz)) (va_Qi (S := Unit) (fun r _ => r = 0) (fun uu t => PO D (va_A (C10 k x u) sz) ((fun _ => C10 k x u) uu) t) (va_A (C10 k x u) sz)) 0 0 (va_A (C10 k x u) sz) := by
  refine Met.ofW (cc := cX10_countOf) (maxL := 5) (ret := (some .int)) (by decide) rfl ?_
  intro p e s m args below meth c s₁ B hml hv
  obtain ⟨rfl, hsz, hP, hK, hD0, hE, hX⟩ := hv
  have hx := B.exec
  have hb := B.bytes
  have hr := B.returns
  have hw : ∀ w ∈ wsB, w.before _ s = true := fun w h => atoms_spec (ws := wB yX10_countOf cX10_countOf 5 (some .int)) B.pre w (List.mem_cons_of_mem _ h)
  have hown : s.vm.findClass RX10 = some m.cls := findClass_of_methodNamed B.named
  have hlocks := B.notSynchronized
  subst hsz
  have hD := hD0.self (sz := s.heap.size)
  generalize hAe : va_A (C10 k x u) s.heap.size = A at hD hX ⊢
  have hA : ∀ q : Nat, s.heap.size ≤ q → A q := fun q h => by rw [← hAe]; exact Or.inr h
  have hS : va_S A s.heap s.heap [] := va_S.rf
  have hl := lv_entry ([.ref x, .int p0, .int p1]) (n := 5) (Nat.le_of_ble_eq_true rfl)
  rw [lg_entry_eq]
  generalize (lg_sl ([.ref x, .int p0, .int p1]) ++ List.replicate (5 - (lg_sl ([.ref x, .int p0, .int p1])).length) Slot.unset).toArray = ls at hl ⊢
  have hl : lv_has ls 5 [(0, .ref x), (1, .int p0), (2, .int p1)] := hl
  refine lv_iconst (v := 0) hx hb dX10_countOf_0 (by decide) ?_
  refine lv_istore_n (lv' := [(3, .int 0), (0, .ref x), (1, .int p0), (2, .int p1)]) hx hb dX10_countOf_1 rfl hl (by decide) rfl (fun ls hl => ?_)
  refine lv_iconst (v := 0) hx hb dX10_countOf_2 (by decide) ?_
  refine lv_istore (lv' := [(4, .int 0), (3, .int 0), (0, .ref x), (1, .int p0), (2, .int p1)]) hx hb dX10_countOf_3 hl (by decide) rfl (fun ls hl => ?_)
  refine lv_iload hx hb dX10_countOf_5 (lv_at hl 0 rfl) ?_
  refine lv_aload_n hx hb dX10_countOf_7 rfl (lv_at hl 2 rfl) ?_
  refine va_get (D := D) (ci := 10) (v := .ref (u 1)) (C := RX10) (T := TX10) (N := 80) hx hb hw inlX10 hown hK hP 0 rfl rfl 1 (by decide) (hw _ wd_1136) (fun _ h9 => h9) rfl dX10_countOf_8 ?_
  refine lv_iconst (v := 3) hx hb dX10_countOf_11 (by decide) ?_
  refine va_iald hx hb hK hP 1 0 rfl rfl (i := 3) (by unfold vp_in; decide) dX10_countOf_12 ?_
  refine x_top (v := 0) rfl ?_
  refine lv_icmp_ge (tgt := 48) hx hb dX10_countOf_13 (by decide) (fun _ => ?_) (fun h => absurd (by decide) h)
  refine lv_iload_n hx hb dX10_countOf_48 rfl (lv_at hl 1 rfl) ?_
  refine W.widen (k := 0) (n := 0) (Nat.le_of_ble_eq_true rfl) (Nat.le_of_ble_eq_true rfl) ?_
  have hP9 : va_P D vwCl ((fun _ => C10 k x u) ()) s.heap := hP.sub [0, 1] rfl
  have hD9 : va_D A ((fun _ => C10 k x u) ()) := hD.sub [0, 1] (by decide) rfl
  exact W.iret (v := 0) hx hb hr (fun t ht hW => ⟨⟨0, (), rfl, rfl, by rw [ht]; exact hP9, hD9⟩, hS.F ht⟩) hS.2.2 dX10_countOf_49

set_option maxHeartbeats 4000000 in
set_option maxRecDepth 100000 in
theorem kX10_count (l : Launch) (D : va_G) (k : Nat → ClassId) (sd : Nat → Nat) (x : Nat) (u : Nat → Nat) (p0 : Int32) (sz : Nat) : Met l yX10_count (wB yX10_count cX10_count 2 (some .int)) ({ frames := 1, cells := 0, slots := 0, locals := 24 }) (va_Pc [.ref x, .int p0] (PRE D k sd (C10 k x u) sz)) (va_Qi (S := Unit) (fun r _ => r = sp_count p0) (fun uu t => PO D (va_A (C10 k x u) sz) ((fun _ => ([] : va_W)) uu) t) (va_A (C10 k x u) sz)) 0 0 (va_A (C10 k x u) sz) := by
  refine Met.ofW (cc := cX10_count) (maxL := 2) (ret := (some .int)) (by decide) rfl ?_
  intro p e s m args below meth c s₁ B hml hv
  obtain ⟨rfl, hsz, hP, hK, hD0, hE, hX⟩ := hv
  have hx := B.exec
  have hb := B.bytes
  have hr := B.returns
  have hw : ∀ w ∈ wsB, w.before _ s = true := fun w h => atoms_spec (ws := wB yX10_count cX10_count 2 (some .int)) B.pre w (List.mem_cons_of_mem _ h)
  have hown : s.vm.findClass RX10 = some m.cls := findClass_of_methodNamed B.named
  have hlocks := B.notSynchronized
  subst hsz
  have hD := hD0.self (sz := s.heap.size)
  generalize hAe : va_A (C10 k x u) s.heap.size = A at hD hX ⊢
  have hA : ∀ q : Nat, s.heap.size ≤ q → A q := fun q h => by rw [← hAe]; exact Or.inr h
  have hS : va_S A s.heap s.heap [] := va_S.rf
  have hl := lv_entry ([.ref x, .int p0]) (n := 2) (Nat.le_of_ble_eq_true rfl)
  rw [lg_entry_eq]
  generalize (lg_sl ([.ref x, .int p0]) ++ List.replicate (2 - (lg_sl ([.ref x, .int p0])).length) Slot.unset).toArray = ls at hl ⊢
  have hl : lv_has ls 2 [(0, .ref x), (1, .int p0)] := hl
  refine lv_iload_n hx hb dX10_count_0 rfl (lv_at hl 1 rfl) ?_
  by_cases n_1 : p0 = 0
  · subst n_1
    refine lv_tableIn (tgt := 96) hx hb dX10_count_1 (by decide) (by decide) rfl (by decide) ?_
    refine lv_aload_n hx hb dX10_count_96 rfl (lv_at hl 0 rfl) ?_
    refine va_get (D := D) (ci := 10) (v := .ref (u 1)) (C := RX10) (T := TX10) (N := 80) hx hb hw inlX10 hown hK hP 0 rfl rfl 1 (by decide) (hw _ wd_1136) (fun _ h9 => h9) rfl dX10_count_97 ?_
    refine lv_iconst (v := 0) hx hb dX10_count_100 (by decide) ?_
    refine va_iald hx hb hK hP 1 0 rfl rfl (i := 0) (by unfold vp_in; decide) dX10_count_101 ?_
    refine x_top (v := 0) rfl ?_
    refine W.widen (k := 0) (n := 0) (Nat.le_of_ble_eq_true rfl) (Nat.le_of_ble_eq_true rfl) ?_
    have hP9 : va_P D vwCl ((fun _ => ([] : va_W)) ()) s.heap := hP.sub [] rfl
    have hD9 : va_D A ((fun _ => ([] : va_W)) ()) := hD.sub [] (by decide) rfl
    exact W.iret (v := 0) hx hb hr (fun t ht hW => ⟨⟨0, (), rfl, (by decide), by rw [ht]; exact hP9, hD9⟩, hS.F ht⟩) hS.2.2 dX10_count_102
  by_cases n_2 : p0 = 1
  · subst n_2
    refine lv_tableIn (tgt := 103) hx hb dX10_count_1 (by decide) (by decide) rfl (by decide) ?_
    refine lv_aload_n hx hb dX10_count_103 rfl (lv_at hl 0 rfl) ?_
    refine va_get (D := D) (ci := 10) (v := .ref (u 1)) (C := RX10) (T := TX10) (N := 80) hx hb hw inlX10 hown hK hP 0 rfl rfl 1 (by decide) (hw _ wd_1136) (fun _ h9 => h9) rfl dX10_count_104 ?_
    refine lv_iconst (v := 1) hx hb dX10_count_107 (by decide) ?_
    refine va_iald hx hb hK hP 1 0 rfl rfl (i := 1) (by unfold vp_in; decide) dX10_count_108 ?_
    refine x_top (v := 0) rfl ?_
    refine W.widen (k := 0) (n := 0) (Nat.le_of_ble_eq_true rfl) (Nat.le_of_ble_eq_true rfl) ?_
    have hP9 : va_P D vwCl ((fun _ => ([] : va_W)) ()) s.heap := hP.sub [] rfl
    have hD9 : va_D A ((fun _ => ([] : va_W)) ()) := hD.sub [] (by decide) rfl
    exact W.iret (v := 0) hx hb hr (fun t ht hW => ⟨⟨0, (), rfl, (by decide), by rw [ht]; exact hP9, hD9⟩, hS.F ht⟩) hS.2.2 dX10_count_109
  by_cases n_3 : p0 = 2
  · subst n_3
    refine lv_tableIn (tgt := 110) hx hb dX10_count_1 (by decide) (by decide) rfl (by decide) ?_
    refine lv_aload_n hx hb dX10_count_110 rfl (lv_at hl 0 rfl) ?_
    refine va_get (D := D) (ci := 10) (v := .ref (u 1)) (C := RX10) (T := TX10) (N := 80) hx hb hw inlX10 hown hK hP 0 rfl rfl 1 (by decide) (hw _ wd_1136) (fun _ h9 => h9) rfl dX10_count_111 ?_
    refine lv_iconst (v := 2) hx hb dX10_count_114 (by decide) ?_
    refine va_iald hx hb hK hP 1 0 rfl rfl (i := 2) (by unfold vp_in; decide) dX10_count_115 ?_
    refine x_top (v := 0) rfl ?_
    refine W.widen (k := 0) (n := 0) (Nat.le_of_ble_eq_true rfl) (Nat.le_of_ble_eq_true rfl) ?_
    have hP9 : va_P D vwCl ((fun _ => ([] : va_W)) ()) s.heap := hP.sub [] rfl
    have hD9 : va_D A ((fun _ => ([] : va_W)) ()) := hD.sub [] (by decide) rfl
    exact W.iret (v := 0) hx hb hr (fun t ht hW => ⟨⟨0, (), rfl, (by decide), by rw [ht]; exact hP9, hD9⟩, hS.F ht⟩) hS.2.2 dX10_count_116
  by_cases n_4 : p0 = 3
  · subst n_4
    refine lv_tableIn (tgt := 117) hx hb dX10_count_1 (by decide) (by decide) rfl (by decide) ?_
    refine lv_aload_n hx hb dX10_count_117 rfl (lv_at hl 0 rfl) ?_
    refine va_get (D := D) (ci := 10) (v := .ref (u 1)) (C := RX10) (T := TX10) (N := 80) hx hb hw inlX10 hown hK hP 0 rfl rfl 1 (by decide) (hw _ wd_1136) (fun _ h9 => h9) rfl dX10_count_118 ?_
    refine lv_iconst (v := 3) hx hb dX10_count_121 (by decide) ?_
    refine va_iald hx hb hK hP 1 0 rfl rfl (i := 3) (by unfold vp_in; decide) dX10_count_122 ?_
    refine x_top (v := 0) rfl ?_
    refine W.widen (k := 0) (n := 0) (Nat.le_of_ble_eq_true rfl) (Nat.le_of_ble_eq_true rfl) ?_
    have hP9 : va_P D vwCl ((fun _ => ([] : va_W)) ()) s.heap := hP.sub [] rfl
    have hD9 : va_D A ((fun _ => ([] : va_W)) ()) := hD.sub [] (by decide) rfl
    exact W.iret (v := 0) hx hb hr (fun t ht hW => ⟨⟨0, (), rfl, (by decide), by rw [ht]; exact hP9, hD9⟩, hS.F ht⟩) hS.2.2 dX10_count_123
  by_cases n_5 : p0 = 4
  · subst n_5
    refine lv_tableIn (tgt := 124) hx hb dX10_count_1 (by decide) (by decide) rfl (by decide) ?_
    refine lv_aload_n hx hb dX10_count_124 rfl (lv_at hl 0 rfl) ?_
    refine va_get (D := D) (ci := 10) (v := .int 0) (C := RX10) (T := TX10) (N := 80) hx hb hw inlX10 hown hK hP 0 rfl rfl 41 (by decide) (hw _ wd_1176) (fun _ h9 => h9) rfl dX10_count_125 ?_
    refine W.widen (k := 0) (n := 0) (Nat.le_of_ble_eq_true rfl) (Nat.le_of_ble_eq_true rfl) ?_
    have hP9 : va_P D vwCl ((fun _ => ([] : va_W)) ()) s.heap := hP.sub [] rfl
    have hD9 : va_D A ((fun _ => ([] : va_W)) ()) := hD.sub [] (by decide) rfl
    exact W.iret (v := 0) hx hb hr (fun t ht hW => ⟨⟨0, (), rfl, (by decide), by rw [ht]; exact hP9, hD9⟩, hS.F ht⟩) hS.2.2 dX10_count_128
  by_cases n_6 : p0 = 5
  · subst n_6
    refine lv_tableIn (tgt := 129) hx hb dX10_count_1 (by decide) (by decide) rfl (by decide) ?_
    refine lv_aload_n hx hb dX10_count_129 rfl (lv_at hl 0 rfl) ?_
    refine va_get (D := D) (ci := 10) (v := .ref (u 1)) (C := RX10) (T := TX10) (N := 80) hx hb hw inlX10 hown hK hP 0 rfl rfl 1 (by decide) (hw _ wd_1136) (fun _ h9 => h9) rfl dX10_count_130 ?_
    refine lv_bipush (v := 15) hx hb dX10_count_133 (by decide) ?_
    refine va_iald hx hb hK hP 1 0 rfl rfl (i := 15) (by unfold vp_in; decide) dX10_count_135 ?_
    refine x_top (v := (-1)) rfl ?_
    refine W.widen (k := 0) (n := 0) (Nat.le_of_ble_eq_true rfl) (Nat.le_of_ble_eq_true rfl) ?_
    have hP9 : va_P D vwCl ((fun _ => ([] : va_W)) ()) s.heap := hP.sub [] rfl
    have hD9 : va_D A ((fun _ => ([] : va_W)) ()) := hD.sub [] (by decide) rfl
    exact W.iret (v := (-1)) hx hb hr (fun t ht hW => ⟨⟨(-1), (), rfl, (by decide), by rw [ht]; exact hP9, hD9⟩, hS.F ht⟩) hS.2.2 dX10_count_136
  by_cases n_7 : p0 = 6
  · subst n_7
    refine lv_tableIn (tgt := 137) hx hb dX10_count_1 (by decide) (by decide) rfl (by decide) ?_
    refine lv_aload_n hx hb dX10_count_137 rfl (lv_at hl 0 rfl) ?_
    refine va_get (D := D) (ci := 10) (v := .ref (u 1)) (C := RX10) (T := TX10) (N := 80) hx hb hw inlX10 hown hK hP 0 rfl rfl 1 (by decide) (hw _ wd_1136) (fun _ h9 => h9) rfl dX10_count_138 ?_
    refine lv_iconst (v := 5) hx hb dX10_count_141 (by decide) ?_
    refine va_iald hx hb hK hP 1 0 rfl rfl (i := 5) (by unfold vp_in; decide) dX10_count_142 ?_
    refine x_top (v := 0) rfl ?_
    refine W.widen (k := 0) (n := 0) (Nat.le_of_ble_eq_true rfl) (Nat.le_of_ble_eq_true rfl) ?_
    have hP9 : va_P D vwCl ((fun _ => ([] : va_W)) ()) s.heap := hP.sub [] rfl
    have hD9 : va_D A ((fun _ => ([] : va_W)) ()) := hD.sub [] (by decide) rfl
    exact W.iret (v := 0) hx hb hr (fun t ht hW => ⟨⟨0, (), rfl, (by decide), by rw [ht]; exact hP9, hD9⟩, hS.F ht⟩) hS.2.2 dX10_count_143
  by_cases n_8 : p0 = 7
  · subst n_8
    refine lv_tableIn (tgt := 144) hx hb dX10_count_1 (by decide) (by decide) rfl (by decide) ?_
    refine lv_aload_n hx hb dX10_count_144 rfl (lv_at hl 0 rfl) ?_
    refine va_get (D := D) (ci := 10) (v := .ref (u 1)) (C := RX10) (T := TX10) (N := 80) hx hb hw inlX10 hown hK hP 0 rfl rfl 1 (by decide) (hw _ wd_1136) (fun _ h9 => h9) rfl dX10_count_145 ?_
    refine lv_bipush (v := 7) hx hb dX10_count_148 (by decide) ?_
    refine va_iald hx hb hK hP 1 0 rfl rfl (i := 7) (by unfold vp_in; decide) dX10_count_150 ?_
    refine x_top (v := 0) rfl ?_
    refine W.widen (k := 0) (n := 0) (Nat.le_of_ble_eq_true rfl) (Nat.le_of_ble_eq_true rfl) ?_
    have hP9 : va_P D vwCl ((fun _ => ([] : va_W)) ()) s.heap := hP.sub [] rfl
    have hD9 : va_D A ((fun _ => ([] : va_W)) ()) := hD.sub [] (by decide) rfl
    exact W.iret (v := 0) hx hb hr (fun t ht hW => ⟨⟨0, (), rfl, (by decide), by rw [ht]; exact hP9, hD9⟩, hS.F ht⟩) hS.2.2 dX10_count_151
  by_cases n_9 : p0 = 8
  · subst n_9
    refine lv_tableIn (tgt := 152) hx hb dX10_count_1 (by decide) (by decide) rfl (by decide) ?_
    refine lv_aload_n hx hb dX10_count_152 rfl (lv_at hl 0 rfl) ?_
    refine va_get (D := D) (ci := 10) (v := .ref (u 1)) (C := RX10) (T := TX10) (N := 80) hx hb hw inlX10 hown hK hP 0 rfl rfl 1 (by decide) (hw _ wd_1136) (fun _ h9 => h9) rfl dX10_count_153 ?_
    refine lv_bipush (v := 8) hx hb dX10_count_156 (by decide) ?_
    refine va_iald hx hb hK hP 1 0 rfl rfl (i := 8) (by unfold vp_in; decide) dX10_count_158 ?_
    refine x_top (v := 0) rfl ?_
    refine W.widen (k := 0) (n := 0) (Nat.le_of_ble_eq_true rfl) (Nat.le_of_ble_eq_true rfl) ?_
    have hP9 : va_P D vwCl ((fun _ => ([] : va_W)) ()) s.heap := hP.sub [] rfl
    have hD9 : va_D A ((fun _ => ([] : va_W)) ()) := hD.sub [] (by decide) rfl
    exact W.iret (v := 0) hx hb hr (fun t ht hW => ⟨⟨0, (), rfl, (by decide), by rw [ht]; exact hP9, hD9⟩, hS.F ht⟩) hS.2.2 dX10_count_159
  by_cases n_10 : p0 = 9
  · subst n_10
    refine lv_tableIn (tgt := 160) hx hb dX10_count_1 (by decide) (by decide) rfl (by decide) ?_
    refine lv_aload_n hx hb dX10_count_160 rfl (lv_at hl 0 rfl) ?_
    refine lv_iconst (v := 0) hx hb dX10_count_161 (by decide) ?_
    refine lv_bipush (v := 8) hx hb dX10_count_162 (by decide) ?_
    refine x_i (wr := ([] : va_W)) (va_runV (As := [.int 0, .int 8]) (rest := []) ⟨hx, hb, hml, hown, hw⟩ (kX10_countOf l D k sd x u 0 8 s.heap.size) (cwV 2 hw (gV wd_1962 wd_1964 wp_113 wd_11 wd_1965) rfl rfl rfl (by decide +kernel) ⟨Nat.le_of_ble_eq_true rfl, Nat.le_of_ble_eq_true rfl⟩) (pre_V (ci := 10) (r := (RX10, TX10, 80)) hK hE hX hP hD hS hA [0, 1] (by decide) rfl rfl (q0 := 0) rfl) rfl rfl hl.1 rfl (lv_room (Nat.le_of_ble_eq_true rfl)) dX10_count_164 ⟨Nat.le_of_ble_eq_true rfl, Nat.le_of_ble_eq_true rfl⟩) hP hD hS hA [0, 1] [] rfl rfl (by decide) (by decide) (fun r_13 u_11 H locs hp_12 hP hD hS => ?_)
    subst hp_12
    have hP : va_P D vwCl (C10 k x u) H := hP
    have hD : va_D A (C10 k x u) := hD
    refine W.widen (k := 0) (n := 0) (Nat.le_of_ble_eq_true rfl) (Nat.le_of_ble_eq_true rfl) ?_
    have hP9 : va_P D vwCl ((fun _ => ([] : va_W)) ()) H := hP.sub [] rfl
    have hD9 : va_D A ((fun _ => ([] : va_W)) ()) := hD.sub [] (by decide) rfl
    exact W.iret (v := 0) hx hb hr (fun t ht hW => ⟨⟨0, (), rfl, (by decide), by rw [ht]; exact hP9, hD9⟩, hS.F ht⟩) hS.2.2 dX10_count_167
  by_cases n_14 : p0 = 10
  · subst n_14
    refine lv_tableIn (tgt := 168) hx hb dX10_count_1 (by decide) (by decide) rfl (by decide) ?_
    refine lv_aload_n hx hb dX10_count_168 rfl (lv_at hl 0 rfl) ?_
    refine lv_bipush (v := 40) hx hb dX10_count_169 (by decide) ?_
    refine lv_bipush (v := 40) hx hb dX10_count_171 (by decide) ?_
    refine x_i (wr := ([] : va_W)) (va_runV (As := [.int 40, .int 40]) (rest := []) ⟨hx, hb, hml, hown, hw⟩ (kX10_countOf l D k sd x u 40 40 s.heap.size) (cwV 2 hw (gV wd_1962 wd_1964 wp_113 wd_11 wd_1965) rfl rfl rfl (by decide +kernel) ⟨Nat.le_of_ble_eq_true rfl, Nat.le_of_ble_eq_true rfl⟩) (pre_V (ci := 10) (r := (RX10, TX10, 80)) hK hE hX hP hD hS hA [0, 1] (by decide) rfl rfl (q0 := 0) rfl) rfl rfl hl.1 rfl (lv_room (Nat.le_of_ble_eq_true rfl)) dX10_count_173 ⟨Nat.le_of_ble_eq_true rfl, Nat.le_of_ble_eq_true rfl⟩) hP hD hS hA [0, 1] [] rfl rfl (by decide) (by decide) (fun r_17 u_15 H locs hp_16 hP hD hS => ?_)
    subst hp_16
    have hP : va_P D vwCl (C10 k x u) H := hP
    have hD : va_D A (C10 k x u) := hD
    refine W.widen (k := 0) (n := 0) (Nat.le_of_ble_eq_true rfl) (Nat.le_of_ble_eq_true rfl) ?_
    have hP9 : va_P D vwCl ((fun _ => ([] : va_W)) ()) H := hP.sub [] rfl
    have hD9 : va_D A ((fun _ => ([] : va_W)) ()) := hD.sub [] (by decide) rfl
    exact W.iret (v := 0) hx hb hr (fun t ht hW => ⟨⟨0, (), rfl, (by decide), by rw [ht]; exact hP9, hD9⟩, hS.F ht⟩) hS.2.2 dX10_count_176
  by_cases n_18 : p0 = 11
  · subst n_18
    refine lv_tableIn (tgt := 177) hx hb dX10_count_1 (by decide) (by decide) rfl (by decide) ?_
    refine lv_aload_n hx hb dX10_count_177 rfl (lv_at hl 0 rfl) ?_
    refine lv_bipush (v := 41) hx hb dX10_count_178 (by decide) ?_
    refine lv_bipush (v := 41) hx hb dX10_count_180 (by decide) ?_
    refine x_i (wr := ([] : va_W)) (va_runV (As := [.int 41, .int 41]) (rest := []) ⟨hx, hb, hml, hown, hw⟩ (kX10_countOf l D k sd x u 41 41 s.heap.size) (cwV 2 hw (gV wd_1962 wd_1964 wp_113 wd_11 wd_1965) rfl rfl rfl (by decide +kernel) ⟨Nat.le_of_ble_eq_true rfl, Nat.le_of_ble_eq_true rfl⟩) (pre_V (ci := 10) (r := (RX10, TX10, 80)) hK hE hX hP hD hS hA [0, 1] (by decide) rfl rfl (q0 := 0) rfl) rfl rfl hl.1 rfl (lv_room (Nat.le_of_ble_eq_true rfl)) dX10_count_182 ⟨Nat.le_of_ble_eq_true rfl, Nat.le_of_ble_eq_true rfl⟩) hP hD hS hA [0, 1] [] rfl rfl (by decide) (by decide) (fun r_21 u_19 H locs hp_20 hP hD hS => ?_)
    subst hp_20
    have hP : va_P D vwCl (C10 k x u) H := hP
    have hD : va_D A (C10 k x u) := hD
    refine W.widen (k := 0) (n := 0) (Nat.le_of_ble_eq_true rfl) (Nat.le_of_ble_eq_true rfl) ?_
    have hP9 : va_P D vwCl ((fun _ => ([] : va_W)) ()) H := hP.sub [] rfl
    have hD9 : va_D A ((fun _ => ([] : va_W)) ()) := hD.sub [] (by decide) rfl
    exact W.iret (v := 0) hx hb hr (fun t ht hW => ⟨⟨0, (), rfl, (by decide), by rw [ht]; exact hP9, hD9⟩, hS.F ht⟩) hS.2.2 dX10_count_185
  by_cases n_22 : p0 = 12
  · subst n_22
    refine lv_tableIn (tgt := 186) hx hb dX10_count_1 (by decide) (by decide) rfl (by decide) ?_
    refine lv_aload_n hx hb dX10_count_186 rfl (lv_at hl 0 rfl) ?_
    refine va_get (D := D) (ci := 10) (v := .ref (u 1)) (C := RX10) (T := TX10) (N := 80) hx hb hw inlX10 hown hK hP 0 rfl rfl 1 (by decide) (hw _ wd_1136) (fun _ h9 => h9) rfl dX10_count_187 ?_
    refine lv_bipush (v := 9) hx hb dX10_count_190 (by decide) ?_
    refine va_iald hx hb hK hP 1 0 rfl rfl (i := 9) (by unfold vp_in; decide) dX10_count_192 ?_
    refine x_top (v := 0) rfl ?_
    refine W.widen (k := 0) (n := 0) (Nat.le_of_ble_eq_true rfl) (Nat.le_of_ble_eq_true rfl) ?_
    have hP9 : va_P D vwCl ((fun _ => ([] : va_W)) ()) s.heap := hP.sub [] rfl
    have hD9 : va_D A ((fun _ => ([] : va_W)) ()) := hD.sub [] (by decide) rfl
    exact W.iret (v := 0) hx hb hr (fun t ht hW => ⟨⟨0, (), rfl, (by decide), by rw [ht]; exact hP9, hD9⟩, hS.F ht⟩) hS.2.2 dX10_count_193
  by_cases n_23 : p0 = 13
  · subst n_23
    refine lv_tableIn (tgt := 194) hx hb dX10_count_1 (by decide) (by decide) rfl (by decide) ?_
    refine lv_aload_n hx hb dX10_count_194 rfl (lv_at hl 0 rfl) ?_
    refine va_get (D := D) (ci := 10) (v := .ref (u 1)) (C := RX10) (T := TX10) (N := 80) hx hb hw inlX10 hown hK hP 0 rfl rfl 1 (by decide) (hw _ wd_1136) (fun _ h9 => h9) rfl dX10_count_195 ?_
    refine lv_bipush (v := 10) hx hb dX10_count_198 (by decide) ?_
    refine va_iald hx hb hK hP 1 0 rfl rfl (i := 10) (by unfold vp_in; decide) dX10_count_200 ?_
    refine x_top (v := 0) rfl ?_
    refine W.widen (k := 0) (n := 0) (Nat.le_of_ble_eq_true rfl) (Nat.le_of_ble_eq_true rfl) ?_
    have hP9 : va_P D vwCl ((fun _ => ([] : va_W)) ()) s.heap := hP.sub [] rfl
    have hD9 : va_D A ((fun _ => ([] : va_W)) ()) := hD.sub [] (by decide) rfl
    exact W.iret (v := 0) hx hb hr (fun t ht hW => ⟨⟨0, (), rfl, (by decide), by rw [ht]; exact hP9, hD9⟩, hS.F ht⟩) hS.2.2 dX10_count_201
  by_cases n_24 : p0 = 14
  · subst n_24
    refine lv_tableIn (tgt := 202) hx hb dX10_count_1 (by decide) (by decide) rfl (by decide) ?_
    refine lv_aload_n hx hb dX10_count_202 rfl (lv_at hl 0 rfl) ?_
    refine va_get (D := D) (ci := 10) (v := .ref (u 1)) (C := RX10) (T := TX10) (N := 80) hx hb hw inlX10 hown hK hP 0 rfl rfl 1 (by decide) (hw _ wd_1136) (fun _ h9 => h9) rfl dX10_count_203 ?_
    refine lv_bipush (v := 11) hx hb dX10_count_206 (by decide) ?_
    refine va_iald hx hb hK hP 1 0 rfl rfl (i := 11) (by unfold vp_in; decide) dX10_count_208 ?_
    refine x_top (v := 0) rfl ?_
    refine W.widen (k := 0) (n := 0) (Nat.le_of_ble_eq_true rfl) (Nat.le_of_ble_eq_true rfl) ?_
    have hP9 : va_P D vwCl ((fun _ => ([] : va_W)) ()) s.heap := hP.sub [] rfl
    have hD9 : va_D A ((fun _ => ([] : va_W)) ()) := hD.sub [] (by decide) rfl
    exact W.iret (v := 0) hx hb hr (fun t ht hW => ⟨⟨0, (), rfl, (by decide), by rw [ht]; exact hP9, hD9⟩, hS.F ht⟩) hS.2.2 dX10_count_209
  by_cases n_25 : p0 = 15
  · subst n_25
    refine lv_tableIn (tgt := 210) hx hb dX10_count_1 (by decide) (by decide) rfl (by decide) ?_
    refine lv_aload_n hx hb dX10_count_210 rfl (lv_at hl 0 rfl) ?_
    refine va_get (D := D) (ci := 10) (v := .ref (u 1)) (C := RX10) (T := TX10) (N := 80) hx hb hw inlX10 hown hK hP 0 rfl rfl 1 (by decide) (hw _ wd_1136) (fun _ h9 => h9) rfl dX10_count_211 ?_
    refine lv_bipush (v := 12) hx hb dX10_count_214 (by decide) ?_
    refine va_iald hx hb hK hP 1 0 rfl rfl (i := 12) (by unfold vp_in; decide) dX10_count_216 ?_
    refine x_top (v := 0) rfl ?_
    refine W.widen (k := 0) (n := 0) (Nat.le_of_ble_eq_true rfl) (Nat.le_of_ble_eq_true rfl) ?_
    have hP9 : va_P D vwCl ((fun _ => ([] : va_W)) ()) s.heap := hP.sub [] rfl
    have hD9 : va_D A ((fun _ => ([] : va_W)) ()) := hD.sub [] (by decide) rfl
    exact W.iret (v := 0) hx hb hr (fun t ht hW => ⟨⟨0, (), rfl, (by decide), by rw [ht]; exact hP9, hD9⟩, hS.F ht⟩) hS.2.2 dX10_count_217
  by_cases n_26 : p0 = 16
  · subst n_26
    refine lv_tableIn (tgt := 218) hx hb dX10_count_1 (by decide) (by decide) rfl (by decide) ?_
    refine lv_aload_n hx hb dX10_count_218 rfl (lv_at hl 0 rfl) ?_
    refine va_get (D := D) (ci := 10) (v := .ref (u 1)) (C := RX10) (T := TX10) (N := 80) hx hb hw inlX10 hown hK hP 0 rfl rfl 1 (by decide) (hw _ wd_1136) (fun _ h9 => h9) rfl dX10_count_219 ?_
    refine lv_bipush (v := 13) hx hb dX10_count_222 (by decide) ?_
    refine va_iald hx hb hK hP 1 0 rfl rfl (i := 13) (by unfold vp_in; decide) dX10_count_224 ?_
    refine x_top (v := 0) rfl ?_
    refine W.widen (k := 0) (n := 0) (Nat.le_of_ble_eq_true rfl) (Nat.le_of_ble_eq_true rfl) ?_
    have hP9 : va_P D vwCl ((fun _ => ([] : va_W)) ()) s.heap := hP.sub [] rfl
    have hD9 : va_D A ((fun _ => ([] : va_W)) ()) := hD.sub [] (by decide) rfl
    exact W.iret (v := 0) hx hb hr (fun t ht hW => ⟨⟨0, (), rfl, (by decide), by rw [ht]; exact hP9, hD9⟩, hS.F ht⟩) hS.2.2 dX10_count_225
  by_cases n_27 : p0 = 17
  · subst n_27
    refine lv_tableIn (tgt := 226) hx hb dX10_count_1 (by decide) (by decide) rfl (by decide) ?_
    refine lv_aload_n hx hb dX10_count_226 rfl (lv_at hl 0 rfl) ?_
    refine va_get (D := D) (ci := 10) (v := .ref (u 1)) (C := RX10) (T := TX10) (N := 80) hx hb hw inlX10 hown hK hP 0 rfl rfl 1 (by decide) (hw _ wd_1136) (fun _ h9 => h9) rfl dX10_count_227 ?_
    refine lv_bipush (v := 16) hx hb dX10_count_230 (by decide) ?_
    refine va_iald hx hb hK hP 1 0 rfl rfl (i := 16) (by unfold vp_in; decide) dX10_count_232 ?_
    refine x_top (v := 0) rfl ?_
    refine W.widen (k := 0) (n := 0) (Nat.le_of_ble_eq_true rfl) (Nat.le_of_ble_eq_true rfl) ?_
    have hP9 : va_P D vwCl ((fun _ => ([] : va_W)) ()) s.heap := hP.sub [] rfl
    have hD9 : va_D A ((fun _ => ([] : va_W)) ()) := hD.sub [] (by decide) rfl
    exact W.iret (v := 0) hx hb hr (fun t ht hW => ⟨⟨0, (), rfl, (by decide), by rw [ht]; exact hP9, hD9⟩, hS.F ht⟩) hS.2.2 dX10_count_233
  by_cases n_28 : p0 = 18
  · subst n_28
    refine lv_tableIn (tgt := 234) hx hb dX10_count_1 (by decide) (by decide) rfl (by decide) ?_
    refine lv_aload_n hx hb dX10_count_234 rfl (lv_at hl 0 rfl) ?_
    refine va_get (D := D) (ci := 10) (v := .int 0) (C := RX10) (T := TX10) (N := 80) hx hb hw inlX10 hown hK hP 0 rfl rfl 37 (by decide) (hw _ wd_1172) (fun _ h9 => h9) rfl dX10_count_235 ?_
    refine W.widen (k := 0) (n := 0) (Nat.le_of_ble_eq_true rfl) (Nat.le_of_ble_eq_true rfl) ?_
    have hP9 : va_P D vwCl ((fun _ => ([] : va_W)) ()) s.heap := hP.sub [] rfl
    have hD9 : va_D A ((fun _ => ([] : va_W)) ()) := hD.sub [] (by decide) rfl
    exact W.iret (v := 0) hx hb hr (fun t ht hW => ⟨⟨0, (), rfl, (by decide), by rw [ht]; exact hP9, hD9⟩, hS.F ht⟩) hS.2.2 dX10_count_238
  by_cases n_29 : p0 = 19
  · subst n_29
    refine lv_tableIn (tgt := 239) hx hb dX10_count_1 (by decide) (by decide) rfl (by decide) ?_
    refine lv_aload_n hx hb dX10_count_239 rfl (lv_at hl 0 rfl) ?_
    refine va_get (D := D) (ci := 10) (v := .ref (u 1)) (C := RX10) (T := TX10) (N := 80) hx hb hw inlX10 hown hK hP 0 rfl rfl 1 (by decide) (hw _ wd_1136) (fun _ h9 => h9) rfl dX10_count_240 ?_
    refine lv_iconst (v := 4) hx hb dX10_count_243 (by decide) ?_
    refine va_iald hx hb hK hP 1 0 rfl rfl (i := 4) (by unfold vp_in; decide) dX10_count_244 ?_
    refine x_top (v := 0) rfl ?_
    refine W.widen (k := 0) (n := 0) (Nat.le_of_ble_eq_true rfl) (Nat.le_of_ble_eq_true rfl) ?_
    have hP9 : va_P D vwCl ((fun _ => ([] : va_W)) ()) s.heap := hP.sub [] rfl
    have hD9 : va_D A ((fun _ => ([] : va_W)) ()) := hD.sub [] (by decide) rfl
    exact W.iret (v := 0) hx hb hr (fun t ht hW => ⟨⟨0, (), rfl, (by decide), by rw [ht]; exact hP9, hD9⟩, hS.F ht⟩) hS.2.2 dX10_count_245
  refine lv_tableOut (tgt := 246) hx hb dX10_count_1 (by have en_1 := lv_neT (a := 0) n_1 (by decide); have en_2 := lv_neT (a := 1) n_2 (by decide); have en_3 := lv_neT (a := 2) n_3 (by decide); have en_4 := lv_neT (a := 3) n_4 (by decide); have en_5 := lv_neT (a := 4) n_5 (by decide); have en_6 := lv_neT (a := 5) n_6 (by decide); have en_7 := lv_neT (a := 6) n_7 (by decide); have en_8 := lv_neT (a := 7) n_8 (by decide); have en_9 := lv_neT (a := 8) n_9 (by decide); have en_10 := lv_neT (a := 9) n_10 (by decide); have en_14 := lv_neT (a := 10) n_14 (by decide); have en_18 := lv_neT (a := 11) n_18 (by decide); have en_22 := lv_neT (a := 12) n_22 (by decide); have en_23 := lv_neT (a := 13) n_23 (by decide); have en_24 := lv_neT (a := 14) n_24 (by decide); have en_25 := lv_neT (a := 15) n_25 (by decide); have en_26 := lv_neT (a := 16) n_26 (by decide); have en_27 := lv_neT (a := 17) n_27 (by decide); have en_28 := lv_neT (a := 18) n_28 (by decide); have en_29 := lv_neT (a := 19) n_29 (by decide); omega) (by decide) ?_
  refine lv_iconst (v := (-1)) hx hb dX10_count_246 (by decide) ?_
  refine W.widen (k := 0) (n := 0) (Nat.le_of_ble_eq_true rfl) (Nat.le_of_ble_eq_true rfl) ?_
  have hP9 : va_P D vwCl ((fun _ => ([] : va_W)) ()) s.heap := hP.sub [] rfl
  have hD9 : va_D A ((fun _ => ([] : va_W)) ()) := hD.sub [] (by decide) rfl
  exact W.iret (v := (-1)) hx hb hr (fun t ht hW => ⟨⟨(-1), (), rfl, (by rw [sp_count, if_neg n_1, if_neg n_2, if_neg n_3, if_neg n_4, if_neg n_5, if_neg n_6, if_neg n_7, if_neg n_8, if_neg n_9, if_neg n_10, if_neg n_14, if_neg n_18, sp_kept, if_neg n_22, if_neg n_23, if_neg n_24, if_neg n_25, if_neg n_26, if_neg n_27, if_neg n_28, if_neg n_29]), by rw [ht]; exact hP9, hD9⟩, hS.F ht⟩) hS.2.2 dX10_count_247
