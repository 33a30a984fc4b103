set_option maxHeartbeats 4000000 in
set_option maxRecDepth 100000 in
theorem kX9_hasRiver (l : Launch) (D : va_G) (k : Nat → ClassId) (sd : Nat → Nat) (x : Nat) (u : Nat → Nat → Nat) (sz : Nat) : Met l yX9_hasRiver (wB yX9_hasRiver cX9_hasRiver 1 (some .boolean)) ({ frames := 0, cells := 0, slots := 0, locals := 0 }) (va_Pc [.ref x] (PRE D k sd (C9 k x u) sz)) (va_Qi (S := Unit) (fun r _ => r = 0) (fun uu t => PO D (va_A (C9 k x u) sz) ((fun _ => C9 k x u) uu) t) (va_A (C9 k x u) sz)) 0 0 (va_A (C9 k x u) sz) := by
  refine Met.ofW (cc := cX9_hasRiver) (maxL := 1) (ret := (some .boolean)) (by decide) rfl ?_
  intro p e s m args below meth c s₁ B hml hv
  obtain ⟨rfl, hsz, hP, hK, hD0, hE, hX⟩ := hv
  have hx := B.exec
  have hb := B.bytes
  have hr := B.returns
  have hw : ∀ w ∈ wsB, w.before _ s = true := fun w h => atoms_spec (ws := wB yX9_hasRiver cX9_hasRiver 1 (some .boolean)) B.pre w (List.mem_cons_of_mem _ h)
  have hown : s.vm.findClass RX9 = some m.cls := findClass_of_methodNamed B.named
  have hlocks := B.notSynchronized
  subst hsz
  have hD := hD0.self (sz := s.heap.size)
  generalize hAe : va_A (C9 k x u) s.heap.size = A at hD hX ⊢
  have hA : ∀ q : Nat, s.heap.size ≤ q → A q := fun q h => by rw [← hAe]; exact Or.inr h
  have hS : va_S A s.heap s.heap [] := va_S.rf
  have hl := lv_entry ([.ref x]) (n := 1) (Nat.le_of_ble_eq_true rfl)
  rw [lg_entry_eq]
  generalize (lg_sl ([.ref x]) ++ List.replicate (1 - (lg_sl ([.ref x])).length) Slot.unset).toArray = ls at hl ⊢
  have hl : lv_has ls 1 [(0, .ref x)] := hl
  refine lv_aload_n hx hb dX9_hasRiver_0 rfl (lv_at hl 0 rfl) ?_
  refine va_get (D := D) (ci := 9) (v := .ref (u 0 4)) (C := RX9) (T := TX9) (N := 12) hx hb hw inlX9 hown hK hP 0 rfl rfl 5 (by decide) (hw _ wd_424) (fun _ h9 => h9) rfl dX9_hasRiver_1 ?_
  refine va_get (D := D) (ci := 8) (v := .ref (u 0 5)) (C := RX8) (T := TX8) (N := 9) hx hb hw inlX8 hown hK hP 1 rfl rfl 0 (by decide) (hw _ wd_358) (fun _ h9 => h9) rfl dX9_hasRiver_4 ?_
  refine va_get (D := D) (ci := 2) (v := .int 0) (C := RX2) (T := TX2) (N := 12) hx hb hw inlX2 hown hK hP 2 rfl rfl 0 (by decide) (hw _ wd_74) (fun _ h9 => h9) rfl dX9_hasRiver_7 ?_
  refine lv_if_le (tgt := 17) hx hb dX9_hasRiver_10 (by decide) (fun _ => ?_) (fun h => absurd (by decide) h)
  refine lv_iconst (v := 0) hx hb dX9_hasRiver_17 (by decide) ?_
  refine W.widen (k := 0) (n := 0) (Nat.le_of_ble_eq_true rfl) (Nat.le_of_ble_eq_true rfl) ?_
  have hP9 : va_P D vwCl ((fun _ => C9 k x u) ()) s.heap := hP.sub [0, 1, 2, 3, 4, 5] rfl
  have hD9 : va_D A ((fun _ => C9 k x u) ()) := hD.sub [0, 1, 2, 3, 4, 5] (by decide) rfl
  exact W.zret (v := 0) (ty := .boolean) hx hb hr rfl (fun t ht hW => ⟨⟨0, (), rfl, rfl, by rw [ht]; exact hP9, hD9⟩, hS.F ht⟩) hS.2.2 dX9_hasRiver_18

set_option maxHeartbeats 4000000 in
set_option maxRecDepth 100000 in
theorem kX9_isBend (l : Launch) (D : va_G) (k : Nat → ClassId) (sd : Nat → Nat) (x : Nat) (u : Nat → Nat → Nat) (p0 : Int32) (sz : Nat) : Met l yX9_isBend (wB yX9_isBend cX9_isBend 2 (some .boolean)) ({ frames := 0, cells := 0, slots := 0, locals := 0 }) (va_Pc [.ref x, .int p0] (PRE D k sd (C9 k x u) sz)) (va_Qi (S := Unit) (fun r _ => r = 0) (fun uu t => PO D (va_A (C9 k x u) sz) ((fun _ => C9 k x u) uu) t) (va_A (C9 k x u) sz)) 0 0 (va_A (C9 k x u) sz) := by
  refine Met.ofW (cc := cX9_isBend) (maxL := 2) (ret := (some .boolean)) (by decide) rfl ?_
  intro p e s m args below meth c s₁ B hml hv
  obtain ⟨rfl, hsz, hP, hK, hD0, hE, hX⟩ := hv
  have hx := B.exec
  have hb := B.bytes
  have hr := B.returns
  have hw : ∀ w ∈ wsB, w.before _ s = true := fun w h => atoms_spec (ws := wB yX9_isBend cX9_isBend 2 (some .boolean)) B.pre w (List.mem_cons_of_mem _ h)
  have hown : s.vm.findClass RX9 = some m.cls := findClass_of_methodNamed B.named
  have hlocks := B.notSynchronized
  subst hsz
  have hD := hD0.self (sz := s.heap.size)
  generalize hAe : va_A (C9 k x u) s.heap.size = A at hD hX ⊢
  have hA : ∀ q : Nat, s.heap.size ≤ q → A q := fun q h => by rw [← hAe]; exact Or.inr h
  have hS : va_S A s.heap s.heap [] := va_S.rf
  have hl := lv_entry ([.ref x, .int p0]) (n := 2) (Nat.le_of_ble_eq_true rfl)
  rw [lg_entry_eq]
  generalize (lg_sl ([.ref x, .int p0]) ++ List.replicate (2 - (lg_sl ([.ref x, .int p0])).length) Slot.unset).toArray = ls at hl ⊢
  have hl : lv_has ls 2 [(0, .ref x), (1, .int p0)] := hl
  refine lv_iload_n hx hb dX9_isBend_0 rfl (lv_at hl 1 rfl) ?_
  refine lv_if_lt (tgt := 22) hx hb dX9_isBend_1 (by decide) (fun c_1 => ?_) (fun c_1 => ?_)
  · refine lv_iconst (v := 0) hx hb dX9_isBend_22 (by decide) ?_
    refine W.widen (k := 0) (n := 0) (Nat.le_of_ble_eq_true rfl) (Nat.le_of_ble_eq_true rfl) ?_
    have hP9 : va_P D vwCl ((fun _ => C9 k x u) ()) s.heap := hP.sub [0, 1, 2, 3, 4, 5] rfl
    have hD9 : va_D A ((fun _ => C9 k x u) ()) := hD.sub [0, 1, 2, 3, 4, 5] (by decide) rfl
    exact W.zret (v := 0) (ty := .boolean) hx hb hr rfl (fun t ht hW => ⟨⟨0, (), rfl, rfl, by rw [ht]; exact hP9, hD9⟩, hS.F ht⟩) hS.2.2 dX9_isBend_23
  · refine lv_iload_n hx hb dX9_isBend_4 rfl (lv_at hl 1 rfl) ?_
    refine lv_aload_n hx hb dX9_isBend_5 rfl (lv_at hl 0 rfl) ?_
    refine va_get (D := D) (ci := 9) (v := .ref (u 0 4)) (C := RX9) (T := TX9) (N := 12) hx hb hw inlX9 hown hK hP 0 rfl rfl 5 (by decide) (hw _ wd_424) (fun _ h9 => h9) rfl dX9_isBend_6 ?_
    refine va_get (D := D) (ci := 8) (v := .ref (u 0 5)) (C := RX8) (T := TX8) (N := 9) hx hb hw inlX8 hown hK hP 1 rfl rfl 0 (by decide) (hw _ wd_358) (fun _ h9 => h9) rfl dX9_isBend_9 ?_
    refine va_get (D := D) (ci := 2) (v := .int 0) (C := RX2) (T := TX2) (N := 12) hx hb hw inlX2 hown hK hP 2 rfl rfl 0 (by decide) (hw _ wd_74) (fun _ h9 => h9) rfl dX9_isBend_12 ?_
    refine lv_icmp_ge (tgt := 22) hx hb dX9_isBend_15 (by decide) (fun _ => ?_) (fun h => absurd (Int32.not_lt.mp c_1) h)
    refine lv_iconst (v := 0) hx hb dX9_isBend_22 (by decide) ?_
    refine W.widen (k := 0) (n := 0) (Nat.le_of_ble_eq_true rfl) (Nat.le_of_ble_eq_true rfl) ?_
    have hP9 : va_P D vwCl ((fun _ => C9 k x u) ()) s.heap := hP.sub [0, 1, 2, 3, 4, 5] rfl
    have hD9 : va_D A ((fun _ => C9 k x u) ()) := hD.sub [0, 1, 2, 3, 4, 5] (by decide) rfl
    exact W.zret (v := 0) (ty := .boolean) hx hb hr rfl (fun t ht hW => ⟨⟨0, (), rfl, rfl, by rw [ht]; exact hP9, hD9⟩, hS.F ht⟩) hS.2.2 dX9_isBend_23

set_option maxHeartbeats 4000000 in
set_option maxRecDepth 100000 in
theorem kX9_isVillage (l : Launch) (D : va_G) (k : Nat → ClassId) (sd : Nat → Nat) (x : Nat) (u : Nat → Nat → Nat) (p0 : Int32) (sz : Nat) : Met l yX9_isVillage (wB yX9_isVillage cX9_isVillage 2 (some .boolean)) ({ frames := 0, cells := 0, slots := 0, locals := 0 }) (va_Pc [.ref x, .int p0] (PRE D k sd (C9 k x u) sz)) (va_Qi (S := Unit) (fun r _ => r = 0) (fun uu t => PO D (va_A (C9 k x u) sz) ((fun _ => C9 k x u) uu) t) (va_A (C9 k x u) sz)) 0 0 (va_A (C9 k x u) sz) := by
  refine Met.ofW (cc := cX9_isVillage) (maxL := 2) (ret := (some .boolean)) (by decide) rfl ?_
  intro p e s m args below meth c s₁ B hml hv
  obtain ⟨rfl, hsz, hP, hK, hD0, hE, hX⟩ := hv
  have hx := B.exec
  have hb := B.bytes
  have hr := B.returns
  have hw : ∀ w ∈ wsB, w.before _ s = true := fun w h => atoms_spec (ws := wB yX9_isVillage cX9_isVillage 2 (some .boolean)) B.pre w (List.mem_cons_of_mem _ h)
  have hown : s.vm.findClass RX9 = some m.cls := findClass_of_methodNamed B.named
  have hlocks := B.notSynchronized
  subst hsz
  have hD := hD0.self (sz := s.heap.size)
  generalize hAe : va_A (C9 k x u) s.heap.size = A at hD hX ⊢
  have hA : ∀ q : Nat, s.heap.size ≤ q → A q := fun q h => by rw [← hAe]; exact Or.inr h
  have hS : va_S A s.heap s.heap [] := va_S.rf
  have hl := lv_entry ([.ref x, .int p0]) (n := 2) (Nat.le_of_ble_eq_true rfl)
  rw [lg_entry_eq]
  generalize (lg_sl ([.ref x, .int p0]) ++ List.replicate (2 - (lg_sl ([.ref x, .int p0])).length) Slot.unset).toArray = ls at hl ⊢
  have hl : lv_has ls 2 [(0, .ref x), (1, .int p0)] := hl
  refine lv_iload_n hx hb dX9_isVillage_0 rfl (lv_at hl 1 rfl) ?_
  refine lv_if_lt (tgt := 22) hx hb dX9_isVillage_1 (by decide) (fun c_1 => ?_) (fun c_1 => ?_)
  · refine lv_iconst (v := 0) hx hb dX9_isVillage_22 (by decide) ?_
    refine W.widen (k := 0) (n := 0) (Nat.le_of_ble_eq_true rfl) (Nat.le_of_ble_eq_true rfl) ?_
    have hP9 : va_P D vwCl ((fun _ => C9 k x u) ()) s.heap := hP.sub [0, 1, 2, 3, 4, 5] rfl
    have hD9 : va_D A ((fun _ => C9 k x u) ()) := hD.sub [0, 1, 2, 3, 4, 5] (by decide) rfl
    exact W.zret (v := 0) (ty := .boolean) hx hb hr rfl (fun t ht hW => ⟨⟨0, (), rfl, rfl, by rw [ht]; exact hP9, hD9⟩, hS.F ht⟩) hS.2.2 dX9_isVillage_23
  · refine lv_iload_n hx hb dX9_isVillage_4 rfl (lv_at hl 1 rfl) ?_
    refine lv_aload_n hx hb dX9_isVillage_5 rfl (lv_at hl 0 rfl) ?_
    refine va_get (D := D) (ci := 9) (v := .ref (u 0 4)) (C := RX9) (T := TX9) (N := 12) hx hb hw inlX9 hown hK hP 0 rfl rfl 5 (by decide) (hw _ wd_424) (fun _ h9 => h9) rfl dX9_isVillage_6 ?_
    refine va_get (D := D) (ci := 8) (v := .ref (u 0 5)) (C := RX8) (T := TX8) (N := 9) hx hb hw inlX8 hown hK hP 1 rfl rfl 0 (by decide) (hw _ wd_358) (fun _ h9 => h9) rfl dX9_isVillage_9 ?_
    refine va_get (D := D) (ci := 2) (v := .int 0) (C := RX2) (T := TX2) (N := 12) hx hb hw inlX2 hown hK hP 2 rfl rfl 1 (by decide) (hw _ wd_78) (fun _ h9 => h9) rfl dX9_isVillage_12 ?_
    refine lv_icmp_ge (tgt := 22) hx hb dX9_isVillage_15 (by decide) (fun _ => ?_) (fun h => absurd (Int32.not_lt.mp c_1) h)
    refine lv_iconst (v := 0) hx hb dX9_isVillage_22 (by decide) ?_
    refine W.widen (k := 0) (n := 0) (Nat.le_of_ble_eq_true rfl) (Nat.le_of_ble_eq_true rfl) ?_
    have hP9 : va_P D vwCl ((fun _ => C9 k x u) ()) s.heap := hP.sub [0, 1, 2, 3, 4, 5] rfl
    have hD9 : va_D A ((fun _ => C9 k x u) ()) := hD.sub [0, 1, 2, 3, 4, 5] (by decide) rfl
    exact W.zret (v := 0) (ty := .boolean) hx hb hr rfl (fun t ht hW => ⟨⟨0, (), rfl, rfl, by rw [ht]; exact hP9, hD9⟩, hS.F ht⟩) hS.2.2 dX9_isVillage_23

set_option maxHeartbeats 4000000 in
set_option maxRecDepth 100000 in
theorem kX9_isLog (l : Launch) (D : va_G) (k : Nat → ClassId) (sd : Nat → Nat) (x : Nat) (u : Nat → Nat → Nat) (p0 : Int32) (sz : Nat) : Met l yX9_isLog (wB yX9_isLog cX9_isLog 2 (some .boolean)) ({ frames := 0, cells := 0, slots := 0, locals := 0 }) (va_Pc [.ref x, .int p0] (PRE D k sd (C9 k x u) sz)) (va_Qi (S := Unit) (fun r _ => r = 0) (fun uu t => PO D (va_A (C9 k x u) sz) ((fun _ => C9 k x u) uu) t) (va_A (C9 k x u) sz)) 0 0 (va_A (C9 k x u) sz) := by
  refine Met.ofW (cc := cX9_isLog) (maxL := 2) (ret := (some .boolean)) (by decide) rfl ?_
  intro p e s m args below meth c s₁ B hml hv
  obtain ⟨rfl, hsz, hP, hK, hD0, hE, hX⟩ := hv
  have hx := B.exec
  have hb := B.bytes
  have hr := B.returns
  have hw : ∀ w ∈ wsB, w.before _ s = true := fun w h => atoms_spec (ws := wB yX9_isLog cX9_isLog 2 (some .boolean)) B.pre w (List.mem_cons_of_mem _ h)
  have hown : s.vm.findClass RX9 = some m.cls := findClass_of_methodNamed B.named
  have hlocks := B.notSynchronized
  subst hsz
  have hD := hD0.self (sz := s.heap.size)
  generalize hAe : va_A (C9 k x u) s.heap.size = A at hD hX ⊢
  have hA : ∀ q : Nat, s.heap.size ≤ q → A q := fun q h => by rw [← hAe]; exact Or.inr h
  have hS : va_S A s.heap s.heap [] := va_S.rf
  have hl := lv_entry ([.ref x, .int p0]) (n := 2) (Nat.le_of_ble_eq_true rfl)
  rw [lg_entry_eq]
  generalize (lg_sl ([.ref x, .int p0]) ++ List.replicate (2 - (lg_sl ([.ref x, .int p0])).length) Slot.unset).toArray = ls at hl ⊢
  have hl : lv_has ls 2 [(0, .ref x), (1, .int p0)] := hl
  refine lv_iload_n hx hb dX9_isLog_0 rfl (lv_at hl 1 rfl) ?_
  refine lv_if_lt (tgt := 22) hx hb dX9_isLog_1 (by decide) (fun c_1 => ?_) (fun c_1 => ?_)
  · refine lv_iconst (v := 0) hx hb dX9_isLog_22 (by decide) ?_
    refine W.widen (k := 0) (n := 0) (Nat.le_of_ble_eq_true rfl) (Nat.le_of_ble_eq_true rfl) ?_
    have hP9 : va_P D vwCl ((fun _ => C9 k x u) ()) s.heap := hP.sub [0, 1, 2, 3, 4, 5] rfl
    have hD9 : va_D A ((fun _ => C9 k x u) ()) := hD.sub [0, 1, 2, 3, 4, 5] (by decide) rfl
    exact W.zret (v := 0) (ty := .boolean) hx hb hr rfl (fun t ht hW => ⟨⟨0, (), rfl, rfl, by rw [ht]; exact hP9, hD9⟩, hS.F ht⟩) hS.2.2 dX9_isLog_23
  · refine lv_iload_n hx hb dX9_isLog_4 rfl (lv_at hl 1 rfl) ?_
    refine lv_aload_n hx hb dX9_isLog_5 rfl (lv_at hl 0 rfl) ?_
    refine va_get (D := D) (ci := 9) (v := .ref (u 0 4)) (C := RX9) (T := TX9) (N := 12) hx hb hw inlX9 hown hK hP 0 rfl rfl 5 (by decide) (hw _ wd_424) (fun _ h9 => h9) rfl dX9_isLog_6 ?_
    refine va_get (D := D) (ci := 8) (v := .ref (u 0 5)) (C := RX8) (T := TX8) (N := 9) hx hb hw inlX8 hown hK hP 1 rfl rfl 0 (by decide) (hw _ wd_358) (fun _ h9 => h9) rfl dX9_isLog_9 ?_
    refine va_get (D := D) (ci := 2) (v := .int 0) (C := RX2) (T := TX2) (N := 12) hx hb hw inlX2 hown hK hP 2 rfl rfl 3 (by decide) (hw _ wd_86) (fun _ h9 => h9) rfl dX9_isLog_12 ?_
    refine lv_icmp_ge (tgt := 22) hx hb dX9_isLog_15 (by decide) (fun _ => ?_) (fun h => absurd (Int32.not_lt.mp c_1) h)
    refine lv_iconst (v := 0) hx hb dX9_isLog_22 (by decide) ?_
    refine W.widen (k := 0) (n := 0) (Nat.le_of_ble_eq_true rfl) (Nat.le_of_ble_eq_true rfl) ?_
    have hP9 : va_P D vwCl ((fun _ => C9 k x u) ()) s.heap := hP.sub [0, 1, 2, 3, 4, 5] rfl
    have hD9 : va_D A ((fun _ => C9 k x u) ()) := hD.sub [0, 1, 2, 3, 4, 5] (by decide) rfl
    exact W.zret (v := 0) (ty := .boolean) hx hb hr rfl (fun t ht hW => ⟨⟨0, (), rfl, rfl, by rw [ht]; exact hP9, hD9⟩, hS.F ht⟩) hS.2.2 dX9_isLog_23

set_option maxHeartbeats 4000000 in
set_option maxRecDepth 100000 in
theorem kX9_areKept (l : Launch) (D : va_G) (k : Nat → ClassId) (sd : Nat → Nat) (x : Nat) (u : Nat → Nat → Nat) (p0 : Int32) (p1 : Int32) (p2 : Int32) (sz : Nat) : Met l yX9_areKept (wB yX9_areKept cX9_areKept 4 (some .boolean)) ({ frames := 1, cells := 0, slots := 0, locals := 21 }) (va_Pc [.ref x, .int p0, .int p1, .int p2] (PRE D k sd (C9 k x u) sz)) (va_Qi (S := Unit) (fun r _ => r = 0) (fun uu t => PO D (va_A (C9 k x u) sz) ((fun _ => C9 k x u) uu) t) (va_A (C9 k x u) sz)) 0 0 (va_A (C9 k x u) sz) := by
  refine Met.ofW (cc := cX9_areKept) (maxL := 4) (ret := (some .boolean)) (by decide) rfl ?_
  intro p e s m args below meth c s₁ B hml hv
  obtain ⟨rfl, hsz, hP, hK, hD0, hE, hX⟩ := hv
  have hx := B.exec
  have hb := B.bytes
  have hr := B.returns
  have hw : ∀ w ∈ wsB, w.before _ s = true := fun w h => atoms_spec (ws := wB yX9_areKept cX9_areKept 4 (some .boolean)) B.pre w (List.mem_cons_of_mem _ h)
  have hown : s.vm.findClass RX9 = some m.cls := findClass_of_methodNamed B.named
  have hlocks := B.notSynchronized
  subst hsz
  have hD := hD0.self (sz := s.heap.size)
  generalize hAe : va_A (C9 k x u) s.heap.size = A at hD hX ⊢
  have hA : ∀ q : Nat, s.heap.size ≤ q → A q := fun q h => by rw [← hAe]; exact Or.inr h
  have hS : va_S A s.heap s.heap [] := va_S.rf
  have hl := lv_entry ([.ref x, .int p0, .int p1, .int p2]) (n := 4) (Nat.le_of_ble_eq_true rfl)
  rw [lg_entry_eq]
  generalize (lg_sl ([.ref x, .int p0, .int p1, .int p2]) ++ List.replicate (4 - (lg_sl ([.ref x, .int p0, .int p1, .int p2])).length) Slot.unset).toArray = ls at hl ⊢
  have hl : lv_has ls 4 [(0, .ref x), (1, .int p0), (2, .int p1), (3, .int p2)] := hl
  refine lv_aload_n hx hb dX9_areKept_0 rfl (lv_at hl 0 rfl) ?_
  refine lv_iload_n hx hb dX9_areKept_1 rfl (lv_at hl 1 rfl) ?_
  refine x_i (wr := ([] : va_W)) (va_runV (As := [.int p0]) (rest := []) ⟨hx, hb, hml, hown, hw⟩ (kX9_isLog l D k sd x u p0 s.heap.size) (cwV 1 hw (gV wd_769 wd_771 wp_15 wd_1 wd_772) rfl rfl rfl (by decide +kernel) ⟨Nat.le_of_ble_eq_true rfl, Nat.le_of_ble_eq_true rfl⟩) (pre_V (ci := 9) (r := (RX9, TX9, 12)) hK hE hX hP hD hS hA [0, 1, 2, 3, 4, 5] (by decide) rfl rfl (q0 := 0) rfl) rfl rfl hl.1 rfl (lv_room (Nat.le_of_ble_eq_true rfl)) dX9_areKept_2 ⟨Nat.le_of_ble_eq_true rfl, Nat.le_of_ble_eq_true rfl⟩) hP hD hS hA [0, 1, 2, 3, 4, 5] [] rfl rfl (by decide) (by decide) (fun r_3 u_1 H locs hp_2 hP hD hS => ?_)
  subst hp_2
  have hP : va_P D vwCl (C9 k x u) H := hP
  have hD : va_D A (C9 k x u) := hD
  refine lv_if_eq (tgt := 33) hx hb dX9_areKept_5 (by decide) (fun _ => ?_) (fun h => absurd (by decide) h)
  refine lv_iconst (v := 0) hx hb dX9_areKept_33 (by decide) ?_
  refine W.widen (k := 0) (n := 0) (Nat.le_of_ble_eq_true rfl) (Nat.le_of_ble_eq_true rfl) ?_
  have hP9 : va_P D vwCl ((fun _ => C9 k x u) ()) H := hP.sub [0, 1, 2, 3, 4, 5] rfl
  have hD9 : va_D A ((fun _ => C9 k x u) ()) := hD.sub [0, 1, 2, 3, 4, 5] (by decide) rfl
  exact W.zret (v := 0) (ty := .boolean) hx hb hr rfl (fun t ht hW => ⟨⟨0, (), rfl, rfl, by rw [ht]; exact hP9, hD9⟩, hS.F ht⟩) hS.2.2 dX9_areKept_34

set_option maxHeartbeats 4000000 in
set_option maxRecDepth 100000 in
theorem kX9_force (l : Launch) (D : va_G) (k : Nat → ClassId) (sd : Nat → Nat) (x : Nat) (u : Nat → Nat → Nat) (p0 : Int32) (sz : Nat) : Met l yX9_force (wB yX9_force cX9_force 3 (some .int)) ({ frames := 1, cells := 0, slots := 0, locals := 20 }) (va_Pc [.ref x, .int p0] (PRE D k sd (C9 k x u) sz)) (va_Qi (S := Unit) (fun r _ => r = (-2)) (fun uu t => PO D (va_A (C9 k x u) sz) ((fun _ => ([] : va_W)) uu) t) (va_A (C9 k x u) sz)) 0 0 (va_A (C9 k x u) sz) := by
  refine Met.ofW (cc := cX9_force) (maxL := 3) (ret := (some .int)) (by decide) rfl ?_
  intro p e s m args below meth c s₁ B hml hv
  obtain ⟨rfl, hsz, hP, hK, hD0, hE, hX⟩ := hv
  have hx := B.exec
  have hb := B.bytes
  have hr := B.returns
  have hw : ∀ w ∈ wsB, w.before _ s = true := fun w h => atoms_spec (ws := wB yX9_force cX9_force 3 (some .int)) B.pre w (List.mem_cons_of_mem _ h)
  have hown : s.vm.findClass RX9 = some m.cls := findClass_of_methodNamed B.named
  have hlocks := B.notSynchronized
  subst hsz
  have hD := hD0.self (sz := s.heap.size)
  generalize hAe : va_A (C9 k x u) s.heap.size = A at hD hX ⊢
  have hA : ∀ q : Nat, s.heap.size ≤ q → A q := fun q h => by rw [← hAe]; exact Or.inr h
  have hS : va_S A s.heap s.heap [] := va_S.rf
  have hl := lv_entry ([.ref x, .int p0]) (n := 3) (Nat.le_of_ble_eq_true rfl)
  rw [lg_entry_eq]
  generalize (lg_sl ([.ref x, .int p0]) ++ List.replicate (3 - (lg_sl ([.ref x, .int p0])).length) Slot.unset).toArray = ls at hl ⊢
  have hl : lv_has ls 3 [(0, .ref x), (1, .int p0)] := hl
  refine lv_aload_n hx hb dX9_force_0 rfl (lv_at hl 0 rfl) ?_
  refine x_i (wr := ([] : va_W)) (va_runV (As := []) (rest := []) ⟨hx, hb, hml, hown, hw⟩ (kX9_hasRiver l D k sd x u  s.heap.size) (cwV 0 hw (gV wd_669 wd_671 wp_8 wd_1 wd_672) rfl rfl rfl (by decide +kernel) ⟨Nat.le_of_ble_eq_true rfl, Nat.le_of_ble_eq_true rfl⟩) (pre_V (ci := 9) (r := (RX9, TX9, 12)) hK hE hX hP hD hS hA [0, 1, 2, 3, 4, 5] (by decide) rfl rfl (q0 := 0) rfl) rfl rfl hl.1 rfl (lv_room (Nat.le_of_ble_eq_true rfl)) dX9_force_1 ⟨Nat.le_of_ble_eq_true rfl, Nat.le_of_ble_eq_true rfl⟩) hP hD hS hA [0, 1, 2, 3, 4, 5] [] rfl rfl (by decide) (by decide) (fun r_3 u_1 H locs hp_2 hP hD hS => ?_)
  subst hp_2
  have hP : va_P D vwCl (C9 k x u) H := hP
  have hD : va_D A (C9 k x u) := hD
  refine lv_if_eq (tgt := 15) hx hb dX9_force_4 (by decide) (fun _ => ?_) (fun h => absurd (by decide) h)
  refine lv_bipush (v := (-2)) hx hb dX9_force_15 (by decide) ?_
  refine W.widen (k := 0) (n := 0) (Nat.le_of_ble_eq_true rfl) (Nat.le_of_ble_eq_true rfl) ?_
  have hP9 : va_P D vwCl ((fun _ => ([] : va_W)) ()) H := hP.sub [] rfl
  have hD9 : va_D A ((fun _ => ([] : va_W)) ()) := hD.sub [] (by decide) rfl
  exact W.iret (v := (-2)) hx hb hr (fun t ht hW => ⟨⟨(-2), (), rfl, rfl, by rw [ht]; exact hP9, hD9⟩, hS.F ht⟩) hS.2.2 dX9_force_17

set_option maxHeartbeats 4000000 in
set_option maxRecDepth 100000 in
theorem kX9_bind (l : Launch) (D : va_G) (k : Nat → ClassId) (sd : Nat → Nat) (x : Nat) (u : Nat → Nat → Nat) (p0 : Int32) (p1 : Int32) (sz : Nat) : Met l yX9_bind (wB yX9_bind cX9_bind 4 (some .int)) ({ frames := 1, cells := 0, slots := 0, locals := 21 }) (va_Pc [.ref x, .int p0, .int p1] (PRE D k sd (C9 k x u) sz)) (va_Qi (S := Unit) (fun r _ => r = (-2)) (fun uu t => PO D (va_A (C9 k x u) sz) ((fun _ => ([] : va_W)) uu) t) (va_A (C9 k x u) sz)) 0 0 (va_A (C9 k x u) sz) := by
  refine Met.ofW (cc := cX9_bind) (maxL := 4) (ret := (some .int)) (by decide) rfl ?_
  intro p e s m args below meth c s₁ B hml hv
  obtain ⟨rfl, hsz, hP, hK, hD0, hE, hX⟩ := hv
  have hx := B.exec
  have hb := B.bytes
  have hr := B.returns
  have hw : ∀ w ∈ wsB, w.before _ s = true := fun w h => atoms_spec (ws := wB yX9_bind cX9_bind 4 (some .int)) B.pre w (List.mem_cons_of_mem _ h)
  have hown : s.vm.findClass RX9 = some m.cls := findClass_of_methodNamed B.named
  have hlocks := B.notSynchronized
  subst hsz
  have hD := hD0.self (sz := s.heap.size)
  generalize hAe : va_A (C9 k x u) s.heap.size = A at hD hX ⊢
  have hA : ∀ q : Nat, s.heap.size ≤ q → A q := fun q h => by rw [← hAe]; exact Or.inr h
  have hS : va_S A s.heap s.heap [] := va_S.rf
  have hl := lv_entry ([.ref x, .int p0, .int p1]) (n := 4) (Nat.le_of_ble_eq_true rfl)
  rw [lg_entry_eq]
  generalize (lg_sl ([.ref x, .int p0, .int p1]) ++ List.replicate (4 - (lg_sl ([.ref x, .int p0, .int p1])).length) Slot.unset).toArray = ls at hl ⊢
  have hl : lv_has ls 4 [(0, .ref x), (1, .int p0), (2, .int p1)] := hl
  refine lv_aload_n hx hb dX9_bind_0 rfl (lv_at hl 0 rfl) ?_
  refine lv_iload_n hx hb dX9_bind_1 rfl (lv_at hl 1 rfl) ?_
  refine x_i (wr := ([] : va_W)) (va_runV (As := [.int p0]) (rest := []) ⟨hx, hb, hml, hown, hw⟩ (kX9_isVillage l D k sd x u p0 s.heap.size) (cwV 1 hw (gV wd_685 wd_687 wp_11 wd_1 wd_688) rfl rfl rfl (by decide +kernel) ⟨Nat.le_of_ble_eq_true rfl, Nat.le_of_ble_eq_true rfl⟩) (pre_V (ci := 9) (r := (RX9, TX9, 12)) hK hE hX hP hD hS hA [0, 1, 2, 3, 4, 5] (by decide) rfl rfl (q0 := 0) rfl) rfl rfl hl.1 rfl (lv_room (Nat.le_of_ble_eq_true rfl)) dX9_bind_2 ⟨Nat.le_of_ble_eq_true rfl, Nat.le_of_ble_eq_true rfl⟩) hP hD hS hA [0, 1, 2, 3, 4, 5] [] rfl rfl (by decide) (by decide) (fun r_3 u_1 H locs hp_2 hP hD hS => ?_)
  subst hp_2
  have hP : va_P D vwCl (C9 k x u) H := hP
  have hD : va_D A (C9 k x u) := hD
  refine lv_if_eq (tgt := 16) hx hb dX9_bind_5 (by decide) (fun _ => ?_) (fun h => absurd (by decide) h)
  refine lv_bipush (v := (-2)) hx hb dX9_bind_16 (by decide) ?_
  refine W.widen (k := 0) (n := 0) (Nat.le_of_ble_eq_true rfl) (Nat.le_of_ble_eq_true rfl) ?_
  have hP9 : va_P D vwCl ((fun _ => ([] : va_W)) ()) H := hP.sub [] rfl
  have hD9 : va_D A ((fun _ => ([] : va_W)) ()) := hD.sub [] (by decide) rfl
  exact W.iret (v := (-2)) hx hb hr (fun t ht hW => ⟨⟨(-2), (), rfl, rfl, by rw [ht]; exact hP9, hD9⟩, hS.F ht⟩) hS.2.2 dX9_bind_18

set_option maxHeartbeats 4000000 in
set_option maxRecDepth 100000 in
theorem kX9_law (l : Launch) (D : va_G) (k : Nat → ClassId) (sd : Nat → Nat) (x : Nat) (u : Nat → Nat → Nat) (p0 : Int32) (p1 : Int32) (sz : Nat) : Met l yX9_law (wB yX9_law cX9_law 4 (some .int)) ({ frames := 1, cells := 0, slots := 0, locals := 20 }) (va_Pc [.ref x, .int p0, .int p1] (PRE D k sd (C9 k x u) sz)) (va_Qi (S := Unit) (fun r _ => r = (-2)) (fun uu t => PO D (va_A (C9 k x u) sz) ((fun _ => ([] : va_W)) uu) t) (va_A (C9 k x u) sz)) 0 0 (va_A (C9 k x u) sz) := by
  refine Met.ofW (cc := cX9_law) (maxL := 4) (ret := (some .int)) (by decide) rfl ?_
  intro p e s m args below meth c s₁ B hml hv
  obtain ⟨rfl, hsz, hP, hK, hD0, hE, hX⟩ := hv
  have hx := B.exec
  have hb := B.bytes
  have hr := B.returns
  have hw : ∀ w ∈ wsB, w.before _ s = true := fun w h => atoms_spec (ws := wB yX9_law cX9_law 4 (some .int)) B.pre w (List.mem_cons_of_mem _ h)
  have hown : s.vm.findClass RX9 = some m.cls := findClass_of_methodNamed B.named
  have hlocks := B.notSynchronized
  subst hsz
  have hD := hD0.self (sz := s.heap.size)
  generalize hAe : va_A (C9 k x u) s.heap.size = A at hD hX ⊢
  have hA : ∀ q : Nat, s.heap.size ≤ q → A q := fun q h => by rw [← hAe]; exact Or.inr h
  have hS : va_S A s.heap s.heap [] := va_S.rf
  have hl := lv_entry ([.ref x, .int p0, .int p1]) (n := 4) (Nat.le_of_ble_eq_true rfl)
  rw [lg_entry_eq]
  generalize (lg_sl ([.ref x, .int p0, .int p1]) ++ List.replicate (4 - (lg_sl ([.ref x, .int p0, .int p1])).length) Slot.unset).toArray = ls at hl ⊢
  have hl : lv_has ls 4 [(0, .ref x), (1, .int p0), (2, .int p1)] := hl
  refine lv_aload_n hx hb dX9_law_0 rfl (lv_at hl 0 rfl) ?_
  refine x_i (wr := ([] : va_W)) (va_runV (As := []) (rest := []) ⟨hx, hb, hml, hown, hw⟩ (kX9_hasRiver l D k sd x u  s.heap.size) (cwV 0 hw (gV wd_669 wd_671 wp_8 wd_1 wd_672) rfl rfl rfl (by decide +kernel) ⟨Nat.le_of_ble_eq_true rfl, Nat.le_of_ble_eq_true rfl⟩) (pre_V (ci := 9) (r := (RX9, TX9, 12)) hK hE hX hP hD hS hA [0, 1, 2, 3, 4, 5] (by decide) rfl rfl (q0 := 0) rfl) rfl rfl hl.1 rfl (lv_room (Nat.le_of_ble_eq_true rfl)) dX9_law_1 ⟨Nat.le_of_ble_eq_true rfl, Nat.le_of_ble_eq_true rfl⟩) hP hD hS hA [0, 1, 2, 3, 4, 5] [] rfl rfl (by decide) (by decide) (fun r_3 u_1 H locs hp_2 hP hD hS => ?_)
  subst hp_2
  have hP : va_P D vwCl (C9 k x u) H := hP
  have hD : va_D A (C9 k x u) := hD
  refine lv_if_eq (tgt := 16) hx hb dX9_law_4 (by decide) (fun _ => ?_) (fun h => absurd (by decide) h)
  refine lv_bipush (v := (-2)) hx hb dX9_law_16 (by decide) ?_
  refine W.widen (k := 0) (n := 0) (Nat.le_of_ble_eq_true rfl) (Nat.le_of_ble_eq_true rfl) ?_
  have hP9 : va_P D vwCl ((fun _ => ([] : va_W)) ()) H := hP.sub [] rfl
  have hD9 : va_D A ((fun _ => ([] : va_W)) ()) := hD.sub [] (by decide) rfl
  exact W.iret (v := (-2)) hx hb hr (fun t ht hW => ⟨⟨(-2), (), rfl, rfl, by rw [ht]; exact hP9, hD9⟩, hS.F ht⟩) hS.2.2 dX9_law_18

set_option maxHeartbeats 4000000 in
set_option maxRecDepth 100000 in
theorem kX9_bend (l : Launch) (D : va_G) (k : Nat → ClassId) (sd : Nat → Nat) (x : Nat) (u : Nat → Nat → Nat) (p0 : Int32) (p1 : Int32) (sz : Nat) : Met l yX9_bend (wB yX9_bend cX9_bend 3 (some .int)) ({ frames := 1, cells := 0, slots := 0, locals := 21 }) (va_Pc [.ref x, .int p0, .int p1] (PRE D k sd (C9 k x u) sz)) (va_Qi (S := Unit) (fun r _ => r = (-1)) (fun uu t => PO D (va_A (C9 k x u) sz) ((fun _ => ([] : va_W)) uu) t) (va_A (C9 k x u) sz)) 0 0 (va_A (C9 k x u) sz) := by
  refine Met.ofW (cc := cX9_bend) (maxL := 3) (ret := (some .int)) (by decide) rfl ?_
  intro p e s m args below meth c s₁ B hml hv
  obtain ⟨rfl, hsz, hP, hK, hD0, hE, hX⟩ := hv
  have hx := B.exec
  have hb := B.bytes
  have hr := B.returns
  have hw : ∀ w ∈ wsB, w.before _ s = true := fun w h => atoms_spec (ws := wB yX9_bend cX9_bend 3 (some .int)) B.pre w (List.mem_cons_of_mem _ h)
  have hown : s.vm.findClass RX9 = some m.cls := findClass_of_methodNamed B.named
  have hlocks := B.notSynchronized
  subst hsz
  have hD := hD0.self (sz := s.heap.size)
  generalize hAe : va_A (C9 k x u) s.heap.size = A at hD hX ⊢
  have hA : ∀ q : Nat, s.heap.size ≤ q → A q := fun q h => by rw [← hAe]; exact Or.inr h
  have hS : va_S A s.heap s.heap [] := va_S.rf
  have hl := lv_entry ([.ref x, .int p0, .int p1]) (n := 3) (Nat.le_of_ble_eq_true rfl)
  rw [lg_entry_eq]
  generalize (lg_sl ([.ref x, .int p0, .int p1]) ++ List.replicate (3 - (lg_sl ([.ref x, .int p0, .int p1])).length) Slot.unset).toArray = ls at hl ⊢
  have hl : lv_has ls 3 [(0, .ref x), (1, .int p0), (2, .int p1)] := hl
  refine lv_aload_n hx hb dX9_bend_0 rfl (lv_at hl 0 rfl) ?_
  refine lv_iload_n hx hb dX9_bend_1 rfl (lv_at hl 1 rfl) ?_
  refine x_i (wr := ([] : va_W)) (va_runV (As := [.int p0]) (rest := []) ⟨hx, hb, hml, hown, hw⟩ (kX9_isBend l D k sd x u p0 s.heap.size) (cwV 1 hw (gV wd_697 wd_699 wp_12 wd_1 wd_700) rfl rfl rfl (by decide +kernel) ⟨Nat.le_of_ble_eq_true rfl, Nat.le_of_ble_eq_true rfl⟩) (pre_V (ci := 9) (r := (RX9, TX9, 12)) hK hE hX hP hD hS hA [0, 1, 2, 3, 4, 5] (by decide) rfl rfl (q0 := 0) rfl) rfl rfl hl.1 rfl (lv_room (Nat.le_of_ble_eq_true rfl)) dX9_bend_2 ⟨Nat.le_of_ble_eq_true rfl, Nat.le_of_ble_eq_true rfl⟩) hP hD hS hA [0, 1, 2, 3, 4, 5] [] rfl rfl (by decide) (by decide) (fun r_3 u_1 H locs hp_2 hP hD hS => ?_)
  subst hp_2
  have hP : va_P D vwCl (C9 k x u) H := hP
  have hD : va_D A (C9 k x u) := hD
  refine lv_if_ne (tgt := 10) hx hb dX9_bend_5 (by decide) (fun h => absurd (by decide) h) (fun _ => ?_)
  refine lv_iconst (v := (-1)) hx hb dX9_bend_8 (by decide) ?_
  refine W.widen (k := 0) (n := 0) (Nat.le_of_ble_eq_true rfl) (Nat.le_of_ble_eq_true rfl) ?_
  have hP9 : va_P D vwCl ((fun _ => ([] : va_W)) ()) H := hP.sub [] rfl
  have hD9 : va_D A ((fun _ => ([] : va_W)) ()) := hD.sub [] (by decide) rfl
  exact W.iret (v := (-1)) hx hb hr (fun t ht hW => ⟨⟨(-1), (), rfl, rfl, by rw [ht]; exact hP9, hD9⟩, hS.F ht⟩) hS.2.2 dX9_bend_9

set_option maxHeartbeats 4000000 in
set_option maxRecDepth 100000 in
theorem kX9_village (l : Launch) (D : va_G) (k : Nat → ClassId) (sd : Nat → Nat) (x : Nat) (u : Nat → Nat → Nat) (p0 : Int32) (p1 : Int32) (sz : Nat) : Met l yX9_village (wB yX9_village cX9_village 3 (some .int)) ({ frames := 1, cells := 0, slots := 0, locals := 21 }) (va_Pc [.ref x, .int p0, .int p1] (PRE D k sd (C9 k x u) sz)) (va_Qi (S := Unit) (fun r _ => r = (-1000000)) (fun uu t => PO D (va_A (C9 k x u) sz) ((fun _ => ([] : va_W)) uu) t) (va_A (C9 k x u) sz)) 0 0 (va_A (C9 k x u) sz) := by
  refine Met.ofW (cc := cX9_village) (maxL := 3) (ret := (some .int)) (by decide) rfl ?_
  intro p e s m args below meth c s₁ B hml hv
  obtain ⟨rfl, hsz, hP, hK, hD0, hE, hX⟩ := hv
  have hx := B.exec
  have hb := B.bytes
  have hr := B.returns
  have hw : ∀ w ∈ wsB, w.before _ s = true := fun w h => atoms_spec (ws := wB yX9_village cX9_village 3 (some .int)) B.pre w (List.mem_cons_of_mem _ h)
  have hown : s.vm.findClass RX9 = some m.cls := findClass_of_methodNamed B.named
  have hlocks := B.notSynchronized
  subst hsz
  have hD := hD0.self (sz := s.heap.size)
  generalize hAe : va_A (C9 k x u) s.heap.size = A at hD hX ⊢
  have hA : ∀ q : Nat, s.heap.size ≤ q → A q := fun q h => by rw [← hAe]; exact Or.inr h
  have hS : va_S A s.heap s.heap [] := va_S.rf
  have hl := lv_entry ([.ref x, .int p0, .int p1]) (n := 3) (Nat.le_of_ble_eq_true rfl)
  rw [lg_entry_eq]
  generalize (lg_sl ([.ref x, .int p0, .int p1]) ++ List.replicate (3 - (lg_sl ([.ref x, .int p0, .int p1])).length) Slot.unset).toArray = ls at hl ⊢
  have hl : lv_has ls 3 [(0, .ref x), (1, .int p0), (2, .int p1)] := hl
  refine lv_aload_n hx hb dX9_village_0 rfl (lv_at hl 0 rfl) ?_
  refine lv_iload_n hx hb dX9_village_1 rfl (lv_at hl 1 rfl) ?_
  refine x_i (wr := ([] : va_W)) (va_runV (As := [.int p0]) (rest := []) ⟨hx, hb, hml, hown, hw⟩ (kX9_isVillage l D k sd x u p0 s.heap.size) (cwV 1 hw (gV wd_685 wd_687 wp_11 wd_1 wd_688) rfl rfl rfl (by decide +kernel) ⟨Nat.le_of_ble_eq_true rfl, Nat.le_of_ble_eq_true rfl⟩) (pre_V (ci := 9) (r := (RX9, TX9, 12)) hK hE hX hP hD hS hA [0, 1, 2, 3, 4, 5] (by decide) rfl rfl (q0 := 0) rfl) rfl rfl hl.1 rfl (lv_room (Nat.le_of_ble_eq_true rfl)) dX9_village_2 ⟨Nat.le_of_ble_eq_true rfl, Nat.le_of_ble_eq_true rfl⟩) hP hD hS hA [0, 1, 2, 3, 4, 5] [] rfl rfl (by decide) (by decide) (fun r_3 u_1 H locs hp_2 hP hD hS => ?_)
  subst hp_2
  have hP : va_P D vwCl (C9 k x u) H := hP
  have hD : va_D A (C9 k x u) := hD
  refine lv_if_ne (tgt := 11) hx hb dX9_village_5 (by decide) (fun h => absurd (by decide) h) (fun _ => ?_)
  refine lv_ldc (v := (-1000000)) hx hb hown (hw _ wd_723) dX9_village_8 ?_
  refine W.widen (k := 0) (n := 0) (Nat.le_of_ble_eq_true rfl) (Nat.le_of_ble_eq_true rfl) ?_
  have hP9 : va_P D vwCl ((fun _ => ([] : va_W)) ()) H := hP.sub [] rfl
  have hD9 : va_D A ((fun _ => ([] : va_W)) ()) := hD.sub [] (by decide) rfl
  exact W.iret (v := (-1000000)) hx hb hr (fun t ht hW => ⟨⟨(-1000000), (), rfl, rfl, by rw [ht]; exact hP9, hD9⟩, hS.F ht⟩) hS.2.2 dX9_village_10

set_option maxHeartbeats 4000000 in
set_option maxRecDepth 100000 in
theorem kX9_log (l : Launch) (D : va_G) (k : Nat → ClassId) (sd : Nat → Nat) (x : Nat) (u : Nat → Nat → Nat) (p0 : Int32) (p1 : Int32) (sz : Nat) : Met l yX9_log (wB yX9_log cX9_log 4 (some .int)) ({ frames := 1, cells := 0, slots := 0, locals := 21 }) (va_Pc [.ref x, .int p0, .int p1] (PRE D k sd (C9 k x u) sz)) (va_Qi (S := Unit) (fun r _ => r = (-2)) (fun uu t => PO D (va_A (C9 k x u) sz) ((fun _ => ([] : va_W)) uu) t) (va_A (C9 k x u) sz)) 0 0 (va_A (C9 k x u) sz) := by
  refine Met.ofW (cc := cX9_log) (maxL := 4) (ret := (some .int)) (by decide) rfl ?_
  intro p e s m args below meth c s₁ B hml hv
  obtain ⟨rfl, hsz, hP, hK, hD0, hE, hX⟩ := hv
  have hx := B.exec
  have hb := B.bytes
  have hr := B.returns
  have hw : ∀ w ∈ wsB, w.before _ s = true := fun w h => atoms_spec (ws := wB yX9_log cX9_log 4 (some .int)) B.pre w (List.mem_cons_of_mem _ h)
  have hown : s.vm.findClass RX9 = some m.cls := findClass_of_methodNamed B.named
  have hlocks := B.notSynchronized
  subst hsz
  have hD := hD0.self (sz := s.heap.size)
  generalize hAe : va_A (C9 k x u) s.heap.size = A at hD hX ⊢
  have hA : ∀ q : Nat, s.heap.size ≤ q → A q := fun q h => by rw [← hAe]; exact Or.inr h
  have hS : va_S A s.heap s.heap [] := va_S.rf
  have hl := lv_entry ([.ref x, .int p0, .int p1]) (n := 4) (Nat.le_of_ble_eq_true rfl)
  rw [lg_entry_eq]
  generalize (lg_sl ([.ref x, .int p0, .int p1]) ++ List.replicate (4 - (lg_sl ([.ref x, .int p0, .int p1])).length) Slot.unset).toArray = ls at hl ⊢
  have hl : lv_has ls 4 [(0, .ref x), (1, .int p0), (2, .int p1)] := hl
  refine lv_aload_n hx hb dX9_log_0 rfl (lv_at hl 0 rfl) ?_
  refine lv_iload_n hx hb dX9_log_1 rfl (lv_at hl 1 rfl) ?_
  refine x_i (wr := ([] : va_W)) (va_runV (As := [.int p0]) (rest := []) ⟨hx, hb, hml, hown, hw⟩ (kX9_isLog l D k sd x u p0 s.heap.size) (cwV 1 hw (gV wd_769 wd_771 wp_15 wd_1 wd_772) rfl rfl rfl (by decide +kernel) ⟨Nat.le_of_ble_eq_true rfl, Nat.le_of_ble_eq_true rfl⟩) (pre_V (ci := 9) (r := (RX9, TX9, 12)) hK hE hX hP hD hS hA [0, 1, 2, 3, 4, 5] (by decide) rfl rfl (q0 := 0) rfl) rfl rfl hl.1 rfl (lv_room (Nat.le_of_ble_eq_true rfl)) dX9_log_2 ⟨Nat.le_of_ble_eq_true rfl, Nat.le_of_ble_eq_true rfl⟩) hP hD hS hA [0, 1, 2, 3, 4, 5] [] rfl rfl (by decide) (by decide) (fun r_3 u_1 H locs hp_2 hP hD hS => ?_)
  subst hp_2
  have hP : va_P D vwCl (C9 k x u) H := hP
  have hD : va_D A (C9 k x u) := hD
  refine lv_if_ne (tgt := 11) hx hb dX9_log_5 (by decide) (fun h => absurd (by decide) h) (fun _ => ?_)
  refine lv_bipush (v := (-2)) hx hb dX9_log_8 (by decide) ?_
  refine W.widen (k := 0) (n := 0) (Nat.le_of_ble_eq_true rfl) (Nat.le_of_ble_eq_true rfl) ?_
  have hP9 : va_P D vwCl ((fun _ => ([] : va_W)) ()) H := hP.sub [] rfl
  have hD9 : va_D A ((fun _ => ([] : va_W)) ()) := hD.sub [] (by decide) rfl
  exact W.iret (v := (-2)) hx hb hr (fun t ht hW => ⟨⟨(-2), (), rfl, rfl, by rw [ht]; exact hP9, hD9⟩, hS.F ht⟩) hS.2.2 dX9_log_10

set_option maxHeartbeats 4000000 in
set_option maxRecDepth 100000 in
theorem kX9_notch (l : Launch) (D : va_G) (k : Nat → ClassId) (sd : Nat → Nat) (x : Nat) (u : Nat → Nat → Nat) (p0 : Int32) (p1 : Int32) (sz : Nat) : Met l yX9_notch (wB yX9_notch cX9_notch 3 (some .int)) ({ frames := 1, cells := 0, slots := 0, locals := 21 }) (va_Pc [.ref x, .int p0, .int p1] (PRE D k sd (C9 k x u) sz)) (va_Qi (S := Unit) (fun r _ => r = (-2)) (fun uu t => PO D (va_A (C9 k x u) sz) ((fun _ => ([] : va_W)) uu) t) (va_A (C9 k x u) sz)) 0 0 (va_A (C9 k x u) sz) := by
  refine Met.ofW (cc := cX9_notch) (maxL := 3) (ret := (some .int)) (by decide) rfl ?_
  intro p e s m args below meth c s₁ B hml hv
  obtain ⟨rfl, hsz, hP, hK, hD0, hE, hX⟩ := hv
  have hx := B.exec
  have hb := B.bytes
  have hr := B.returns
  have hw : ∀ w ∈ wsB, w.before _ s = true := fun w h => atoms_spec (ws := wB yX9_notch cX9_notch 3 (some .int)) B.pre w (List.mem_cons_of_mem _ h)
  have hown : s.vm.findClass RX9 = some m.cls := findClass_of_methodNamed B.named
  have hlocks := B.notSynchronized
  subst hsz
  have hD := hD0.self (sz := s.heap.size)
  generalize hAe : va_A (C9 k x u) s.heap.size = A at hD hX ⊢
  have hA : ∀ q : Nat, s.heap.size ≤ q → A q := fun q h => by rw [← hAe]; exact Or.inr h
  have hS : va_S A s.heap s.heap [] := va_S.rf
  have hl := lv_entry ([.ref x, .int p0, .int p1]) (n := 3) (Nat.le_of_ble_eq_true rfl)
  rw [lg_entry_eq]
  generalize (lg_sl ([.ref x, .int p0, .int p1]) ++ List.replicate (3 - (lg_sl ([.ref x, .int p0, .int p1])).length) Slot.unset).toArray = ls at hl ⊢
  have hl : lv_has ls 3 [(0, .ref x), (1, .int p0), (2, .int p1)] := hl
  refine lv_aload_n hx hb dX9_notch_0 rfl (lv_at hl 0 rfl) ?_
  refine lv_iload_n hx hb dX9_notch_1 rfl (lv_at hl 1 rfl) ?_
  refine x_i (wr := ([] : va_W)) (va_runV (As := [.int p0]) (rest := []) ⟨hx, hb, hml, hown, hw⟩ (kX9_isLog l D k sd x u p0 s.heap.size) (cwV 1 hw (gV wd_769 wd_771 wp_15 wd_1 wd_772) rfl rfl rfl (by decide +kernel) ⟨Nat.le_of_ble_eq_true rfl, Nat.le_of_ble_eq_true rfl⟩) (pre_V (ci := 9) (r := (RX9, TX9, 12)) hK hE hX hP hD hS hA [0, 1, 2, 3, 4, 5] (by decide) rfl rfl (q0 := 0) rfl) rfl rfl hl.1 rfl (lv_room (Nat.le_of_ble_eq_true rfl)) dX9_notch_2 ⟨Nat.le_of_ble_eq_true rfl, Nat.le_of_ble_eq_true rfl⟩) hP hD hS hA [0, 1, 2, 3, 4, 5] [] rfl rfl (by decide) (by decide) (fun r_3 u_1 H locs hp_2 hP hD hS => ?_)
  subst hp_2
  have hP : va_P D vwCl (C9 k x u) H := hP
  have hD : va_D A (C9 k x u) := hD
  refine lv_if_ne (tgt := 11) hx hb dX9_notch_5 (by decide) (fun h => absurd (by decide) h) (fun _ => ?_)
  refine lv_bipush (v := (-2)) hx hb dX9_notch_8 (by decide) ?_
  refine W.widen (k := 0) (n := 0) (Nat.le_of_ble_eq_true rfl) (Nat.le_of_ble_eq_true rfl) ?_
  have hP9 : va_P D vwCl ((fun _ => ([] : va_W)) ()) H := hP.sub [] rfl
  have hD9 : va_D A ((fun _ => ([] : va_W)) ()) := hD.sub [] (by decide) rfl
  exact W.iret (v := (-2)) hx hb hr (fun t ht hW => ⟨⟨(-2), (), rfl, rfl, by rw [ht]; exact hP9, hD9⟩, hS.F ht⟩) hS.2.2 dX9_notch_10

set_option maxHeartbeats 4000000 in
set_option maxRecDepth 100000 in
theorem kX9_cut (l : Launch) (D : va_G) (k : Nat → ClassId) (sd : Nat → Nat) (x : Nat) (u : Nat → Nat → Nat) (p0 : Int32) (p1 : Int32) (sz : Nat) : Met l yX9_cut (wB yX9_cut cX9_cut 4 (some .int)) ({ frames := 1, cells := 0, slots := 0, locals := 21 }) (va_Pc [.ref x, .int p0, .int p1] (PRE D k sd (C9 k x u) sz)) (va_Qi (S := Unit) (fun r _ => r = (-2)) (fun uu t => PO D (va_A (C9 k x u) sz) ((fun _ => ([] : va_W)) uu) t) (va_A (C9 k x u) sz)) 0 0 (va_A (C9 k x u) sz) := by
  refine Met.ofW (cc := cX9_cut) (maxL := 4) (ret := (some .int)) (by decide) rfl ?_
  intro p e s m args below meth c s₁ B hml hv
  obtain ⟨rfl, hsz, hP, hK, hD0, hE, hX⟩ := hv
  have hx := B.exec
  have hb := B.bytes
  have hr := B.returns
  have hw : ∀ w ∈ wsB, w.before _ s = true := fun w h => atoms_spec (ws := wB yX9_cut cX9_cut 4 (some .int)) B.pre w (List.mem_cons_of_mem _ h)
  have hown : s.vm.findClass RX9 = some m.cls := findClass_of_methodNamed B.named
  have hlocks := B.notSynchronized
  subst hsz
  have hD := hD0.self (sz := s.heap.size)
  generalize hAe : va_A (C9 k x u) s.heap.size = A at hD hX ⊢
  have hA : ∀ q : Nat, s.heap.size ≤ q → A q := fun q h => by rw [← hAe]; exact Or.inr h
  have hS : va_S A s.heap s.heap [] := va_S.rf
  have hl := lv_entry ([.ref x, .int p0, .int p1]) (n := 4) (Nat.le_of_ble_eq_true rfl)
  rw [lg_entry_eq]
  generalize (lg_sl ([.ref x, .int p0, .int p1]) ++ List.replicate (4 - (lg_sl ([.ref x, .int p0, .int p1])).length) Slot.unset).toArray = ls at hl ⊢
  have hl : lv_has ls 4 [(0, .ref x), (1, .int p0), (2, .int p1)] := hl
  refine lv_aload_n hx hb dX9_cut_0 rfl (lv_at hl 0 rfl) ?_
  refine lv_iload_n hx hb dX9_cut_1 rfl (lv_at hl 1 rfl) ?_
  refine x_i (wr := ([] : va_W)) (va_runV (As := [.int p0]) (rest := []) ⟨hx, hb, hml, hown, hw⟩ (kX9_isLog l D k sd x u p0 s.heap.size) (cwV 1 hw (gV wd_769 wd_771 wp_15 wd_1 wd_772) rfl rfl rfl (by decide +kernel) ⟨Nat.le_of_ble_eq_true rfl, Nat.le_of_ble_eq_true rfl⟩) (pre_V (ci := 9) (r := (RX9, TX9, 12)) hK hE hX hP hD hS hA [0, 1, 2, 3, 4, 5] (by decide) rfl rfl (q0 := 0) rfl) rfl rfl hl.1 rfl (lv_room (Nat.le_of_ble_eq_true rfl)) dX9_cut_2 ⟨Nat.le_of_ble_eq_true rfl, Nat.le_of_ble_eq_true rfl⟩) hP hD hS hA [0, 1, 2, 3, 4, 5] [] rfl rfl (by decide) (by decide) (fun r_3 u_1 H locs hp_2 hP hD hS => ?_)
  subst hp_2
  have hP : va_P D vwCl (C9 k x u) H := hP
  have hD : va_D A (C9 k x u) := hD
  refine lv_if_eq (tgt := 28) hx hb dX9_cut_5 (by decide) (fun _ => ?_) (fun h => absurd (by decide) h)
  refine lv_bipush (v := (-2)) hx hb dX9_cut_28 (by decide) ?_
  refine W.widen (k := 0) (n := 0) (Nat.le_of_ble_eq_true rfl) (Nat.le_of_ble_eq_true rfl) ?_
  have hP9 : va_P D vwCl ((fun _ => ([] : va_W)) ()) H := hP.sub [] rfl
  have hD9 : va_D A ((fun _ => ([] : va_W)) ()) := hD.sub [] (by decide) rfl
  exact W.iret (v := (-2)) hx hb hr (fun t ht hW => ⟨⟨(-2), (), rfl, rfl, by rw [ht]; exact hP9, hD9⟩, hS.F ht⟩) hS.2.2 dX9_cut_30

set_option maxHeartbeats 4000000 in
set_option maxRecDepth 100000 in
theorem kX9_cutOver (l : Launch) (D : va_G) (k : Nat → ClassId) (sd : Nat → Nat) (x : Nat) (u : Nat → Nat → Nat) (p0 : Int32) (p1 : Int32) (p2 : Int32) (sz : Nat) : Met l yX9_cutOver (wB yX9_cutOver cX9_cutOver 5 (some .int)) ({ frames := 1, cells := 0, slots := 0, locals := 21 }) (va_Pc [.ref x, .int p0, .int p1, .int p2] (PRE D k sd (C9 k x u) sz)) (va_Qi (S := Unit) (fun r _ => r = (-2)) (fun uu t => PO D (va_A (C9 k x u) sz) ((fun _ => ([] : va_W)) uu) t) (va_A (C9 k x u) sz)) 0 0 (va_A (C9 k x u) sz) := by
  refine Met.ofW (cc := cX9_cutOver) (maxL := 5) (ret := (some .int)) (by decide) rfl ?_
  intro p e s m args below meth c s₁ B hml hv
  obtain ⟨rfl, hsz, hP, hK, hD0, hE, hX⟩ := hv
  have hx := B.exec
  have hb := B.bytes
  have hr := B.returns
  have hw : ∀ w ∈ wsB, w.before _ s = true := fun w h => atoms_spec (ws := wB yX9_cutOver cX9_cutOver 5 (some .int)) B.pre w (List.mem_cons_of_mem _ h)
  have hown : s.vm.findClass RX9 = some m.cls := findClass_of_methodNamed B.named
  have hlocks := B.notSynchronized
  subst hsz
  have hD := hD0.self (sz := s.heap.size)
  generalize hAe : va_A (C9 k x u) s.heap.size = A at hD hX ⊢
  have hA : ∀ q : Nat, s.heap.size ≤ q → A q := fun q h => by rw [← hAe]; exact Or.inr h
  have hS : va_S A s.heap s.heap [] := va_S.rf
  have hl := lv_entry ([.ref x, .int p0, .int p1, .int p2]) (n := 5) (Nat.le_of_ble_eq_true rfl)
  rw [lg_entry_eq]
  generalize (lg_sl ([.ref x, .int p0, .int p1, .int p2]) ++ List.replicate (5 - (lg_sl ([.ref x, .int p0, .int p1, .int p2])).length) Slot.unset).toArray = ls at hl ⊢
  have hl : lv_has ls 5 [(0, .ref x), (1, .int p0), (2, .int p1), (3, .int p2)] := hl
  refine lv_aload_n hx hb dX9_cutOver_0 rfl (lv_at hl 0 rfl) ?_
  refine lv_iload_n hx hb dX9_cutOver_1 rfl (lv_at hl 1 rfl) ?_
  refine x_i (wr := ([] : va_W)) (va_runV (As := [.int p0]) (rest := []) ⟨hx, hb, hml, hown, hw⟩ (kX9_isLog l D k sd x u p0 s.heap.size) (cwV 1 hw (gV wd_769 wd_771 wp_15 wd_1 wd_772) rfl rfl rfl (by decide +kernel) ⟨Nat.le_of_ble_eq_true rfl, Nat.le_of_ble_eq_true rfl⟩) (pre_V (ci := 9) (r := (RX9, TX9, 12)) hK hE hX hP hD hS hA [0, 1, 2, 3, 4, 5] (by decide) rfl rfl (q0 := 0) rfl) rfl rfl hl.1 rfl (lv_room (Nat.le_of_ble_eq_true rfl)) dX9_cutOver_2 ⟨Nat.le_of_ble_eq_true rfl, Nat.le_of_ble_eq_true rfl⟩) hP hD hS hA [0, 1, 2, 3, 4, 5] [] rfl rfl (by decide) (by decide) (fun r_3 u_1 H locs hp_2 hP hD hS => ?_)
  subst hp_2
  have hP : va_P D vwCl (C9 k x u) H := hP
  have hD : va_D A (C9 k x u) := hD
  refine lv_if_eq (tgt := 28) hx hb dX9_cutOver_5 (by decide) (fun _ => ?_) (fun h => absurd (by decide) h)
  refine lv_bipush (v := (-2)) hx hb dX9_cutOver_28 (by decide) ?_
  refine W.widen (k := 0) (n := 0) (Nat.le_of_ble_eq_true rfl) (Nat.le_of_ble_eq_true rfl) ?_
  have hP9 : va_P D vwCl ((fun _ => ([] : va_W)) ()) H := hP.sub [] rfl
  have hD9 : va_D A ((fun _ => ([] : va_W)) ()) := hD.sub [] (by decide) rfl
  exact W.iret (v := (-2)) hx hb hr (fun t ht hW => ⟨⟨(-2), (), rfl, rfl, by rw [ht]; exact hP9, hD9⟩, hS.F ht⟩) hS.2.2 dX9_cutOver_30

set_option maxHeartbeats 4000000 in
set_option maxRecDepth 100000 in
theorem kX9_undo (l : Launch) (D : va_G) (k : Nat → ClassId) (sd : Nat → Nat) (x : Nat) (u : Nat → Nat → Nat) (sz : Nat) : Met l yX9_undo (wB yX9_undo cX9_undo 6 (some .int)) ({ frames := 0, cells := 0, slots := 0, locals := 0 }) (va_Pc [.ref x] (PRE D k sd (C9 k x u) sz)) (va_Qi (S := Unit) (fun r _ => r = (-2)) (fun uu t => PO D (va_A (C9 k x u) sz) ((fun _ => ([] : va_W)) uu) t) (va_A (C9 k x u) sz)) 0 0 (va_A (C9 k x u) sz) := by
  refine Met.ofW (cc := cX9_undo) (maxL := 6) (ret := (some .int)) (by decide) rfl ?_
  intro p e s m args below meth c s₁ B hml hv
  obtain ⟨rfl, hsz, hP, hK, hD0, hE, hX⟩ := hv
  have hx := B.exec
  have hb := B.bytes
  have hr := B.returns
  have hw : ∀ w ∈ wsB, w.before _ s = true := fun w h => atoms_spec (ws := wB yX9_undo cX9_undo 6 (some .int)) B.pre w (List.mem_cons_of_mem _ h)
  have hown : s.vm.findClass RX9 = some m.cls := findClass_of_methodNamed B.named
  have hlocks := B.notSynchronized
  subst hsz
  have hD := hD0.self (sz := s.heap.size)
  generalize hAe : va_A (C9 k x u) s.heap.size = A at hD hX ⊢
  have hA : ∀ q : Nat, s.heap.size ≤ q → A q := fun q h => by rw [← hAe]; exact Or.inr h
  have hS : va_S A s.heap s.heap [] := va_S.rf
  have hl := lv_entry ([.ref x]) (n := 6) (Nat.le_of_ble_eq_true rfl)
  rw [lg_entry_eq]
  generalize (lg_sl ([.ref x]) ++ List.replicate (6 - (lg_sl ([.ref x])).length) Slot.unset).toArray = ls at hl ⊢
  have hl : lv_has ls 6 [(0, .ref x)] := hl
  refine lv_aload_n hx hb dX9_undo_0 rfl (lv_at hl 0 rfl) ?_
  refine va_get (D := D) (ci := 9) (v := .ref (u 0 4)) (C := RX9) (T := TX9) (N := 12) hx hb hw inlX9 hown hK hP 0 rfl rfl 5 (by decide) (hw _ wd_424) (fun _ h9 => h9) rfl dX9_undo_1 ?_
  refine va_get (D := D) (ci := 8) (v := .ref (u 5 10)) (C := RX8) (T := TX8) (N := 9) hx hb hw inlX8 hown hK hP 1 rfl rfl 2 (by decide) (hw _ wd_365) (fun _ h9 => h9) rfl dX9_undo_4 ?_
  refine lv_astore_n (lv' := [(1, .ref (u 5 10)), (0, .ref x)]) hx hb dX9_undo_7 rfl hl (by decide) rfl (fun ls hl => ?_)
  refine lv_aload_n hx hb dX9_undo_8 rfl (lv_at hl 0 rfl) ?_
  refine va_get (D := D) (ci := 0) (v := .int 0) (C := RX0) (T := TX0) (N := 17) hx hb hw inlX0 hown hK hP 4 rfl rfl 11 (by decide) (hw _ wd_311) (fun _ h9 => h9) rfl dX9_undo_9 ?_
  refine lv_iconst (v := 1) hx hb dX9_undo_12 (by decide) ?_
  refine lv_isub hx hb dX9_undo_13 ?_
  refine x_top (v := (-1)) (by decide) ?_
  refine lv_istore_n (lv' := [(2, .int (-1)), (1, .ref (u 5 10)), (0, .ref x)]) hx hb dX9_undo_14 rfl hl (by decide) rfl (fun ls hl => ?_)
  refine lv_iload_n hx hb dX9_undo_15 rfl (lv_at hl 0 rfl) ?_
  refine lv_if_ge (tgt := 22) hx hb dX9_undo_16 (by decide) (fun h => absurd h (by decide)) (fun _ => ?_)
  refine lv_bipush (v := (-2)) hx hb dX9_undo_19 (by decide) ?_
  refine W.widen (k := 0) (n := 0) (Nat.le_of_ble_eq_true rfl) (Nat.le_of_ble_eq_true rfl) ?_
  have hP9 : va_P D vwCl ((fun _ => ([] : va_W)) ()) s.heap := hP.sub [] rfl
  have hD9 : va_D A ((fun _ => ([] : va_W)) ()) := hD.sub [] (by decide) rfl
  exact W.iret (v := (-2)) hx hb hr (fun t ht hW => ⟨⟨(-2), (), rfl, rfl, by rw [ht]; exact hP9, hD9⟩, hS.F ht⟩) hS.2.2 dX9_undo_21

set_option maxHeartbeats 4000000 in
set_option maxRecDepth 100000 in
theorem kX9_launch (l : Launch) (D : va_G) (k : Nat → ClassId) (sd : Nat → Nat) (x : Nat) (u : Nat → Nat → Nat) (p0 : Int32) (sz : Nat) : Met l yX9_launch (wB yX9_launch cX9_launch 3 (some .int)) ({ frames := 1, cells := 0, slots := 0, locals := 21 }) (va_Pc [.ref x, .int p0] (PRE D k sd (C9 k x u) sz)) (va_Qi (S := Unit) (fun r _ => r = (-2)) (fun uu t => PO D (va_A (C9 k x u) sz) ((fun _ => ([] : va_W)) uu) t) (va_A (C9 k x u) sz)) 0 0 (va_A (C9 k x u) sz) := by
  refine Met.ofW (cc := cX9_launch) (maxL := 3) (ret := (some .int)) (by decide) rfl ?_
  intro p e s m args below meth c s₁ B hml hv
  obtain ⟨rfl, hsz, hP, hK, hD0, hE, hX⟩ := hv
  have hx := B.exec
  have hb := B.bytes
  have hr := B.returns
  have hw : ∀ w ∈ wsB, w.before _ s = true := fun w h => atoms_spec (ws := wB yX9_launch cX9_launch 3 (some .int)) B.pre w (List.mem_cons_of_mem _ h)
  have hown : s.vm.findClass RX9 = some m.cls := findClass_of_methodNamed B.named
  have hlocks := B.notSynchronized
  subst hsz
  have hD := hD0.self (sz := s.heap.size)
  generalize hAe : va_A (C9 k x u) s.heap.size = A at hD hX ⊢
  have hA : ∀ q : Nat, s.heap.size ≤ q → A q := fun q h => by rw [← hAe]; exact Or.inr h
  have hS : va_S A s.heap s.heap [] := va_S.rf
  have hl := lv_entry ([.ref x, .int p0]) (n := 3) (Nat.le_of_ble_eq_true rfl)
  rw [lg_entry_eq]
  generalize (lg_sl ([.ref x, .int p0]) ++ List.replicate (3 - (lg_sl ([.ref x, .int p0])).length) Slot.unset).toArray = ls at hl ⊢
  have hl : lv_has ls 3 [(0, .ref x), (1, .int p0)] := hl
  refine lv_aload_n hx hb dX9_launch_0 rfl (lv_at hl 0 rfl) ?_
  refine lv_iload_n hx hb dX9_launch_1 rfl (lv_at hl 1 rfl) ?_
  refine x_i (wr := ([] : va_W)) (va_runV (As := [.int p0]) (rest := []) ⟨hx, hb, hml, hown, hw⟩ (kX9_isLog l D k sd x u p0 s.heap.size) (cwV 1 hw (gV wd_769 wd_771 wp_15 wd_1 wd_772) rfl rfl rfl (by decide +kernel) ⟨Nat.le_of_ble_eq_true rfl, Nat.le_of_ble_eq_true rfl⟩) (pre_V (ci := 9) (r := (RX9, TX9, 12)) hK hE hX hP hD hS hA [0, 1, 2, 3, 4, 5] (by decide) rfl rfl (q0 := 0) rfl) rfl rfl hl.1 rfl (lv_room (Nat.le_of_ble_eq_true rfl)) dX9_launch_2 ⟨Nat.le_of_ble_eq_true rfl, Nat.le_of_ble_eq_true rfl⟩) hP hD hS hA [0, 1, 2, 3, 4, 5] [] rfl rfl (by decide) (by decide) (fun r_3 u_1 H locs hp_2 hP hD hS => ?_)
  subst hp_2
  have hP : va_P D vwCl (C9 k x u) H := hP
  have hD : va_D A (C9 k x u) := hD
  refine lv_if_eq (tgt := 22) hx hb dX9_launch_5 (by decide) (fun _ => ?_) (fun h => absurd (by decide) h)
  refine lv_bipush (v := (-2)) hx hb dX9_launch_22 (by decide) ?_
  refine W.widen (k := 0) (n := 0) (Nat.le_of_ble_eq_true rfl) (Nat.le_of_ble_eq_true rfl) ?_
  have hP9 : va_P D vwCl ((fun _ => ([] : va_W)) ()) H := hP.sub [] rfl
  have hD9 : va_D A ((fun _ => ([] : va_W)) ()) := hD.sub [] (by decide) rfl
  exact W.iret (v := (-2)) hx hb hr (fun t ht hW => ⟨⟨(-2), (), rfl, rfl, by rw [ht]; exact hP9, hD9⟩, hS.F ht⟩) hS.2.2 dX9_launch_24

set_option maxHeartbeats 4000000 in
set_option maxRecDepth 100000 in
theorem kX9_land (l : Launch) (D : va_G) (k : Nat → ClassId) (sd : Nat → Nat) (x : Nat) (u : Nat → Nat → Nat) (p0 : Int32) (p1 : Int32) (sz : Nat) : Met l yX9_land (wB yX9_land cX9_land 3 (some .boolean)) ({ frames := 1, cells := 0, slots := 0, locals := 21 }) (va_Pc [.ref x, .int p0, .int p1] (PRE D k sd (C9 k x u) sz)) (va_Qi (S := Unit) (fun r _ => r = 0) (fun uu t => PO D (va_A (C9 k x u) sz) ((fun _ => ([] : va_W)) uu) t) (va_A (C9 k x u) sz)) 0 0 (va_A (C9 k x u) sz) := by
  refine Met.ofW (cc := cX9_land) (maxL := 3) (ret := (some .boolean)) (by decide) rfl ?_
  intro p e s m args below meth c s₁ B hml hv
  obtain ⟨rfl, hsz, hP, hK, hD0, hE, hX⟩ := hv
  have hx := B.exec
  have hb := B.bytes
  have hr := B.returns
  have hw : ∀ w ∈ wsB, w.before _ s = true := fun w h => atoms_spec (ws := wB yX9_land cX9_land 3 (some .boolean)) B.pre w (List.mem_cons_of_mem _ h)
  have hown : s.vm.findClass RX9 = some m.cls := findClass_of_methodNamed B.named
  have hlocks := B.notSynchronized
  subst hsz
  have hD := hD0.self (sz := s.heap.size)
  generalize hAe : va_A (C9 k x u) s.heap.size = A at hD hX ⊢
  have hA : ∀ q : Nat, s.heap.size ≤ q → A q := fun q h => by rw [← hAe]; exact Or.inr h
  have hS : va_S A s.heap s.heap [] := va_S.rf
  have hl := lv_entry ([.ref x, .int p0, .int p1]) (n := 3) (Nat.le_of_ble_eq_true rfl)
  rw [lg_entry_eq]
  generalize (lg_sl ([.ref x, .int p0, .int p1]) ++ List.replicate (3 - (lg_sl ([.ref x, .int p0, .int p1])).length) Slot.unset).toArray = ls at hl ⊢
  have hl : lv_has ls 3 [(0, .ref x), (1, .int p0), (2, .int p1)] := hl
  refine lv_aload_n hx hb dX9_land_0 rfl (lv_at hl 0 rfl) ?_
  refine lv_iload_n hx hb dX9_land_1 rfl (lv_at hl 1 rfl) ?_
  refine x_i (wr := ([] : va_W)) (va_runV (As := [.int p0]) (rest := []) ⟨hx, hb, hml, hown, hw⟩ (kX9_isLog l D k sd x u p0 s.heap.size) (cwV 1 hw (gV wd_769 wd_771 wp_15 wd_1 wd_772) rfl rfl rfl (by decide +kernel) ⟨Nat.le_of_ble_eq_true rfl, Nat.le_of_ble_eq_true rfl⟩) (pre_V (ci := 9) (r := (RX9, TX9, 12)) hK hE hX hP hD hS hA [0, 1, 2, 3, 4, 5] (by decide) rfl rfl (q0 := 0) rfl) rfl rfl hl.1 rfl (lv_room (Nat.le_of_ble_eq_true rfl)) dX9_land_2 ⟨Nat.le_of_ble_eq_true rfl, Nat.le_of_ble_eq_true rfl⟩) hP hD hS hA [0, 1, 2, 3, 4, 5] [] rfl rfl (by decide) (by decide) (fun r_3 u_1 H locs hp_2 hP hD hS => ?_)
  subst hp_2
  have hP : va_P D vwCl (C9 k x u) H := hP
  have hD : va_D A (C9 k x u) := hD
  refine lv_if_eq (tgt := 43) hx hb dX9_land_5 (by decide) (fun _ => ?_) (fun h => absurd (by decide) h)
  refine lv_iconst (v := 0) hx hb dX9_land_43 (by decide) ?_
  refine W.widen (k := 0) (n := 0) (Nat.le_of_ble_eq_true rfl) (Nat.le_of_ble_eq_true rfl) ?_
  have hP9 : va_P D vwCl ((fun _ => ([] : va_W)) ()) H := hP.sub [] rfl
  have hD9 : va_D A ((fun _ => ([] : va_W)) ()) := hD.sub [] (by decide) rfl
  exact W.zret (v := 0) (ty := .boolean) hx hb hr rfl (fun t ht hW => ⟨⟨0, (), rfl, rfl, by rw [ht]; exact hP9, hD9⟩, hS.F ht⟩) hS.2.2 dX9_land_44

set_option maxHeartbeats 4000000 in
set_option maxRecDepth 100000 in
theorem kX9_burn (l : Launch) (D : va_G) (k : Nat → ClassId) (sd : Nat → Nat) (x : Nat) (u : Nat → Nat → Nat) (p0 : Int32) (sz : Nat) : Met l yX9_burn (wB yX9_burn cX9_burn 3 (some .int)) ({ frames := 1, cells := 0, slots := 0, locals := 21 }) (va_Pc [.ref x, .int p0] (PRE D k sd (C9 k x u) sz)) (va_Qi (S := Unit) (fun r _ => r = (-2)) (fun uu t => PO D (va_A (C9 k x u) sz) ((fun _ => ([] : va_W)) uu) t) (va_A (C9 k x u) sz)) 0 0 (va_A (C9 k x u) sz) := by
  refine Met.ofW (cc := cX9_burn) (maxL := 3) (ret := (some .int)) (by decide) rfl ?_
  intro p e s m args below meth c s₁ B hml hv
  obtain ⟨rfl, hsz, hP, hK, hD0, hE, hX⟩ := hv
  have hx := B.exec
  have hb := B.bytes
  have hr := B.returns
  have hw : ∀ w ∈ wsB, w.before _ s = true := fun w h => atoms_spec (ws := wB yX9_burn cX9_burn 3 (some .int)) B.pre w (List.mem_cons_of_mem _ h)
  have hown : s.vm.findClass RX9 = some m.cls := findClass_of_methodNamed B.named
  have hlocks := B.notSynchronized
  subst hsz
  have hD := hD0.self (sz := s.heap.size)
  generalize hAe : va_A (C9 k x u) s.heap.size = A at hD hX ⊢
  have hA : ∀ q : Nat, s.heap.size ≤ q → A q := fun q h => by rw [← hAe]; exact Or.inr h
  have hS : va_S A s.heap s.heap [] := va_S.rf
  have hl := lv_entry ([.ref x, .int p0]) (n := 3) (Nat.le_of_ble_eq_true rfl)
  rw [lg_entry_eq]
  generalize (lg_sl ([.ref x, .int p0]) ++ List.replicate (3 - (lg_sl ([.ref x, .int p0])).length) Slot.unset).toArray = ls at hl ⊢
  have hl : lv_has ls 3 [(0, .ref x), (1, .int p0)] := hl
  refine lv_aload_n hx hb dX9_burn_0 rfl (lv_at hl 0 rfl) ?_
  refine lv_iload_n hx hb dX9_burn_1 rfl (lv_at hl 1 rfl) ?_
  refine x_i (wr := ([] : va_W)) (va_runV (As := [.int p0]) (rest := []) ⟨hx, hb, hml, hown, hw⟩ (kX9_isLog l D k sd x u p0 s.heap.size) (cwV 1 hw (gV wd_769 wd_771 wp_15 wd_1 wd_772) rfl rfl rfl (by decide +kernel) ⟨Nat.le_of_ble_eq_true rfl, Nat.le_of_ble_eq_true rfl⟩) (pre_V (ci := 9) (r := (RX9, TX9, 12)) hK hE hX hP hD hS hA [0, 1, 2, 3, 4, 5] (by decide) rfl rfl (q0 := 0) rfl) rfl rfl hl.1 rfl (lv_room (Nat.le_of_ble_eq_true rfl)) dX9_burn_2 ⟨Nat.le_of_ble_eq_true rfl, Nat.le_of_ble_eq_true rfl⟩) hP hD hS hA [0, 1, 2, 3, 4, 5] [] rfl rfl (by decide) (by decide) (fun r_3 u_1 H locs hp_2 hP hD hS => ?_)
  subst hp_2
  have hP : va_P D vwCl (C9 k x u) H := hP
  have hD : va_D A (C9 k x u) := hD
  refine lv_if_eq (tgt := 22) hx hb dX9_burn_5 (by decide) (fun _ => ?_) (fun h => absurd (by decide) h)
  refine lv_bipush (v := (-2)) hx hb dX9_burn_22 (by decide) ?_
  refine W.widen (k := 0) (n := 0) (Nat.le_of_ble_eq_true rfl) (Nat.le_of_ble_eq_true rfl) ?_
  have hP9 : va_P D vwCl ((fun _ => ([] : va_W)) ()) H := hP.sub [] rfl
  have hD9 : va_D A ((fun _ => ([] : va_W)) ()) := hD.sub [] (by decide) rfl
  exact W.iret (v := (-2)) hx hb hr (fun t ht hW => ⟨⟨(-2), (), rfl, rfl, by rw [ht]; exact hP9, hD9⟩, hS.F ht⟩) hS.2.2 dX9_burn_24

set_option maxHeartbeats 4000000 in
set_option maxRecDepth 100000 in
theorem kX9_saw (l : Launch) (D : va_G) (k : Nat → ClassId) (sd : Nat → Nat) (x : Nat) (u : Nat → Nat → Nat) (p0 : Int32) (p1 : Int32) (sz : Nat) : Met l yX9_saw (wB yX9_saw cX9_saw 3 (some .int)) ({ frames := 1, cells := 0, slots := 0, locals := 21 }) (va_Pc [.ref x, .int p0, .int p1] (PRE D k sd (C9 k x u) sz)) (va_Qi (S := Unit) (fun r _ => r = (-2)) (fun uu t => PO D (va_A (C9 k x u) sz) ((fun _ => ([] : va_W)) uu) t) (va_A (C9 k x u) sz)) 0 0 (va_A (C9 k x u) sz) := by
  refine Met.ofW (cc := cX9_saw) (maxL := 3) (ret := (some .int)) (by decide) rfl ?_
  intro p e s m args below meth c s₁ B hml hv
  obtain ⟨rfl, hsz, hP, hK, hD0, hE, hX⟩ := hv
  have hx := B.exec
  have hb := B.bytes
  have hr := B.returns
  have hw : ∀ w ∈ wsB, w.before _ s = true := fun w h => atoms_spec (ws := wB yX9_saw cX9_saw 3 (some .int)) B.pre w (List.mem_cons_of_mem _ h)
  have hown : s.vm.findClass RX9 = some m.cls := findClass_of_methodNamed B.named
  have hlocks := B.notSynchronized
  subst hsz
  have hD := hD0.self (sz := s.heap.size)
  generalize hAe : va_A (C9 k x u) s.heap.size = A at hD hX ⊢
  have hA : ∀ q : Nat, s.heap.size ≤ q → A q := fun q h => by rw [← hAe]; exact Or.inr h
  have hS : va_S A s.heap s.heap [] := va_S.rf
  have hl := lv_entry ([.ref x, .int p0, .int p1]) (n := 3) (Nat.le_of_ble_eq_true rfl)
  rw [lg_entry_eq]
  generalize (lg_sl ([.ref x, .int p0, .int p1]) ++ List.replicate (3 - (lg_sl ([.ref x, .int p0, .int p1])).length) Slot.unset).toArray = ls at hl ⊢
  have hl : lv_has ls 3 [(0, .ref x), (1, .int p0), (2, .int p1)] := hl
  refine lv_aload_n hx hb dX9_saw_0 rfl (lv_at hl 0 rfl) ?_
  refine lv_iload_n hx hb dX9_saw_1 rfl (lv_at hl 1 rfl) ?_
  refine x_i (wr := ([] : va_W)) (va_runV (As := [.int p0]) (rest := []) ⟨hx, hb, hml, hown, hw⟩ (kX9_isLog l D k sd x u p0 s.heap.size) (cwV 1 hw (gV wd_769 wd_771 wp_15 wd_1 wd_772) rfl rfl rfl (by decide +kernel) ⟨Nat.le_of_ble_eq_true rfl, Nat.le_of_ble_eq_true rfl⟩) (pre_V (ci := 9) (r := (RX9, TX9, 12)) hK hE hX hP hD hS hA [0, 1, 2, 3, 4, 5] (by decide) rfl rfl (q0 := 0) rfl) rfl rfl hl.1 rfl (lv_room (Nat.le_of_ble_eq_true rfl)) dX9_saw_2 ⟨Nat.le_of_ble_eq_true rfl, Nat.le_of_ble_eq_true rfl⟩) hP hD hS hA [0, 1, 2, 3, 4, 5] [] rfl rfl (by decide) (by decide) (fun r_3 u_1 H locs hp_2 hP hD hS => ?_)
  subst hp_2
  have hP : va_P D vwCl (C9 k x u) H := hP
  have hD : va_D A (C9 k x u) := hD
  refine lv_if_eq (tgt := 43) hx hb dX9_saw_5 (by decide) (fun _ => ?_) (fun h => absurd (by decide) h)
  refine lv_bipush (v := (-2)) hx hb dX9_saw_43 (by decide) ?_
  refine W.widen (k := 0) (n := 0) (Nat.le_of_ble_eq_true rfl) (Nat.le_of_ble_eq_true rfl) ?_
  have hP9 : va_P D vwCl ((fun _ => ([] : va_W)) ()) H := hP.sub [] rfl
  have hD9 : va_D A ((fun _ => ([] : va_W)) ()) := hD.sub [] (by decide) rfl
  exact W.iret (v := (-2)) hx hb hr (fun t ht hW => ⟨⟨(-2), (), rfl, rfl, by rw [ht]; exact hP9, hD9⟩, hS.F ht⟩) hS.2.2 dX9_saw_45

set_option maxHeartbeats 4000000 in
set_option maxRecDepth 100000 in
theorem kX9_ahead (l : Launch) (D : va_G) (k : Nat → ClassId) (sd : Nat → Nat) (x : Nat) (u : Nat → Nat → Nat) (p0 : Int32) (p1 : Int32) (sz : Nat) : Met l yX9_ahead (wB yX9_ahead cX9_ahead 6 (some .int)) ({ frames := 1, cells := 0, slots := 0, locals := 21 }) (va_Pc [.ref x, .int p0, .int p1] (PRE D k sd (C9 k x u) sz)) (va_Qi (S := Unit) (fun r _ => r = (-2)) (fun uu t => PO D (va_A (C9 k x u) sz) ((fun _ => ([] : va_W)) uu) t) (va_A (C9 k x u) sz)) 0 0 (va_A (C9 k x u) sz) := by
  refine Met.ofW (cc := cX9_ahead) (maxL := 6) (ret := (some .int)) (by decide) rfl ?_
  intro p e s m args below meth c s₁ B hml hv
  obtain ⟨rfl, hsz, hP, hK, hD0, hE, hX⟩ := hv
  have hx := B.exec
  have hb := B.bytes
  have hr := B.returns
  have hw : ∀ w ∈ wsB, w.before _ s = true := fun w h => atoms_spec (ws := wB yX9_ahead cX9_ahead 6 (some .int)) B.pre w (List.mem_cons_of_mem _ h)
  have hown : s.vm.findClass RX9 = some m.cls := findClass_of_methodNamed B.named
  have hlocks := B.notSynchronized
  subst hsz
  have hD := hD0.self (sz := s.heap.size)
  generalize hAe : va_A (C9 k x u) s.heap.size = A at hD hX ⊢
  have hA : ∀ q : Nat, s.heap.size ≤ q → A q := fun q h => by rw [← hAe]; exact Or.inr h
  have hS : va_S A s.heap s.heap [] := va_S.rf
  have hl := lv_entry ([.ref x, .int p0, .int p1]) (n := 6) (Nat.le_of_ble_eq_true rfl)
  rw [lg_entry_eq]
  generalize (lg_sl ([.ref x, .int p0, .int p1]) ++ List.replicate (6 - (lg_sl ([.ref x, .int p0, .int p1])).length) Slot.unset).toArray = ls at hl ⊢
  have hl : lv_has ls 6 [(0, .ref x), (1, .int p0), (2, .int p1)] := hl
  refine lv_aload_n hx hb dX9_ahead_0 rfl (lv_at hl 0 rfl) ?_
  refine lv_iload_n hx hb dX9_ahead_1 rfl (lv_at hl 1 rfl) ?_
  refine x_i (wr := ([] : va_W)) (va_runV (As := [.int p0]) (rest := []) ⟨hx, hb, hml, hown, hw⟩ (kX9_isLog l D k sd x u p0 s.heap.size) (cwV 1 hw (gV wd_769 wd_771 wp_15 wd_1 wd_772) rfl rfl rfl (by decide +kernel) ⟨Nat.le_of_ble_eq_true rfl, Nat.le_of_ble_eq_true rfl⟩) (pre_V (ci := 9) (r := (RX9, TX9, 12)) hK hE hX hP hD hS hA [0, 1, 2, 3, 4, 5] (by decide) rfl rfl (q0 := 0) rfl) rfl rfl hl.1 rfl (lv_room (Nat.le_of_ble_eq_true rfl)) dX9_ahead_2 ⟨Nat.le_of_ble_eq_true rfl, Nat.le_of_ble_eq_true rfl⟩) hP hD hS hA [0, 1, 2, 3, 4, 5] [] rfl rfl (by decide) (by decide) (fun r_3 u_1 H locs hp_2 hP hD hS => ?_)
  subst hp_2
  have hP : va_P D vwCl (C9 k x u) H := hP
  have hD : va_D A (C9 k x u) := hD
  refine lv_if_eq (tgt := 16) hx hb dX9_ahead_5 (by decide) (fun _ => ?_) (fun h => absurd (by decide) h)
  refine lv_bipush (v := (-2)) hx hb dX9_ahead_16 (by decide) ?_
  refine W.widen (k := 0) (n := 0) (Nat.le_of_ble_eq_true rfl) (Nat.le_of_ble_eq_true rfl) ?_
  have hP9 : va_P D vwCl ((fun _ => ([] : va_W)) ()) H := hP.sub [] rfl
  have hD9 : va_D A ((fun _ => ([] : va_W)) ()) := hD.sub [] (by decide) rfl
  exact W.iret (v := (-2)) hx hb hr (fun t ht hW => ⟨⟨(-2), (), rfl, rfl, by rw [ht]; exact hP9, hD9⟩, hS.F ht⟩) hS.2.2 dX9_ahead_18

set_option maxHeartbeats 4000000 in
set_option maxRecDepth 100000 in
theorem kX9_dam (l : Launch) (D : va_G) (k : Nat → ClassId) (sd : Nat → Nat) (x : Nat) (u : Nat → Nat → Nat) (p0 : Int32) (sz : Nat) : Met l yX9_dam (wB yX9_dam cX9_dam 2 (some .int)) ({ frames := 1, cells := 0, slots := 0, locals := 21 }) (va_Pc [.ref x, .int p0] (PRE D k sd (C9 k x u) sz)) (va_Qi (S := Unit) (fun r _ => r = (-2)) (fun uu t => PO D (va_A (C9 k x u) sz) ((fun _ => ([] : va_W)) uu) t) (va_A (C9 k x u) sz)) 0 0 (va_A (C9 k x u) sz) := by
  refine Met.ofW (cc := cX9_dam) (maxL := 2) (ret := (some .int)) (by decide) rfl ?_
  intro p e s m args below meth c s₁ B hml hv
  obtain ⟨rfl, hsz, hP, hK, hD0, hE, hX⟩ := hv
  have hx := B.exec
  have hb := B.bytes
  have hr := B.returns
  have hw : ∀ w ∈ wsB, w.before _ s = true := fun w h => atoms_spec (ws := wB yX9_dam cX9_dam 2 (some .int)) B.pre w (List.mem_cons_of_mem _ h)
  have hown : s.vm.findClass RX9 = some m.cls := findClass_of_methodNamed B.named
  have hlocks := B.notSynchronized
  subst hsz
  have hD := hD0.self (sz := s.heap.size)
  generalize hAe : va_A (C9 k x u) s.heap.size = A at hD hX ⊢
  have hA : ∀ q : Nat, s.heap.size ≤ q → A q := fun q h => by rw [← hAe]; exact Or.inr h
  have hS : va_S A s.heap s.heap [] := va_S.rf
  have hl := lv_entry ([.ref x, .int p0]) (n := 2) (Nat.le_of_ble_eq_true rfl)
  rw [lg_entry_eq]
  generalize (lg_sl ([.ref x, .int p0]) ++ List.replicate (2 - (lg_sl ([.ref x, .int p0])).length) Slot.unset).toArray = ls at hl ⊢
  have hl : lv_has ls 2 [(0, .ref x), (1, .int p0)] := hl
  refine lv_aload_n hx hb dX9_dam_0 rfl (lv_at hl 0 rfl) ?_
  refine lv_iload_n hx hb dX9_dam_1 rfl (lv_at hl 1 rfl) ?_
  refine x_i (wr := ([] : va_W)) (va_runV (As := [.int p0]) (rest := []) ⟨hx, hb, hml, hown, hw⟩ (kX9_isBend l D k sd x u p0 s.heap.size) (cwV 1 hw (gV wd_697 wd_699 wp_12 wd_1 wd_700) rfl rfl rfl (by decide +kernel) ⟨Nat.le_of_ble_eq_true rfl, Nat.le_of_ble_eq_true rfl⟩) (pre_V (ci := 9) (r := (RX9, TX9, 12)) hK hE hX hP hD hS hA [0, 1, 2, 3, 4, 5] (by decide) rfl rfl (q0 := 0) rfl) rfl rfl hl.1 rfl (lv_room (Nat.le_of_ble_eq_true rfl)) dX9_dam_2 ⟨Nat.le_of_ble_eq_true rfl, Nat.le_of_ble_eq_true rfl⟩) hP hD hS hA [0, 1, 2, 3, 4, 5] [] rfl rfl (by decide) (by decide) (fun r_3 u_1 H locs hp_2 hP hD hS => ?_)
  subst hp_2
  have hP : va_P D vwCl (C9 k x u) H := hP
  have hD : va_D A (C9 k x u) := hD
  refine lv_if_eq (tgt := 24) hx hb dX9_dam_5 (by decide) (fun _ => ?_) (fun h => absurd (by decide) h)
  refine lv_bipush (v := (-2)) hx hb dX9_dam_24 (by decide) ?_
  refine W.widen (k := 0) (n := 0) (Nat.le_of_ble_eq_true rfl) (Nat.le_of_ble_eq_true rfl) ?_
  have hP9 : va_P D vwCl ((fun _ => ([] : va_W)) ()) H := hP.sub [] rfl
  have hD9 : va_D A ((fun _ => ([] : va_W)) ()) := hD.sub [] (by decide) rfl
  exact W.iret (v := (-2)) hx hb hr (fun t ht hW => ⟨⟨(-2), (), rfl, rfl, by rw [ht]; exact hP9, hD9⟩, hS.F ht⟩) hS.2.2 dX9_dam_26

set_option maxHeartbeats 4000000 in
set_option maxRecDepth 100000 in
theorem kX9_appeal (l : Launch) (D : va_G) (k : Nat → ClassId) (sd : Nat → Nat) (x : Nat) (u : Nat → Nat → Nat) (p0 : Int32) (sz : Nat) : Met l yX9_appeal (wB yX9_appeal cX9_appeal 2 (some .int)) ({ frames := 1, cells := 0, slots := 0, locals := 21 }) (va_Pc [.ref x, .int p0] (PRE D k sd (C9 k x u) sz)) (va_Qi (S := Unit) (fun r _ => r = (-2)) (fun uu t => PO D (va_A (C9 k x u) sz) ((fun _ => ([] : va_W)) uu) t) (va_A (C9 k x u) sz)) 0 0 (va_A (C9 k x u) sz) := by
  refine Met.ofW (cc := cX9_appeal) (maxL := 2) (ret := (some .int)) (by decide) rfl ?_
  intro p e s m args below meth c s₁ B hml hv
  obtain ⟨rfl, hsz, hP, hK, hD0, hE, hX⟩ := hv
  have hx := B.exec
  have hb := B.bytes
  have hr := B.returns
  have hw : ∀ w ∈ wsB, w.before _ s = true := fun w h => atoms_spec (ws := wB yX9_appeal cX9_appeal 2 (some .int)) B.pre w (List.mem_cons_of_mem _ h)
  have hown : s.vm.findClass RX9 = some m.cls := findClass_of_methodNamed B.named
  have hlocks := B.notSynchronized
  subst hsz
  have hD := hD0.self (sz := s.heap.size)
  generalize hAe : va_A (C9 k x u) s.heap.size = A at hD hX ⊢
  have hA : ∀ q : Nat, s.heap.size ≤ q → A q := fun q h => by rw [← hAe]; exact Or.inr h
  have hS : va_S A s.heap s.heap [] := va_S.rf
  have hl := lv_entry ([.ref x, .int p0]) (n := 2) (Nat.le_of_ble_eq_true rfl)
  rw [lg_entry_eq]
  generalize (lg_sl ([.ref x, .int p0]) ++ List.replicate (2 - (lg_sl ([.ref x, .int p0])).length) Slot.unset).toArray = ls at hl ⊢
  have hl : lv_has ls 2 [(0, .ref x), (1, .int p0)] := hl
  refine lv_aload_n hx hb dX9_appeal_0 rfl (lv_at hl 0 rfl) ?_
  refine lv_iload_n hx hb dX9_appeal_1 rfl (lv_at hl 1 rfl) ?_
  refine x_i (wr := ([] : va_W)) (va_runV (As := [.int p0]) (rest := []) ⟨hx, hb, hml, hown, hw⟩ (kX9_isBend l D k sd x u p0 s.heap.size) (cwV 1 hw (gV wd_697 wd_699 wp_12 wd_1 wd_700) rfl rfl rfl (by decide +kernel) ⟨Nat.le_of_ble_eq_true rfl, Nat.le_of_ble_eq_true rfl⟩) (pre_V (ci := 9) (r := (RX9, TX9, 12)) hK hE hX hP hD hS hA [0, 1, 2, 3, 4, 5] (by decide) rfl rfl (q0 := 0) rfl) rfl rfl hl.1 rfl (lv_room (Nat.le_of_ble_eq_true rfl)) dX9_appeal_2 ⟨Nat.le_of_ble_eq_true rfl, Nat.le_of_ble_eq_true rfl⟩) hP hD hS hA [0, 1, 2, 3, 4, 5] [] rfl rfl (by decide) (by decide) (fun r_3 u_1 H locs hp_2 hP hD hS => ?_)
  subst hp_2
  have hP : va_P D vwCl (C9 k x u) H := hP
  have hD : va_D A (C9 k x u) := hD
  refine lv_if_eq (tgt := 24) hx hb dX9_appeal_5 (by decide) (fun _ => ?_) (fun h => absurd (by decide) h)
  refine lv_bipush (v := (-2)) hx hb dX9_appeal_24 (by decide) ?_
  refine W.widen (k := 0) (n := 0) (Nat.le_of_ble_eq_true rfl) (Nat.le_of_ble_eq_true rfl) ?_
  have hP9 : va_P D vwCl ((fun _ => ([] : va_W)) ()) H := hP.sub [] rfl
  have hD9 : va_D A ((fun _ => ([] : va_W)) ()) := hD.sub [] (by decide) rfl
  exact W.iret (v := (-2)) hx hb hr (fun t ht hW => ⟨⟨(-2), (), rfl, rfl, by rw [ht]; exact hP9, hD9⟩, hS.F ht⟩) hS.2.2 dX9_appeal_26

set_option maxHeartbeats 4000000 in
set_option maxRecDepth 100000 in
theorem kX9_votes (l : Launch) (D : va_G) (k : Nat → ClassId) (sd : Nat → Nat) (x : Nat) (u : Nat → Nat → Nat) (p0 : Int32) (p1 : Int32) (sz : Nat) : Met l yX9_votes (wB yX9_votes cX9_votes 3 (some .int)) ({ frames := 1, cells := 0, slots := 0, locals := 21 }) (va_Pc [.ref x, .int p0, .int p1] (PRE D k sd (C9 k x u) sz)) (va_Qi (S := Unit) (fun r _ => r = (-1)) (fun uu t => PO D (va_A (C9 k x u) sz) ((fun _ => ([] : va_W)) uu) t) (va_A (C9 k x u) sz)) 0 0 (va_A (C9 k x u) sz) := by
  refine Met.ofW (cc := cX9_votes) (maxL := 3) (ret := (some .int)) (by decide) rfl ?_
  intro p e s m args below meth c s₁ B hml hv
  obtain ⟨rfl, hsz, hP, hK, hD0, hE, hX⟩ := hv
  have hx := B.exec
  have hb := B.bytes
  have hr := B.returns
  have hw : ∀ w ∈ wsB, w.before _ s = true := fun w h => atoms_spec (ws := wB yX9_votes cX9_votes 3 (some .int)) B.pre w (List.mem_cons_of_mem _ h)
  have hown : s.vm.findClass RX9 = some m.cls := findClass_of_methodNamed B.named
  have hlocks := B.notSynchronized
  subst hsz
  have hD := hD0.self (sz := s.heap.size)
  generalize hAe : va_A (C9 k x u) s.heap.size = A at hD hX ⊢
  have hA : ∀ q : Nat, s.heap.size ≤ q → A q := fun q h => by rw [← hAe]; exact Or.inr h
  have hS : va_S A s.heap s.heap [] := va_S.rf
  have hl := lv_entry ([.ref x, .int p0, .int p1]) (n := 3) (Nat.le_of_ble_eq_true rfl)
  rw [lg_entry_eq]
  generalize (lg_sl ([.ref x, .int p0, .int p1]) ++ List.replicate (3 - (lg_sl ([.ref x, .int p0, .int p1])).length) Slot.unset).toArray = ls at hl ⊢
  have hl : lv_has ls 3 [(0, .ref x), (1, .int p0), (2, .int p1)] := hl
  refine lv_aload_n hx hb dX9_votes_0 rfl (lv_at hl 0 rfl) ?_
  refine lv_iload_n hx hb dX9_votes_1 rfl (lv_at hl 1 rfl) ?_
  refine x_i (wr := ([] : va_W)) (va_runV (As := [.int p0]) (rest := []) ⟨hx, hb, hml, hown, hw⟩ (kX9_isBend l D k sd x u p0 s.heap.size) (cwV 1 hw (gV wd_697 wd_699 wp_12 wd_1 wd_700) rfl rfl rfl (by decide +kernel) ⟨Nat.le_of_ble_eq_true rfl, Nat.le_of_ble_eq_true rfl⟩) (pre_V (ci := 9) (r := (RX9, TX9, 12)) hK hE hX hP hD hS hA [0, 1, 2, 3, 4, 5] (by decide) rfl rfl (q0 := 0) rfl) rfl rfl hl.1 rfl (lv_room (Nat.le_of_ble_eq_true rfl)) dX9_votes_2 ⟨Nat.le_of_ble_eq_true rfl, Nat.le_of_ble_eq_true rfl⟩) hP hD hS hA [0, 1, 2, 3, 4, 5] [] rfl rfl (by decide) (by decide) (fun r_3 u_1 H locs hp_2 hP hD hS => ?_)
  subst hp_2
  have hP : va_P D vwCl (C9 k x u) H := hP
  have hD : va_D A (C9 k x u) := hD
  refine lv_if_eq (tgt := 17) hx hb dX9_votes_5 (by decide) (fun _ => ?_) (fun h => absurd (by decide) h)
  refine lv_iconst (v := (-1)) hx hb dX9_votes_17 (by decide) ?_
  refine W.widen (k := 0) (n := 0) (Nat.le_of_ble_eq_true rfl) (Nat.le_of_ble_eq_true rfl) ?_
  have hP9 : va_P D vwCl ((fun _ => ([] : va_W)) ()) H := hP.sub [] rfl
  have hD9 : va_D A ((fun _ => ([] : va_W)) ()) := hD.sub [] (by decide) rfl
  exact W.iret (v := (-1)) hx hb hr (fun t ht hW => ⟨⟨(-1), (), rfl, rfl, by rw [ht]; exact hP9, hD9⟩, hS.F ht⟩) hS.2.2 dX9_votes_18

set_option maxHeartbeats 4000000 in
set_option maxRecDepth 100000 in
theorem kX9_flood (l : Launch) (D : va_G) (k : Nat → ClassId) (sd : Nat → Nat) (x : Nat) (u : Nat → Nat → Nat) (p0 : Int32) (sz : Nat) : Met l yX9_flood (wB yX9_flood cX9_flood 2 (some .int)) ({ frames := 1, cells := 0, slots := 0, locals := 20 }) (va_Pc [.ref x, .int p0] (PRE D k sd (C9 k x u) sz)) (va_Qi (S := Unit) (fun r _ => r = (-2)) (fun uu t => PO D (va_A (C9 k x u) sz) ((fun _ => ([] : va_W)) uu) t) (va_A (C9 k x u) sz)) 0 0 (va_A (C9 k x u) sz) := by
  refine Met.ofW (cc := cX9_flood) (maxL := 2) (ret := (some .int)) (by decide) rfl ?_
  intro p e s m args below meth c s₁ B hml hv
  obtain ⟨rfl, hsz, hP, hK, hD0, hE, hX⟩ := hv
  have hx := B.exec
  have hb := B.bytes
  have hr := B.returns
  have hw : ∀ w ∈ wsB, w.before _ s = true := fun w h => atoms_spec (ws := wB yX9_flood cX9_flood 2 (some .int)) B.pre w (List.mem_cons_of_mem _ h)
  have hown : s.vm.findClass RX9 = some m.cls := findClass_of_methodNamed B.named
  have hlocks := B.notSynchronized
  subst hsz
  have hD := hD0.self (sz := s.heap.size)
  generalize hAe : va_A (C9 k x u) s.heap.size = A at hD hX ⊢
  have hA : ∀ q : Nat, s.heap.size ≤ q → A q := fun q h => by rw [← hAe]; exact Or.inr h
  have hS : va_S A s.heap s.heap [] := va_S.rf
  have hl := lv_entry ([.ref x, .int p0]) (n := 2) (Nat.le_of_ble_eq_true rfl)
  rw [lg_entry_eq]
  generalize (lg_sl ([.ref x, .int p0]) ++ List.replicate (2 - (lg_sl ([.ref x, .int p0])).length) Slot.unset).toArray = ls at hl ⊢
  have hl : lv_has ls 2 [(0, .ref x), (1, .int p0)] := hl
  refine lv_aload_n hx hb dX9_flood_0 rfl (lv_at hl 0 rfl) ?_
  refine x_i (wr := ([] : va_W)) (va_runV (As := []) (rest := []) ⟨hx, hb, hml, hown, hw⟩ (kX9_hasRiver l D k sd x u  s.heap.size) (cwV 0 hw (gV wd_669 wd_671 wp_8 wd_1 wd_672) rfl rfl rfl (by decide +kernel) ⟨Nat.le_of_ble_eq_true rfl, Nat.le_of_ble_eq_true rfl⟩) (pre_V (ci := 9) (r := (RX9, TX9, 12)) hK hE hX hP hD hS hA [0, 1, 2, 3, 4, 5] (by decide) rfl rfl (q0 := 0) rfl) rfl rfl hl.1 rfl (lv_room (Nat.le_of_ble_eq_true rfl)) dX9_flood_1 ⟨Nat.le_of_ble_eq_true rfl, Nat.le_of_ble_eq_true rfl⟩) hP hD hS hA [0, 1, 2, 3, 4, 5] [] rfl rfl (by decide) (by decide) (fun r_3 u_1 H locs hp_2 hP hD hS => ?_)
  subst hp_2
  have hP : va_P D vwCl (C9 k x u) H := hP
  have hD : va_D A (C9 k x u) := hD
  refine lv_if_eq (tgt := 17) hx hb dX9_flood_4 (by decide) (fun _ => ?_) (fun h => absurd (by decide) h)
  refine lv_bipush (v := (-2)) hx hb dX9_flood_17 (by decide) ?_
  refine W.widen (k := 0) (n := 0) (Nat.le_of_ble_eq_true rfl) (Nat.le_of_ble_eq_true rfl) ?_
  have hP9 : va_P D vwCl ((fun _ => ([] : va_W)) ()) H := hP.sub [] rfl
  have hD9 : va_D A ((fun _ => ([] : va_W)) ()) := hD.sub [] (by decide) rfl
  exact W.iret (v := (-2)) hx hb hr (fun t ht hW => ⟨⟨(-2), (), rfl, rfl, by rw [ht]; exact hP9, hD9⟩, hS.F ht⟩) hS.2.2 dX9_flood_19

set_option maxHeartbeats 4000000 in
set_option maxRecDepth 100000 in
theorem kX9_elected (l : Launch) (D : va_G) (k : Nat → ClassId) (sd : Nat → Nat) (x : Nat) (u : Nat → Nat → Nat) (p0 : Int32) (sz : Nat) : Met l yX9_elected (wB yX9_elected cX9_elected 2 (some .int)) ({ frames := 1, cells := 0, slots := 0, locals := 21 }) (va_Pc [.ref x, .int p0] (PRE D k sd (C9 k x u) sz)) (va_Qi (S := Unit) (fun r _ => r = (-1)) (fun uu t => PO D (va_A (C9 k x u) sz) ((fun _ => ([] : va_W)) uu) t) (va_A (C9 k x u) sz)) 0 0 (va_A (C9 k x u) sz) := by
  refine Met.ofW (cc := cX9_elected) (maxL := 2) (ret := (some .int)) (by decide) rfl ?_
  intro p e s m args below meth c s₁ B hml hv
  obtain ⟨rfl, hsz, hP, hK, hD0, hE, hX⟩ := hv
  have hx := B.exec
  have hb := B.bytes
  have hr := B.returns
  have hw : ∀ w ∈ wsB, w.before _ s = true := fun w h => atoms_spec (ws := wB yX9_elected cX9_elected 2 (some .int)) B.pre w (List.mem_cons_of_mem _ h)
  have hown : s.vm.findClass RX9 = some m.cls := findClass_of_methodNamed B.named
  have hlocks := B.notSynchronized
  subst hsz
  have hD := hD0.self (sz := s.heap.size)
  generalize hAe : va_A (C9 k x u) s.heap.size = A at hD hX ⊢
  have hA : ∀ q : Nat, s.heap.size ≤ q → A q := fun q h => by rw [← hAe]; exact Or.inr h
  have hS : va_S A s.heap s.heap [] := va_S.rf
  have hl := lv_entry ([.ref x, .int p0]) (n := 2) (Nat.le_of_ble_eq_true rfl)
  rw [lg_entry_eq]
  generalize (lg_sl ([.ref x, .int p0]) ++ List.replicate (2 - (lg_sl ([.ref x, .int p0])).length) Slot.unset).toArray = ls at hl ⊢
  have hl : lv_has ls 2 [(0, .ref x), (1, .int p0)] := hl
  refine lv_aload_n hx hb dX9_elected_0 rfl (lv_at hl 0 rfl) ?_
  refine lv_iload_n hx hb dX9_elected_1 rfl (lv_at hl 1 rfl) ?_
  refine x_i (wr := ([] : va_W)) (va_runV (As := [.int p0]) (rest := []) ⟨hx, hb, hml, hown, hw⟩ (kX9_isLog l D k sd x u p0 s.heap.size) (cwV 1 hw (gV wd_769 wd_771 wp_15 wd_1 wd_772) rfl rfl rfl (by decide +kernel) ⟨Nat.le_of_ble_eq_true rfl, Nat.le_of_ble_eq_true rfl⟩) (pre_V (ci := 9) (r := (RX9, TX9, 12)) hK hE hX hP hD hS hA [0, 1, 2, 3, 4, 5] (by decide) rfl rfl (q0 := 0) rfl) rfl rfl hl.1 rfl (lv_room (Nat.le_of_ble_eq_true rfl)) dX9_elected_2 ⟨Nat.le_of_ble_eq_true rfl, Nat.le_of_ble_eq_true rfl⟩) hP hD hS hA [0, 1, 2, 3, 4, 5] [] rfl rfl (by decide) (by decide) (fun r_3 u_1 H locs hp_2 hP hD hS => ?_)
  subst hp_2
  have hP : va_P D vwCl (C9 k x u) H := hP
  have hD : va_D A (C9 k x u) := hD
  refine lv_if_ne (tgt := 10) hx hb dX9_elected_5 (by decide) (fun h => absurd (by decide) h) (fun _ => ?_)
  refine lv_iconst (v := (-1)) hx hb dX9_elected_8 (by decide) ?_
  refine W.widen (k := 0) (n := 0) (Nat.le_of_ble_eq_true rfl) (Nat.le_of_ble_eq_true rfl) ?_
  have hP9 : va_P D vwCl ((fun _ => ([] : va_W)) ()) H := hP.sub [] rfl
  have hD9 : va_D A ((fun _ => ([] : va_W)) ()) := hD.sub [] (by decide) rfl
  exact W.iret (v := (-1)) hx hb hr (fun t ht hW => ⟨⟨(-1), (), rfl, rfl, by rw [ht]; exact hP9, hD9⟩, hS.F ht⟩) hS.2.2 dX9_elected_9

set_option maxHeartbeats 4000000 in
set_option maxRecDepth 100000 in
theorem kX9_wedding (l : Launch) (D : va_G) (k : Nat → ClassId) (sd : Nat → Nat) (x : Nat) (u : Nat → Nat → Nat) (p0 : Int32) (sz : Nat) : Met l yX9_wedding (wB yX9_wedding cX9_wedding 4 (some .int)) ({ frames := 1, cells := 0, slots := 0, locals := 21 }) (va_Pc [.ref x, .int p0] (PRE D k sd (C9 k x u) sz)) (va_Qi (S := Unit) (fun r _ => r = (-2)) (fun uu t => PO D (va_A (C9 k x u) sz) ((fun _ => ([] : va_W)) uu) t) (va_A (C9 k x u) sz)) 0 0 (va_A (C9 k x u) sz) := by
  refine Met.ofW (cc := cX9_wedding) (maxL := 4) (ret := (some .int)) (by decide) rfl ?_
  intro p e s m args below meth c s₁ B hml hv
  obtain ⟨rfl, hsz, hP, hK, hD0, hE, hX⟩ := hv
  have hx := B.exec
  have hb := B.bytes
  have hr := B.returns
  have hw : ∀ w ∈ wsB, w.before _ s = true := fun w h => atoms_spec (ws := wB yX9_wedding cX9_wedding 4 (some .int)) B.pre w (List.mem_cons_of_mem _ h)
  have hown : s.vm.findClass RX9 = some m.cls := findClass_of_methodNamed B.named
  have hlocks := B.notSynchronized
  subst hsz
  have hD := hD0.self (sz := s.heap.size)
  generalize hAe : va_A (C9 k x u) s.heap.size = A at hD hX ⊢
  have hA : ∀ q : Nat, s.heap.size ≤ q → A q := fun q h => by rw [← hAe]; exact Or.inr h
  have hS : va_S A s.heap s.heap [] := va_S.rf
  have hl := lv_entry ([.ref x, .int p0]) (n := 4) (Nat.le_of_ble_eq_true rfl)
  rw [lg_entry_eq]
  generalize (lg_sl ([.ref x, .int p0]) ++ List.replicate (4 - (lg_sl ([.ref x, .int p0])).length) Slot.unset).toArray = ls at hl ⊢
  have hl : lv_has ls 4 [(0, .ref x), (1, .int p0)] := hl
  refine lv_aload_n hx hb dX9_wedding_0 rfl (lv_at hl 0 rfl) ?_
  refine va_get (D := D) (ci := 9) (v := .ref (u 0 4)) (C := RX9) (T := TX9) (N := 12) hx hb hw inlX9 hown hK hP 0 rfl rfl 5 (by decide) (hw _ wd_424) (fun _ h9 => h9) rfl dX9_wedding_1 ?_
  refine va_get (D := D) (ci := 8) (v := .ref (u 5 10)) (C := RX8) (T := TX8) (N := 9) hx hb hw inlX8 hown hK hP 1 rfl rfl 2 (by decide) (hw _ wd_365) (fun _ h9 => h9) rfl dX9_wedding_4 ?_
  refine lv_astore_n (lv' := [(2, .ref (u 5 10)), (0, .ref x), (1, .int p0)]) hx hb dX9_wedding_7 rfl hl (by decide) rfl (fun ls hl => ?_)
  refine lv_aload_n hx hb dX9_wedding_8 rfl (lv_at hl 1 rfl) ?_
  refine lv_iload_n hx hb dX9_wedding_9 rfl (lv_at hl 2 rfl) ?_
  refine x_i (wr := ([] : va_W)) (va_runV (As := [.int p0]) (rest := []) ⟨hx, hb, hml, hown, hw⟩ (kX9_isVillage l D k sd x u p0 s.heap.size) (cwV 1 hw (gV wd_685 wd_687 wp_11 wd_1 wd_688) rfl rfl rfl (by decide +kernel) ⟨Nat.le_of_ble_eq_true rfl, Nat.le_of_ble_eq_true rfl⟩) (pre_V (ci := 9) (r := (RX9, TX9, 12)) hK hE hX hP hD hS hA [0, 1, 2, 3, 4, 5] (by decide) rfl rfl (q0 := 0) rfl) rfl rfl hl.1 rfl (lv_room (Nat.le_of_ble_eq_true rfl)) dX9_wedding_10 ⟨Nat.le_of_ble_eq_true rfl, Nat.le_of_ble_eq_true rfl⟩) hP hD hS hA [0, 1, 2, 3, 4, 5] [] rfl rfl (by decide) (by decide) (fun r_3 u_1 H locs hp_2 hP hD hS => ?_)
  subst hp_2
  have hP : va_P D vwCl (C9 k x u) H := hP
  have hD : va_D A (C9 k x u) := hD
  refine lv_if_eq (tgt := 25) hx hb dX9_wedding_13 (by decide) (fun _ => ?_) (fun h => absurd (by decide) h)
  refine lv_bipush (v := (-2)) hx hb dX9_wedding_25 (by decide) ?_
  refine W.widen (k := 0) (n := 0) (Nat.le_of_ble_eq_true rfl) (Nat.le_of_ble_eq_true rfl) ?_
  have hP9 : va_P D vwCl ((fun _ => ([] : va_W)) ()) H := hP.sub [] rfl
  have hD9 : va_D A ((fun _ => ([] : va_W)) ()) := hD.sub [] (by decide) rfl
  exact W.iret (v := (-2)) hx hb hr (fun t ht hW => ⟨⟨(-2), (), rfl, rfl, by rw [ht]; exact hP9, hD9⟩, hS.F ht⟩) hS.2.2 dX9_wedding_27

set_option maxHeartbeats 4000000 in
set_option maxRecDepth 100000 in
theorem kX9_winter (l : Launch) (D : va_G) (k : Nat → ClassId) (sd : Nat → Nat) (x : Nat) (u : Nat → Nat → Nat) (p0 : Int32) (sz : Nat) : Met l yX9_winter (wB yX9_winter cX9_winter 2 (some .int)) ({ frames := 1, cells := 0, slots := 0, locals := 20 }) (va_Pc [.ref x, .int p0] (PRE D k sd (C9 k x u) sz)) (va_Qi (S := Unit) (fun r _ => r = (-2)) (fun uu t => PO D (va_A (C9 k x u) sz) ((fun _ => ([] : va_W)) uu) t) (va_A (C9 k x u) sz)) 0 0 (va_A (C9 k x u) sz) := by
  refine Met.ofW (cc := cX9_winter) (maxL := 2) (ret := (some .int)) (by decide) rfl ?_
  intro p e s m args below meth c s₁ B hml hv
  obtain ⟨rfl, hsz, hP, hK, hD0, hE, hX⟩ := hv
  have hx := B.exec
  have hb := B.bytes
  have hr := B.returns
  have hw : ∀ w ∈ wsB, w.before _ s = true := fun w h => atoms_spec (ws := wB yX9_winter cX9_winter 2 (some .int)) B.pre w (List.mem_cons_of_mem _ h)
  have hown : s.vm.findClass RX9 = some m.cls := findClass_of_methodNamed B.named
  have hlocks := B.notSynchronized
  subst hsz
  have hD := hD0.self (sz := s.heap.size)
  generalize hAe : va_A (C9 k x u) s.heap.size = A at hD hX ⊢
  have hA : ∀ q : Nat, s.heap.size ≤ q → A q := fun q h => by rw [← hAe]; exact Or.inr h
  have hS : va_S A s.heap s.heap [] := va_S.rf
  have hl := lv_entry ([.ref x, .int p0]) (n := 2) (Nat.le_of_ble_eq_true rfl)
  rw [lg_entry_eq]
  generalize (lg_sl ([.ref x, .int p0]) ++ List.replicate (2 - (lg_sl ([.ref x, .int p0])).length) Slot.unset).toArray = ls at hl ⊢
  have hl : lv_has ls 2 [(0, .ref x), (1, .int p0)] := hl
  refine lv_aload_n hx hb dX9_winter_0 rfl (lv_at hl 0 rfl) ?_
  refine x_i (wr := ([] : va_W)) (va_runV (As := []) (rest := []) ⟨hx, hb, hml, hown, hw⟩ (kX9_hasRiver l D k sd x u  s.heap.size) (cwV 0 hw (gV wd_669 wd_671 wp_8 wd_1 wd_672) rfl rfl rfl (by decide +kernel) ⟨Nat.le_of_ble_eq_true rfl, Nat.le_of_ble_eq_true rfl⟩) (pre_V (ci := 9) (r := (RX9, TX9, 12)) hK hE hX hP hD hS hA [0, 1, 2, 3, 4, 5] (by decide) rfl rfl (q0 := 0) rfl) rfl rfl hl.1 rfl (lv_room (Nat.le_of_ble_eq_true rfl)) dX9_winter_1 ⟨Nat.le_of_ble_eq_true rfl, Nat.le_of_ble_eq_true rfl⟩) hP hD hS hA [0, 1, 2, 3, 4, 5] [] rfl rfl (by decide) (by decide) (fun r_3 u_1 H locs hp_2 hP hD hS => ?_)
  subst hp_2
  have hP : va_P D vwCl (C9 k x u) H := hP
  have hD : va_D A (C9 k x u) := hD
  refine lv_if_eq (tgt := 18) hx hb dX9_winter_4 (by decide) (fun _ => ?_) (fun h => absurd (by decide) h)
  refine lv_bipush (v := (-2)) hx hb dX9_winter_18 (by decide) ?_
  refine W.widen (k := 0) (n := 0) (Nat.le_of_ble_eq_true rfl) (Nat.le_of_ble_eq_true rfl) ?_
  have hP9 : va_P D vwCl ((fun _ => ([] : va_W)) ()) H := hP.sub [] rfl
  have hD9 : va_D A ((fun _ => ([] : va_W)) ()) := hD.sub [] (by decide) rfl
  exact W.iret (v := (-2)) hx hb hr (fun t ht hW => ⟨⟨(-2), (), rfl, rfl, by rw [ht]; exact hP9, hD9⟩, hS.F ht⟩) hS.2.2 dX9_winter_20

set_option maxHeartbeats 4000000 in
set_option maxRecDepth 100000 in
theorem kX9_days (l : Launch) (D : va_G) (k : Nat → ClassId) (sd : Nat → Nat) (x : Nat) (u : Nat → Nat → Nat) (p0 : Int32) (sz : Nat) : Met l yX9_days (wB yX9_days cX9_days 3 (some .int)) ({ frames := 1, cells := 0, slots := 0, locals := 20 }) (va_Pc [.ref x, .int p0] (PRE D k sd (C9 k x u) sz)) (va_Qi (S := Unit) (fun r _ => r = (-2)) (fun uu t => PO D (va_A (C9 k x u) sz) ((fun _ => ([] : va_W)) uu) t) (va_A (C9 k x u) sz)) 0 0 (va_A (C9 k x u) sz) := by
  refine Met.ofW (cc := cX9_days) (maxL := 3) (ret := (some .int)) (by decide) rfl ?_
  intro p e s m args below meth c s₁ B hml hv
  obtain ⟨rfl, hsz, hP, hK, hD0, hE, hX⟩ := hv
  have hx := B.exec
  have hb := B.bytes
  have hr := B.returns
  have hw : ∀ w ∈ wsB, w.before _ s = true := fun w h => atoms_spec (ws := wB yX9_days cX9_days 3 (some .int)) B.pre w (List.mem_cons_of_mem _ h)
  have hown : s.vm.findClass RX9 = some m.cls := findClass_of_methodNamed B.named
  have hlocks := B.notSynchronized
  subst hsz
  have hD := hD0.self (sz := s.heap.size)
  generalize hAe : va_A (C9 k x u) s.heap.size = A at hD hX ⊢
  have hA : ∀ q : Nat, s.heap.size ≤ q → A q := fun q h => by rw [← hAe]; exact Or.inr h
  have hS : va_S A s.heap s.heap [] := va_S.rf
  have hl := lv_entry ([.ref x, .int p0]) (n := 3) (Nat.le_of_ble_eq_true rfl)
  rw [lg_entry_eq]
  generalize (lg_sl ([.ref x, .int p0]) ++ List.replicate (3 - (lg_sl ([.ref x, .int p0])).length) Slot.unset).toArray = ls at hl ⊢
  have hl : lv_has ls 3 [(0, .ref x), (1, .int p0)] := hl
  refine lv_aload_n hx hb dX9_days_0 rfl (lv_at hl 0 rfl) ?_
  refine x_i (wr := ([] : va_W)) (va_runV (As := []) (rest := []) ⟨hx, hb, hml, hown, hw⟩ (kX9_hasRiver l D k sd x u  s.heap.size) (cwV 0 hw (gV wd_669 wd_671 wp_8 wd_1 wd_672) rfl rfl rfl (by decide +kernel) ⟨Nat.le_of_ble_eq_true rfl, Nat.le_of_ble_eq_true rfl⟩) (pre_V (ci := 9) (r := (RX9, TX9, 12)) hK hE hX hP hD hS hA [0, 1, 2, 3, 4, 5] (by decide) rfl rfl (q0 := 0) rfl) rfl rfl hl.1 rfl (lv_room (Nat.le_of_ble_eq_true rfl)) dX9_days_1 ⟨Nat.le_of_ble_eq_true rfl, Nat.le_of_ble_eq_true rfl⟩) hP hD hS hA [0, 1, 2, 3, 4, 5] [] rfl rfl (by decide) (by decide) (fun r_3 u_1 H locs hp_2 hP hD hS => ?_)
  subst hp_2
  have hP : va_P D vwCl (C9 k x u) H := hP
  have hD : va_D A (C9 k x u) := hD
  refine lv_if_eq (tgt := 36) hx hb dX9_days_4 (by decide) (fun _ => ?_) (fun h => absurd (by decide) h)
  refine lv_bipush (v := (-2)) hx hb dX9_days_36 (by decide) ?_
  refine W.widen (k := 0) (n := 0) (Nat.le_of_ble_eq_true rfl) (Nat.le_of_ble_eq_true rfl) ?_
  have hP9 : va_P D vwCl ((fun _ => ([] : va_W)) ()) H := hP.sub [] rfl
  have hD9 : va_D A ((fun _ => ([] : va_W)) ()) := hD.sub [] (by decide) rfl
  exact W.iret (v := (-2)) hx hb hr (fun t ht hW => ⟨⟨(-2), (), rfl, rfl, by rw [ht]; exact hP9, hD9⟩, hS.F ht⟩) hS.2.2 dX9_days_38

set_option maxHeartbeats 4000000 in
set_option maxRecDepth 100000 in
theorem kX9_floats (l : Launch) (D : va_G) (k : Nat → ClassId) (sd : Nat → Nat) (x : Nat) (u : Nat → Nat → Nat) (p0 : Int32) (p1 : Int32) (sz : Nat) : Met l yX9_floats (wB yX9_floats cX9_floats 4 (some .int)) ({ frames := 1, cells := 0, slots := 0, locals := 20 }) (va_Pc [.ref x, .int p0, .int p1] (PRE D k sd (C9 k x u) sz)) (va_Qi (S := Unit) (fun r _ => r = (-1)) (fun uu t => PO D (va_A (C9 k x u) sz) ((fun _ => ([] : va_W)) uu) t) (va_A (C9 k x u) sz)) 0 0 (va_A (C9 k x u) sz) := by
  refine Met.ofW (cc := cX9_floats) (maxL := 4) (ret := (some .int)) (by decide) rfl ?_
  intro p e s m args below meth c s₁ B hml hv
  obtain ⟨rfl, hsz, hP, hK, hD0, hE, hX⟩ := hv
  have hx := B.exec
  have hb := B.bytes
  have hr := B.returns
  have hw : ∀ w ∈ wsB, w.before _ s = true := fun w h => atoms_spec (ws := wB yX9_floats cX9_floats 4 (some .int)) B.pre w (List.mem_cons_of_mem _ h)
  have hown : s.vm.findClass RX9 = some m.cls := findClass_of_methodNamed B.named
  have hlocks := B.notSynchronized
  subst hsz
  have hD := hD0.self (sz := s.heap.size)
  generalize hAe : va_A (C9 k x u) s.heap.size = A at hD hX ⊢
  have hA : ∀ q : Nat, s.heap.size ≤ q → A q := fun q h => by rw [← hAe]; exact Or.inr h
  have hS : va_S A s.heap s.heap [] := va_S.rf
  have hl := lv_entry ([.ref x, .int p0, .int p1]) (n := 4) (Nat.le_of_ble_eq_true rfl)
  rw [lg_entry_eq]
  generalize (lg_sl ([.ref x, .int p0, .int p1]) ++ List.replicate (4 - (lg_sl ([.ref x, .int p0, .int p1])).length) Slot.unset).toArray = ls at hl ⊢
  have hl : lv_has ls 4 [(0, .ref x), (1, .int p0), (2, .int p1)] := hl
  refine lv_aload_n hx hb dX9_floats_0 rfl (lv_at hl 0 rfl) ?_
  refine x_i (wr := ([] : va_W)) (va_runV (As := []) (rest := []) ⟨hx, hb, hml, hown, hw⟩ (kX9_hasRiver l D k sd x u  s.heap.size) (cwV 0 hw (gV wd_669 wd_671 wp_8 wd_1 wd_672) rfl rfl rfl (by decide +kernel) ⟨Nat.le_of_ble_eq_true rfl, Nat.le_of_ble_eq_true rfl⟩) (pre_V (ci := 9) (r := (RX9, TX9, 12)) hK hE hX hP hD hS hA [0, 1, 2, 3, 4, 5] (by decide) rfl rfl (q0 := 0) rfl) rfl rfl hl.1 rfl (lv_room (Nat.le_of_ble_eq_true rfl)) dX9_floats_1 ⟨Nat.le_of_ble_eq_true rfl, Nat.le_of_ble_eq_true rfl⟩) hP hD hS hA [0, 1, 2, 3, 4, 5] [] rfl rfl (by decide) (by decide) (fun r_3 u_1 H locs hp_2 hP hD hS => ?_)
  subst hp_2
  have hP : va_P D vwCl (C9 k x u) H := hP
  have hD : va_D A (C9 k x u) := hD
  refine lv_if_eq (tgt := 27) hx hb dX9_floats_4 (by decide) (fun _ => ?_) (fun h => absurd (by decide) h)
  refine lv_iconst (v := (-1)) hx hb dX9_floats_27 (by decide) ?_
  refine W.widen (k := 0) (n := 0) (Nat.le_of_ble_eq_true rfl) (Nat.le_of_ble_eq_true rfl) ?_
  have hP9 : va_P D vwCl ((fun _ => ([] : va_W)) ()) H := hP.sub [] rfl
  have hD9 : va_D A ((fun _ => ([] : va_W)) ()) := hD.sub [] (by decide) rfl
  exact W.iret (v := (-1)) hx hb hr (fun t ht hW => ⟨⟨(-1), (), rfl, rfl, by rw [ht]; exact hP9, hD9⟩, hS.F ht⟩) hS.2.2 dX9_floats_28

set_option maxHeartbeats 4000000 in
set_option maxRecDepth 100000 in
theorem kX9_letAhead (l : Launch) (D : va_G) (k : Nat → ClassId) (sd : Nat → Nat) (x : Nat) (u : Nat → Nat → Nat) (p0 : Int32) (p1 : Int32) (sz : Nat) : Met l yX9_letAhead (wB yX9_letAhead cX9_letAhead 8 (some .int)) ({ frames := 1, cells := 0, slots := 0, locals := 20 }) (va_Pc [.ref x, .int p0, .int p1] (PRE D k sd (C9 k x u) sz)) (va_Qi (S := Unit) (fun r _ => r = (-1)) (fun uu t => PO D (va_A (C9 k x u) sz) ((fun _ => ([] : va_W)) uu) t) (va_A (C9 k x u) sz)) 0 0 (va_A (C9 k x u) sz) := by
  refine Met.ofW (cc := cX9_letAhead) (maxL := 8) (ret := (some .int)) (by decide) rfl ?_
  intro p e s m args below meth c s₁ B hml hv
  obtain ⟨rfl, hsz, hP, hK, hD0, hE, hX⟩ := hv
  have hx := B.exec
  have hb := B.bytes
  have hr := B.returns
  have hw : ∀ w ∈ wsB, w.before _ s = true := fun w h => atoms_spec (ws := wB yX9_letAhead cX9_letAhead 8 (some .int)) B.pre w (List.mem_cons_of_mem _ h)
  have hown : s.vm.findClass RX9 = some m.cls := findClass_of_methodNamed B.named
  have hlocks := B.notSynchronized
  subst hsz
  have hD := hD0.self (sz := s.heap.size)
  generalize hAe : va_A (C9 k x u) s.heap.size = A at hD hX ⊢
  have hA : ∀ q : Nat, s.heap.size ≤ q → A q := fun q h => by rw [← hAe]; exact Or.inr h
  have hS : va_S A s.heap s.heap [] := va_S.rf
  have hl := lv_entry ([.ref x, .int p0, .int p1]) (n := 8) (Nat.le_of_ble_eq_true rfl)
  rw [lg_entry_eq]
  generalize (lg_sl ([.ref x, .int p0, .int p1]) ++ List.replicate (8 - (lg_sl ([.ref x, .int p0, .int p1])).length) Slot.unset).toArray = ls at hl ⊢
  have hl : lv_has ls 8 [(0, .ref x), (1, .int p0), (2, .int p1)] := hl
  refine lv_aload_n hx hb dX9_letAhead_0 rfl (lv_at hl 0 rfl) ?_
  refine x_i (wr := ([] : va_W)) (va_runV (As := []) (rest := []) ⟨hx, hb, hml, hown, hw⟩ (kX9_hasRiver l D k sd x u  s.heap.size) (cwV 0 hw (gV wd_669 wd_671 wp_8 wd_1 wd_672) rfl rfl rfl (by decide +kernel) ⟨Nat.le_of_ble_eq_true rfl, Nat.le_of_ble_eq_true rfl⟩) (pre_V (ci := 9) (r := (RX9, TX9, 12)) hK hE hX hP hD hS hA [0, 1, 2, 3, 4, 5] (by decide) rfl rfl (q0 := 0) rfl) rfl rfl hl.1 rfl (lv_room (Nat.le_of_ble_eq_true rfl)) dX9_letAhead_1 ⟨Nat.le_of_ble_eq_true rfl, Nat.le_of_ble_eq_true rfl⟩) hP hD hS hA [0, 1, 2, 3, 4, 5] [] rfl rfl (by decide) (by decide) (fun r_3 u_1 H locs hp_2 hP hD hS => ?_)
  subst hp_2
  have hP : va_P D vwCl (C9 k x u) H := hP
  have hD : va_D A (C9 k x u) := hD
  refine lv_if_eq (tgt := 27) hx hb dX9_letAhead_4 (by decide) (fun _ => ?_) (fun h => absurd (by decide) h)
  refine lv_iconst (v := (-1)) hx hb dX9_letAhead_27 (by decide) ?_
  refine W.widen (k := 0) (n := 0) (Nat.le_of_ble_eq_true rfl) (Nat.le_of_ble_eq_true rfl) ?_
  have hP9 : va_P D vwCl ((fun _ => ([] : va_W)) ()) H := hP.sub [] rfl
  have hD9 : va_D A ((fun _ => ([] : va_W)) ()) := hD.sub [] (by decide) rfl
  exact W.iret (v := (-1)) hx hb hr (fun t ht hW => ⟨⟨(-1), (), rfl, rfl, by rw [ht]; exact hP9, hD9⟩, hS.F ht⟩) hS.2.2 dX9_letAhead_28

set_option maxHeartbeats 4000000 in
set_option maxRecDepth 100000 in
theorem kX9_kin (l : Launch) (D : va_G) (k : Nat → ClassId) (sd : Nat → Nat) (x : Nat) (u : Nat → Nat → Nat) (p0 : Int32) (p1 : Int32) (sz : Nat) : Met l yX9_kin (wB yX9_kin cX9_kin 5 (some .int)) ({ frames := 1, cells := 0, slots := 0, locals := 21 }) (va_Pc [.ref x, .int p0, .int p1] (PRE D k sd (C9 k x u) sz)) (va_Qi (S := Unit) (fun r _ => r = (-1)) (fun uu t => PO D (va_A (C9 k x u) sz) ((fun _ => ([] : va_W)) uu) t) (va_A (C9 k x u) sz)) 0 0 (va_A (C9 k x u) sz) := by
  refine Met.ofW (cc := cX9_kin) (maxL := 5) (ret := (some .int)) (by decide) rfl ?_
  intro p e s m args below meth c s₁ B hml hv
  obtain ⟨rfl, hsz, hP, hK, hD0, hE, hX⟩ := hv
  have hx := B.exec
  have hb := B.bytes
  have hr := B.returns
  have hw : ∀ w ∈ wsB, w.before _ s = true := fun w h => atoms_spec (ws := wB yX9_kin cX9_kin 5 (some .int)) B.pre w (List.mem_cons_of_mem _ h)
  have hown : s.vm.findClass RX9 = some m.cls := findClass_of_methodNamed B.named
  have hlocks := B.notSynchronized
  subst hsz
  have hD := hD0.self (sz := s.heap.size)
  generalize hAe : va_A (C9 k x u) s.heap.size = A at hD hX ⊢
  have hA : ∀ q : Nat, s.heap.size ≤ q → A q := fun q h => by rw [← hAe]; exact Or.inr h
  have hS : va_S A s.heap s.heap [] := va_S.rf
  have hl := lv_entry ([.ref x, .int p0, .int p1]) (n := 5) (Nat.le_of_ble_eq_true rfl)
  rw [lg_entry_eq]
  generalize (lg_sl ([.ref x, .int p0, .int p1]) ++ List.replicate (5 - (lg_sl ([.ref x, .int p0, .int p1])).length) Slot.unset).toArray = ls at hl ⊢
  have hl : lv_has ls 5 [(0, .ref x), (1, .int p0), (2, .int p1)] := hl
  refine lv_aload_n hx hb dX9_kin_0 rfl (lv_at hl 0 rfl) ?_
  refine lv_iload_n hx hb dX9_kin_1 rfl (lv_at hl 1 rfl) ?_
  refine x_i (wr := ([] : va_W)) (va_runV (As := [.int p0]) (rest := []) ⟨hx, hb, hml, hown, hw⟩ (kX9_isLog l D k sd x u p0 s.heap.size) (cwV 1 hw (gV wd_769 wd_771 wp_15 wd_1 wd_772) rfl rfl rfl (by decide +kernel) ⟨Nat.le_of_ble_eq_true rfl, Nat.le_of_ble_eq_true rfl⟩) (pre_V (ci := 9) (r := (RX9, TX9, 12)) hK hE hX hP hD hS hA [0, 1, 2, 3, 4, 5] (by decide) rfl rfl (q0 := 0) rfl) rfl rfl hl.1 rfl (lv_room (Nat.le_of_ble_eq_true rfl)) dX9_kin_2 ⟨Nat.le_of_ble_eq_true rfl, Nat.le_of_ble_eq_true rfl⟩) hP hD hS hA [0, 1, 2, 3, 4, 5] [] rfl rfl (by decide) (by decide) (fun r_3 u_1 H locs hp_2 hP hD hS => ?_)
  subst hp_2
  have hP : va_P D vwCl (C9 k x u) H := hP
  have hD : va_D A (C9 k x u) := hD
  refine lv_if_eq (tgt := 16) hx hb dX9_kin_5 (by decide) (fun _ => ?_) (fun h => absurd (by decide) h)
  refine lv_iconst (v := (-1)) hx hb dX9_kin_16 (by decide) ?_
  refine W.widen (k := 0) (n := 0) (Nat.le_of_ble_eq_true rfl) (Nat.le_of_ble_eq_true rfl) ?_
  have hP9 : va_P D vwCl ((fun _ => ([] : va_W)) ()) H := hP.sub [] rfl
  have hD9 : va_D A ((fun _ => ([] : va_W)) ()) := hD.sub [] (by decide) rfl
  exact W.iret (v := (-1)) hx hb hr (fun t ht hW => ⟨⟨(-1), (), rfl, rfl, by rw [ht]; exact hP9, hD9⟩, hS.F ht⟩) hS.2.2 dX9_kin_17

set_option maxHeartbeats 4000000 in
set_option maxRecDepth 100000 in
theorem kX9_kinOf (l : Launch) (D : va_G) (k : Nat → ClassId) (sd : Nat → Nat) (x : Nat) (u : Nat → Nat → Nat) (p0 : Int32) (sz : Nat) : Met l yX9_kinOf (wB yX9_kinOf cX9_kinOf 4 (some .int)) ({ frames := 1, cells := 0, slots := 0, locals := 21 }) (va_Pc [.ref x, .int p0] (PRE D k sd (C9 k x u) sz)) (va_Qi (S := Unit) (fun r _ => r = (-1)) (fun uu t => PO D (va_A (C9 k x u) sz) ((fun _ => ([] : va_W)) uu) t) (va_A (C9 k x u) sz)) 0 0 (va_A (C9 k x u) sz) := by
  refine Met.ofW (cc := cX9_kinOf) (maxL := 4) (ret := (some .int)) (by decide) rfl ?_
  intro p e s m args below meth c s₁ B hml hv
  obtain ⟨rfl, hsz, hP, hK, hD0, hE, hX⟩ := hv
  have hx := B.exec
  have hb := B.bytes
  have hr := B.returns
  have hw : ∀ w ∈ wsB, w.before _ s = true := fun w h => atoms_spec (ws := wB yX9_kinOf cX9_kinOf 4 (some .int)) B.pre w (List.mem_cons_of_mem _ h)
  have hown : s.vm.findClass RX9 = some m.cls := findClass_of_methodNamed B.named
  have hlocks := B.notSynchronized
  subst hsz
  have hD := hD0.self (sz := s.heap.size)
  generalize hAe : va_A (C9 k x u) s.heap.size = A at hD hX ⊢
  have hA : ∀ q : Nat, s.heap.size ≤ q → A q := fun q h => by rw [← hAe]; exact Or.inr h
  have hS : va_S A s.heap s.heap [] := va_S.rf
  have hl := lv_entry ([.ref x, .int p0]) (n := 4) (Nat.le_of_ble_eq_true rfl)
  rw [lg_entry_eq]
  generalize (lg_sl ([.ref x, .int p0]) ++ List.replicate (4 - (lg_sl ([.ref x, .int p0])).length) Slot.unset).toArray = ls at hl ⊢
  have hl : lv_has ls 4 [(0, .ref x), (1, .int p0)] := hl
  refine lv_aload_n hx hb dX9_kinOf_0 rfl (lv_at hl 0 rfl) ?_
  refine lv_iload_n hx hb dX9_kinOf_1 rfl (lv_at hl 1 rfl) ?_
  refine x_i (wr := ([] : va_W)) (va_runV (As := [.int p0]) (rest := []) ⟨hx, hb, hml, hown, hw⟩ (kX9_isLog l D k sd x u p0 s.heap.size) (cwV 1 hw (gV wd_769 wd_771 wp_15 wd_1 wd_772) rfl rfl rfl (by decide +kernel) ⟨Nat.le_of_ble_eq_true rfl, Nat.le_of_ble_eq_true rfl⟩) (pre_V (ci := 9) (r := (RX9, TX9, 12)) hK hE hX hP hD hS hA [0, 1, 2, 3, 4, 5] (by decide) rfl rfl (q0 := 0) rfl) rfl rfl hl.1 rfl (lv_room (Nat.le_of_ble_eq_true rfl)) dX9_kinOf_2 ⟨Nat.le_of_ble_eq_true rfl, Nat.le_of_ble_eq_true rfl⟩) hP hD hS hA [0, 1, 2, 3, 4, 5] [] rfl rfl (by decide) (by decide) (fun r_3 u_1 H locs hp_2 hP hD hS => ?_)
  subst hp_2
  have hP : va_P D vwCl (C9 k x u) H := hP
  have hD : va_D A (C9 k x u) := hD
  refine lv_if_ne (tgt := 10) hx hb dX9_kinOf_5 (by decide) (fun h => absurd (by decide) h) (fun _ => ?_)
  refine lv_iconst (v := (-1)) hx hb dX9_kinOf_8 (by decide) ?_
  refine W.widen (k := 0) (n := 0) (Nat.le_of_ble_eq_true rfl) (Nat.le_of_ble_eq_true rfl) ?_
  have hP9 : va_P D vwCl ((fun _ => ([] : va_W)) ()) H := hP.sub [] rfl
  have hD9 : va_D A ((fun _ => ([] : va_W)) ()) := hD.sub [] (by decide) rfl
  exact W.iret (v := (-1)) hx hb hr (fun t ht hW => ⟨⟨(-1), (), rfl, rfl, by rw [ht]; exact hP9, hD9⟩, hS.F ht⟩) hS.2.2 dX9_kinOf_9

set_option maxHeartbeats 4000000 in
set_option maxRecDepth 100000 in
theorem kX9_was (l : Launch) (D : va_G) (k : Nat → ClassId) (sd : Nat → Nat) (x : Nat) (u : Nat → Nat → Nat) (p0 : Int32) (p1 : Int32) (sz : Nat) : Met l yX9_was (wB yX9_was cX9_was 3 (some .int)) ({ frames := 1, cells := 0, slots := 0, locals := 21 }) (va_Pc [.ref x, .int p0, .int p1] (PRE D k sd (C9 k x u) sz)) (va_Qi (S := Unit) (fun r _ => r = (-2)) (fun uu t => PO D (va_A (C9 k x u) sz) ((fun _ => ([] : va_W)) uu) t) (va_A (C9 k x u) sz)) 0 0 (va_A (C9 k x u) sz) := by
  refine Met.ofW (cc := cX9_was) (maxL := 3) (ret := (some .int)) (by decide) rfl ?_
  intro p e s m args below meth c s₁ B hml hv
  obtain ⟨rfl, hsz, hP, hK, hD0, hE, hX⟩ := hv
  have hx := B.exec
  have hb := B.bytes
  have hr := B.returns
  have hw : ∀ w ∈ wsB, w.before _ s = true := fun w h => atoms_spec (ws := wB yX9_was cX9_was 3 (some .int)) B.pre w (List.mem_cons_of_mem _ h)
  have hown : s.vm.findClass RX9 = some m.cls := findClass_of_methodNamed B.named
  have hlocks := B.notSynchronized
  subst hsz
  have hD := hD0.self (sz := s.heap.size)
  generalize hAe : va_A (C9 k x u) s.heap.size = A at hD hX ⊢
  have hA : ∀ q : Nat, s.heap.size ≤ q → A q := fun q h => by rw [← hAe]; exact Or.inr h
  have hS : va_S A s.heap s.heap [] := va_S.rf
  have hl := lv_entry ([.ref x, .int p0, .int p1]) (n := 3) (Nat.le_of_ble_eq_true rfl)
  rw [lg_entry_eq]
  generalize (lg_sl ([.ref x, .int p0, .int p1]) ++ List.replicate (3 - (lg_sl ([.ref x, .int p0, .int p1])).length) Slot.unset).toArray = ls at hl ⊢
  have hl : lv_has ls 3 [(0, .ref x), (1, .int p0), (2, .int p1)] := hl
  refine lv_aload_n hx hb dX9_was_0 rfl (lv_at hl 0 rfl) ?_
  refine lv_iload_n hx hb dX9_was_1 rfl (lv_at hl 1 rfl) ?_
  refine x_i (wr := ([] : va_W)) (va_runV (As := [.int p0]) (rest := []) ⟨hx, hb, hml, hown, hw⟩ (kX9_isLog l D k sd x u p0 s.heap.size) (cwV 1 hw (gV wd_769 wd_771 wp_15 wd_1 wd_772) rfl rfl rfl (by decide +kernel) ⟨Nat.le_of_ble_eq_true rfl, Nat.le_of_ble_eq_true rfl⟩) (pre_V (ci := 9) (r := (RX9, TX9, 12)) hK hE hX hP hD hS hA [0, 1, 2, 3, 4, 5] (by decide) rfl rfl (q0 := 0) rfl) rfl rfl hl.1 rfl (lv_room (Nat.le_of_ble_eq_true rfl)) dX9_was_2 ⟨Nat.le_of_ble_eq_true rfl, Nat.le_of_ble_eq_true rfl⟩) hP hD hS hA [0, 1, 2, 3, 4, 5] [] rfl rfl (by decide) (by decide) (fun r_3 u_1 H locs hp_2 hP hD hS => ?_)
  subst hp_2
  have hP : va_P D vwCl (C9 k x u) H := hP
  have hD : va_D A (C9 k x u) := hD
  refine lv_if_eq (tgt := 24) hx hb dX9_was_5 (by decide) (fun _ => ?_) (fun h => absurd (by decide) h)
  refine lv_bipush (v := (-2)) hx hb dX9_was_24 (by decide) ?_
  refine W.widen (k := 0) (n := 0) (Nat.le_of_ble_eq_true rfl) (Nat.le_of_ble_eq_true rfl) ?_
  have hP9 : va_P D vwCl ((fun _ => ([] : va_W)) ()) H := hP.sub [] rfl
  have hD9 : va_D A ((fun _ => ([] : va_W)) ()) := hD.sub [] (by decide) rfl
  exact W.iret (v := (-2)) hx hb hr (fun t ht hW => ⟨⟨(-2), (), rfl, rfl, by rw [ht]; exact hP9, hD9⟩, hS.F ht⟩) hS.2.2 dX9_was_26

set_option maxHeartbeats 4000000 in
set_option maxRecDepth 100000 in
theorem kX9_wereAt (l : Launch) (D : va_G) (k : Nat → ClassId) (sd : Nat → Nat) (x : Nat) (u : Nat → Nat → Nat) (p0 : Int32) (p1 : Int32) (p2 : Int32) (sz : Nat) : Met l yX9_wereAt (wB yX9_wereAt cX9_wereAt 4 (some .int)) ({ frames := 2, cells := 0, slots := 0, locals := 44 }) (va_Pc [.ref x, .int p0, .int p1, .int p2] (PRE D k sd (C9 k x u) sz)) (va_Qi (S := Unit) (fun r _ => r = (-1)) (fun uu t => PO D (va_A (C9 k x u) sz) ((fun _ => ([] : va_W)) uu) t) (va_A (C9 k x u) sz)) 0 0 (va_A (C9 k x u) sz) := by
  refine Met.ofW (cc := cX9_wereAt) (maxL := 4) (ret := (some .int)) (by decide) rfl ?_
  intro p e s m args below meth c s₁ B hml hv
  obtain ⟨rfl, hsz, hP, hK, hD0, hE, hX⟩ := hv
  have hx := B.exec
  have hb := B.bytes
  have hr := B.returns
  have hw : ∀ w ∈ wsB, w.before _ s = true := fun w h => atoms_spec (ws := wB yX9_wereAt cX9_wereAt 4 (some .int)) B.pre w (List.mem_cons_of_mem _ h)
  have hown : s.vm.findClass RX9 = some m.cls := findClass_of_methodNamed B.named
  have hlocks := B.notSynchronized
  subst hsz
  have hD := hD0.self (sz := s.heap.size)
  generalize hAe : va_A (C9 k x u) s.heap.size = A at hD hX ⊢
  have hA : ∀ q : Nat, s.heap.size ≤ q → A q := fun q h => by rw [← hAe]; exact Or.inr h
  have hS : va_S A s.heap s.heap [] := va_S.rf
  have hl := lv_entry ([.ref x, .int p0, .int p1, .int p2]) (n := 4) (Nat.le_of_ble_eq_true rfl)
  rw [lg_entry_eq]
  generalize (lg_sl ([.ref x, .int p0, .int p1, .int p2]) ++ List.replicate (4 - (lg_sl ([.ref x, .int p0, .int p1, .int p2])).length) Slot.unset).toArray = ls at hl ⊢
  have hl : lv_has ls 4 [(0, .ref x), (1, .int p0), (2, .int p1), (3, .int p2)] := hl
  refine lv_aload_n hx hb dX9_wereAt_0 rfl (lv_at hl 0 rfl) ?_
  refine lv_iload_n hx hb dX9_wereAt_1 rfl (lv_at hl 1 rfl) ?_
  refine lv_iload_n hx hb dX9_wereAt_2 rfl (lv_at hl 2 rfl) ?_
  refine lv_iload_n hx hb dX9_wereAt_3 rfl (lv_at hl 3 rfl) ?_
  refine x_i (wr := ([] : va_W)) (va_runV (As := [.int p0, .int p1, .int p2]) (rest := []) ⟨hx, hb, hml, hown, hw⟩ (kX9_areKept l D k sd x u p0 p1 p2 s.heap.size) (cwV 3 hw (gV wd_1017 wd_1019 wp_26 wd_1 wd_1020) rfl rfl rfl (by decide +kernel) ⟨Nat.le_of_ble_eq_true rfl, Nat.le_of_ble_eq_true rfl⟩) (pre_V (ci := 9) (r := (RX9, TX9, 12)) hK hE hX hP hD hS hA [0, 1, 2, 3, 4, 5] (by decide) rfl rfl (q0 := 0) rfl) rfl rfl hl.1 rfl (lv_room (Nat.le_of_ble_eq_true rfl)) dX9_wereAt_4 ⟨Nat.le_of_ble_eq_true rfl, Nat.le_of_ble_eq_true rfl⟩) hP hD hS hA [0, 1, 2, 3, 4, 5] [] rfl rfl (by decide) (by decide) (fun r_3 u_1 H locs hp_2 hP hD hS => ?_)
  subst hp_2
  have hP : va_P D vwCl (C9 k x u) H := hP
  have hD : va_D A (C9 k x u) := hD
  refine lv_if_ne (tgt := 12) hx hb dX9_wereAt_7 (by decide) (fun h => absurd (by decide) h) (fun _ => ?_)
  refine lv_iconst (v := (-1)) hx hb dX9_wereAt_10 (by decide) ?_
  refine W.widen (k := 0) (n := 0) (Nat.le_of_ble_eq_true rfl) (Nat.le_of_ble_eq_true rfl) ?_
  have hP9 : va_P D vwCl ((fun _ => ([] : va_W)) ()) H := hP.sub [] rfl
  have hD9 : va_D A ((fun _ => ([] : va_W)) ()) := hD.sub [] (by decide) rfl
  exact W.iret (v := (-1)) hx hb hr (fun t ht hW => ⟨⟨(-1), (), rfl, rfl, by rw [ht]; exact hP9, hD9⟩, hS.F ht⟩) hS.2.2 dX9_wereAt_11

set_option maxHeartbeats 4000000 in
set_option maxRecDepth 100000 in
theorem kX9_likely (l : Launch) (D : va_G) (k : Nat → ClassId) (sd : Nat → Nat) (x : Nat) (u : Nat → Nat → Nat) (p0 : Int32) (p1 : Int32) (p2 : Int32) (p3 : Int32) (p4 : Int32) (sz : Nat) : Met l yX9_likely (wB yX9_likely cX9_likely 11 (some .int)) ({ frames := 2, cells := 0, slots := 0, locals := 44 }) (va_Pc [.ref x, .int p0, .int p1, .int p2, .int p3, .int p4] (PRE D k sd (C9 k x u) sz)) (va_Qi (S := Unit) (fun r _ => r = (-1)) (fun uu t => PO D (va_A (C9 k x u) sz) ((fun _ => ([] : va_W)) uu) t) (va_A (C9 k x u) sz)) 0 0 (va_A (C9 k x u) sz) := by
  refine Met.ofW (cc := cX9_likely) (maxL := 11) (ret := (some .int)) (by decide) rfl ?_
  intro p e s m args below meth c s₁ B hml hv
  obtain ⟨rfl, hsz, hP, hK, hD0, hE, hX⟩ := hv
  have hx := B.exec
  have hb := B.bytes
  have hr := B.returns
  have hw : ∀ w ∈ wsB, w.before _ s = true := fun w h => atoms_spec (ws := wB yX9_likely cX9_likely 11 (some .int)) B.pre w (List.mem_cons_of_mem _ h)
  have hown : s.vm.findClass RX9 = some m.cls := findClass_of_methodNamed B.named
  have hlocks := B.notSynchronized
  subst hsz
  have hD := hD0.self (sz := s.heap.size)
  generalize hAe : va_A (C9 k x u) s.heap.size = A at hD hX ⊢
  have hA : ∀ q : Nat, s.heap.size ≤ q → A q := fun q h => by rw [← hAe]; exact Or.inr h
  have hS : va_S A s.heap s.heap [] := va_S.rf
  have hl := lv_entry ([.ref x, .int p0, .int p1, .int p2, .int p3, .int p4]) (n := 11) (Nat.le_of_ble_eq_true rfl)
  rw [lg_entry_eq]
  generalize (lg_sl ([.ref x, .int p0, .int p1, .int p2, .int p3, .int p4]) ++ List.replicate (11 - (lg_sl ([.ref x, .int p0, .int p1, .int p2, .int p3, .int p4])).length) Slot.unset).toArray = ls at hl ⊢
  have hl : lv_has ls 11 [(0, .ref x), (1, .int p0), (2, .int p1), (3, .int p2), (4, .int p3), (5, .int p4)] := hl
  refine lv_aload_n hx hb dX9_likely_0 rfl (lv_at hl 0 rfl) ?_
  refine lv_iload_n hx hb dX9_likely_1 rfl (lv_at hl 1 rfl) ?_
  refine lv_iload_n hx hb dX9_likely_2 rfl (lv_at hl 2 rfl) ?_
  refine lv_iload_n hx hb dX9_likely_3 rfl (lv_at hl 3 rfl) ?_
  refine x_i (wr := ([] : va_W)) (va_runV (As := [.int p0, .int p1, .int p2]) (rest := []) ⟨hx, hb, hml, hown, hw⟩ (kX9_areKept l D k sd x u p0 p1 p2 s.heap.size) (cwV 3 hw (gV wd_1017 wd_1019 wp_26 wd_1 wd_1020) rfl rfl rfl (by decide +kernel) ⟨Nat.le_of_ble_eq_true rfl, Nat.le_of_ble_eq_true rfl⟩) (pre_V (ci := 9) (r := (RX9, TX9, 12)) hK hE hX hP hD hS hA [0, 1, 2, 3, 4, 5] (by decide) rfl rfl (q0 := 0) rfl) rfl rfl hl.1 rfl (lv_room (Nat.le_of_ble_eq_true rfl)) dX9_likely_4 ⟨Nat.le_of_ble_eq_true rfl, Nat.le_of_ble_eq_true rfl⟩) hP hD hS hA [0, 1, 2, 3, 4, 5] [] rfl rfl (by decide) (by decide) (fun r_3 u_1 H locs hp_2 hP hD hS => ?_)
  subst hp_2
  have hP : va_P D vwCl (C9 k x u) H := hP
  have hD : va_D A (C9 k x u) := hD
  refine lv_if_eq (tgt := 30) hx hb dX9_likely_7 (by decide) (fun _ => ?_) (fun h => absurd (by decide) h)
  refine lv_iconst (v := (-1)) hx hb dX9_likely_30 (by decide) ?_
  refine W.widen (k := 0) (n := 0) (Nat.le_of_ble_eq_true rfl) (Nat.le_of_ble_eq_true rfl) ?_
  have hP9 : va_P D vwCl ((fun _ => ([] : va_W)) ()) H := hP.sub [] rfl
  have hD9 : va_D A ((fun _ => ([] : va_W)) ()) := hD.sub [] (by decide) rfl
  exact W.iret (v := (-1)) hx hb hr (fun t ht hW => ⟨⟨(-1), (), rfl, rfl, by rw [ht]; exact hP9, hD9⟩, hS.F ht⟩) hS.2.2 dX9_likely_31

set_option maxHeartbeats 4000000 in
set_option maxRecDepth 100000 in
theorem kX9_parted (l : Launch) (D : va_G) (k : Nat → ClassId) (sd : Nat → Nat) (x : Nat) (u : Nat → Nat → Nat) (p0 : Int32) (p1 : Int32) (p2 : Int32) (sz : Nat) : Met l yX9_parted (wB yX9_parted cX9_parted 10 (some .int)) ({ frames := 1, cells := 0, slots := 0, locals := 21 }) (va_Pc [.ref x, .int p0, .int p1, .int p2] (PRE D k sd (C9 k x u) sz)) (va_Qi (S := Unit) (fun r _ => r = (-1)) (fun uu t => PO D (va_A (C9 k x u) sz) ((fun _ => ([] : va_W)) uu) t) (va_A (C9 k x u) sz)) 0 0 (va_A (C9 k x u) sz) := by
  refine Met.ofW (cc := cX9_parted) (maxL := 10) (ret := (some .int)) (by decide) rfl ?_
  intro p e s m args below meth c s₁ B hml hv
  obtain ⟨rfl, hsz, hP, hK, hD0, hE, hX⟩ := hv
  have hx := B.exec
  have hb := B.bytes
  have hr := B.returns
  have hw : ∀ w ∈ wsB, w.before _ s = true := fun w h => atoms_spec (ws := wB yX9_parted cX9_parted 10 (some .int)) B.pre w (List.mem_cons_of_mem _ h)
  have hown : s.vm.findClass RX9 = some m.cls := findClass_of_methodNamed B.named
  have hlocks := B.notSynchronized
  subst hsz
  have hD := hD0.self (sz := s.heap.size)
  generalize hAe : va_A (C9 k x u) s.heap.size = A at hD hX ⊢
  have hA : ∀ q : Nat, s.heap.size ≤ q → A q := fun q h => by rw [← hAe]; exact Or.inr h
  have hS : va_S A s.heap s.heap [] := va_S.rf
  have hl := lv_entry ([.ref x, .int p0, .int p1, .int p2]) (n := 10) (Nat.le_of_ble_eq_true rfl)
  rw [lg_entry_eq]
  generalize (lg_sl ([.ref x, .int p0, .int p1, .int p2]) ++ List.replicate (10 - (lg_sl ([.ref x, .int p0, .int p1, .int p2])).length) Slot.unset).toArray = ls at hl ⊢
  have hl : lv_has ls 10 [(0, .ref x), (1, .int p0), (2, .int p1), (3, .int p2)] := hl
  refine lv_aload_n hx hb dX9_parted_0 rfl (lv_at hl 0 rfl) ?_
  refine lv_iload_n hx hb dX9_parted_1 rfl (lv_at hl 1 rfl) ?_
  refine x_i (wr := ([] : va_W)) (va_runV (As := [.int p0]) (rest := []) ⟨hx, hb, hml, hown, hw⟩ (kX9_isLog l D k sd x u p0 s.heap.size) (cwV 1 hw (gV wd_769 wd_771 wp_15 wd_1 wd_772) rfl rfl rfl (by decide +kernel) ⟨Nat.le_of_ble_eq_true rfl, Nat.le_of_ble_eq_true rfl⟩) (pre_V (ci := 9) (r := (RX9, TX9, 12)) hK hE hX hP hD hS hA [0, 1, 2, 3, 4, 5] (by decide) rfl rfl (q0 := 0) rfl) rfl rfl hl.1 rfl (lv_room (Nat.le_of_ble_eq_true rfl)) dX9_parted_2 ⟨Nat.le_of_ble_eq_true rfl, Nat.le_of_ble_eq_true rfl⟩) hP hD hS hA [0, 1, 2, 3, 4, 5] [] rfl rfl (by decide) (by decide) (fun r_3 u_1 H locs hp_2 hP hD hS => ?_)
  subst hp_2
  have hP : va_P D vwCl (C9 k x u) H := hP
  have hD : va_D A (C9 k x u) := hD
  refine lv_if_eq (tgt := 27) hx hb dX9_parted_5 (by decide) (fun _ => ?_) (fun h => absurd (by decide) h)
  refine lv_iconst (v := (-1)) hx hb dX9_parted_27 (by decide) ?_
  refine W.widen (k := 0) (n := 0) (Nat.le_of_ble_eq_true rfl) (Nat.le_of_ble_eq_true rfl) ?_
  have hP9 : va_P D vwCl ((fun _ => ([] : va_W)) ()) H := hP.sub [] rfl
  have hD9 : va_D A ((fun _ => ([] : va_W)) ()) := hD.sub [] (by decide) rfl
  exact W.iret (v := (-1)) hx hb hr (fun t ht hW => ⟨⟨(-1), (), rfl, rfl, by rw [ht]; exact hP9, hD9⟩, hS.F ht⟩) hS.2.2 dX9_parted_28

set_option maxHeartbeats 4000000 in
set_option maxRecDepth 100000 in
theorem kX9_owes (l : Launch) (D : va_G) (k : Nat → ClassId) (sd : Nat → Nat) (x : Nat) (u : Nat → Nat → Nat) (p0 : Int32) (p1 : Int32) (sz : Nat) : Met l yX9_owes (wB yX9_owes cX9_owes 3 (some .int)) ({ frames := 1, cells := 0, slots := 0, locals := 21 }) (va_Pc [.ref x, .int p0, .int p1] (PRE D k sd (C9 k x u) sz)) (va_Qi (S := Unit) (fun r _ => r = (-1)) (fun uu t => PO D (va_A (C9 k x u) sz) ((fun _ => ([] : va_W)) uu) t) (va_A (C9 k x u) sz)) 0 0 (va_A (C9 k x u) sz) := by
  refine Met.ofW (cc := cX9_owes) (maxL := 3) (ret := (some .int)) (by decide) rfl ?_
  intro p e s m args below meth c s₁ B hml hv
  obtain ⟨rfl, hsz, hP, hK, hD0, hE, hX⟩ := hv
  have hx := B.exec
  have hb := B.bytes
  have hr := B.returns
  have hw : ∀ w ∈ wsB, w.before _ s = true := fun w h => atoms_spec (ws := wB yX9_owes cX9_owes 3 (some .int)) B.pre w (List.mem_cons_of_mem _ h)
  have hown : s.vm.findClass RX9 = some m.cls := findClass_of_methodNamed B.named
  have hlocks := B.notSynchronized
  subst hsz
  have hD := hD0.self (sz := s.heap.size)
  generalize hAe : va_A (C9 k x u) s.heap.size = A at hD hX ⊢
  have hA : ∀ q : Nat, s.heap.size ≤ q → A q := fun q h => by rw [← hAe]; exact Or.inr h
  have hS : va_S A s.heap s.heap [] := va_S.rf
  have hl := lv_entry ([.ref x, .int p0, .int p1]) (n := 3) (Nat.le_of_ble_eq_true rfl)
  rw [lg_entry_eq]
  generalize (lg_sl ([.ref x, .int p0, .int p1]) ++ List.replicate (3 - (lg_sl ([.ref x, .int p0, .int p1])).length) Slot.unset).toArray = ls at hl ⊢
  have hl : lv_has ls 3 [(0, .ref x), (1, .int p0), (2, .int p1)] := hl
  refine lv_aload_n hx hb dX9_owes_0 rfl (lv_at hl 0 rfl) ?_
  refine lv_iload_n hx hb dX9_owes_1 rfl (lv_at hl 1 rfl) ?_
  refine x_i (wr := ([] : va_W)) (va_runV (As := [.int p0]) (rest := []) ⟨hx, hb, hml, hown, hw⟩ (kX9_isVillage l D k sd x u p0 s.heap.size) (cwV 1 hw (gV wd_685 wd_687 wp_11 wd_1 wd_688) rfl rfl rfl (by decide +kernel) ⟨Nat.le_of_ble_eq_true rfl, Nat.le_of_ble_eq_true rfl⟩) (pre_V (ci := 9) (r := (RX9, TX9, 12)) hK hE hX hP hD hS hA [0, 1, 2, 3, 4, 5] (by decide) rfl rfl (q0 := 0) rfl) rfl rfl hl.1 rfl (lv_room (Nat.le_of_ble_eq_true rfl)) dX9_owes_2 ⟨Nat.le_of_ble_eq_true rfl, Nat.le_of_ble_eq_true rfl⟩) hP hD hS hA [0, 1, 2, 3, 4, 5] [] rfl rfl (by decide) (by decide) (fun r_3 u_1 H locs hp_2 hP hD hS => ?_)
  subst hp_2
  have hP : va_P D vwCl (C9 k x u) H := hP
  have hD : va_D A (C9 k x u) := hD
  refine lv_if_eq (tgt := 21) hx hb dX9_owes_5 (by decide) (fun _ => ?_) (fun h => absurd (by decide) h)
  refine lv_iconst (v := (-1)) hx hb dX9_owes_21 (by decide) ?_
  refine W.widen (k := 0) (n := 0) (Nat.le_of_ble_eq_true rfl) (Nat.le_of_ble_eq_true rfl) ?_
  have hP9 : va_P D vwCl ((fun _ => ([] : va_W)) ()) H := hP.sub [] rfl
  have hD9 : va_D A ((fun _ => ([] : va_W)) ()) := hD.sub [] (by decide) rfl
  exact W.iret (v := (-1)) hx hb hr (fun t ht hW => ⟨⟨(-1), (), rfl, rfl, by rw [ht]; exact hP9, hD9⟩, hS.F ht⟩) hS.2.2 dX9_owes_22

set_option maxHeartbeats 4000000 in
set_option maxRecDepth 100000 in
theorem kX9_payments (l : Launch) (D : va_G) (k : Nat → ClassId) (sd : Nat → Nat) (x : Nat) (u : Nat → Nat → Nat) (sz : Nat) : Met l yX9_payments (wB yX9_payments cX9_payments 7 (some .int)) ({ frames := 1, cells := 0, slots := 0, locals := 20 }) (va_Pc [.ref x] (PRE D k sd (C9 k x u) sz)) (va_Qi (S := Unit) (fun r _ => r = (-1)) (fun uu t => PO D (va_A (C9 k x u) sz) ((fun _ => ([] : va_W)) uu) t) (va_A (C9 k x u) sz)) 0 0 (va_A (C9 k x u) sz) := by
  refine Met.ofW (cc := cX9_payments) (maxL := 7) (ret := (some .int)) (by decide) rfl ?_
  intro p e s m args below meth c s₁ B hml hv
  obtain ⟨rfl, hsz, hP, hK, hD0, hE, hX⟩ := hv
  have hx := B.exec
  have hb := B.bytes
  have hr := B.returns
  have hw : ∀ w ∈ wsB, w.before _ s = true := fun w h => atoms_spec (ws := wB yX9_payments cX9_payments 7 (some .int)) B.pre w (List.mem_cons_of_mem _ h)
  have hown : s.vm.findClass RX9 = some m.cls := findClass_of_methodNamed B.named
  have hlocks := B.notSynchronized
  subst hsz
  have hD := hD0.self (sz := s.heap.size)
  generalize hAe : va_A (C9 k x u) s.heap.size = A at hD hX ⊢
  have hA : ∀ q : Nat, s.heap.size ≤ q → A q := fun q h => by rw [← hAe]; exact Or.inr h
  have hS : va_S A s.heap s.heap [] := va_S.rf
  have hl := lv_entry ([.ref x]) (n := 7) (Nat.le_of_ble_eq_true rfl)
  rw [lg_entry_eq]
  generalize (lg_sl ([.ref x]) ++ List.replicate (7 - (lg_sl ([.ref x])).length) Slot.unset).toArray = ls at hl ⊢
  have hl : lv_has ls 7 [(0, .ref x)] := hl
  refine lv_aload_n hx hb dX9_payments_0 rfl (lv_at hl 0 rfl) ?_
  refine x_i (wr := ([] : va_W)) (va_runV (As := []) (rest := []) ⟨hx, hb, hml, hown, hw⟩ (kX9_hasRiver l D k sd x u  s.heap.size) (cwV 0 hw (gV wd_669 wd_671 wp_8 wd_1 wd_672) rfl rfl rfl (by decide +kernel) ⟨Nat.le_of_ble_eq_true rfl, Nat.le_of_ble_eq_true rfl⟩) (pre_V (ci := 9) (r := (RX9, TX9, 12)) hK hE hX hP hD hS hA [0, 1, 2, 3, 4, 5] (by decide) rfl rfl (q0 := 0) rfl) rfl rfl hl.1 rfl (lv_room (Nat.le_of_ble_eq_true rfl)) dX9_payments_1 ⟨Nat.le_of_ble_eq_true rfl, Nat.le_of_ble_eq_true rfl⟩) hP hD hS hA [0, 1, 2, 3, 4, 5] [] rfl rfl (by decide) (by decide) (fun r_3 u_1 H locs hp_2 hP hD hS => ?_)
  subst hp_2
  have hP : va_P D vwCl (C9 k x u) H := hP
  have hD : va_D A (C9 k x u) := hD
  refine lv_if_ne (tgt := 9) hx hb dX9_payments_4 (by decide) (fun h => absurd (by decide) h) (fun _ => ?_)
  refine lv_iconst (v := (-1)) hx hb dX9_payments_7 (by decide) ?_
  refine W.widen (k := 0) (n := 0) (Nat.le_of_ble_eq_true rfl) (Nat.le_of_ble_eq_true rfl) ?_
  have hP9 : va_P D vwCl ((fun _ => ([] : va_W)) ()) H := hP.sub [] rfl
  have hD9 : va_D A ((fun _ => ([] : va_W)) ()) := hD.sub [] (by decide) rfl
  exact W.iret (v := (-1)) hx hb hr (fun t ht hW => ⟨⟨(-1), (), rfl, rfl, by rw [ht]; exact hP9, hD9⟩, hS.F ht⟩) hS.2.2 dX9_payments_8

set_option maxHeartbeats 4000000 in
set_option maxRecDepth 100000 in
theorem kX9_repaid (l : Launch) (D : va_G) (k : Nat → ClassId) (sd : Nat → Nat) (x : Nat) (u : Nat → Nat → Nat) (p0 : Int32) (p1 : Int32) (p2 : Int32) (sz : Nat) : Met l yX9_repaid (wB yX9_repaid cX9_repaid 11 (some .int)) ({ frames := 1, cells := 0, slots := 0, locals := 21 }) (va_Pc [.ref x, .int p0, .int p1, .int p2] (PRE D k sd (C9 k x u) sz)) (va_Qi (S := Unit) (fun r _ => r = (-1)) (fun uu t => PO D (va_A (C9 k x u) sz) ((fun _ => ([] : va_W)) uu) t) (va_A (C9 k x u) sz)) 0 0 (va_A (C9 k x u) sz) := by
  refine Met.ofW (cc := cX9_repaid) (maxL := 11) (ret := (some .int)) (by decide) rfl ?_
  intro p e s m args below meth c s₁ B hml hv
  obtain ⟨rfl, hsz, hP, hK, hD0, hE, hX⟩ := hv
  have hx := B.exec
  have hb := B.bytes
  have hr := B.returns
  have hw : ∀ w ∈ wsB, w.before _ s = true := fun w h => atoms_spec (ws := wB yX9_repaid cX9_repaid 11 (some .int)) B.pre w (List.mem_cons_of_mem _ h)
  have hown : s.vm.findClass RX9 = some m.cls := findClass_of_methodNamed B.named
  have hlocks := B.notSynchronized
  subst hsz
  have hD := hD0.self (sz := s.heap.size)
  generalize hAe : va_A (C9 k x u) s.heap.size = A at hD hX ⊢
  have hA : ∀ q : Nat, s.heap.size ≤ q → A q := fun q h => by rw [← hAe]; exact Or.inr h
  have hS : va_S A s.heap s.heap [] := va_S.rf
  have hl := lv_entry ([.ref x, .int p0, .int p1, .int p2]) (n := 11) (Nat.le_of_ble_eq_true rfl)
  rw [lg_entry_eq]
  generalize (lg_sl ([.ref x, .int p0, .int p1, .int p2]) ++ List.replicate (11 - (lg_sl ([.ref x, .int p0, .int p1, .int p2])).length) Slot.unset).toArray = ls at hl ⊢
  have hl : lv_has ls 11 [(0, .ref x), (1, .int p0), (2, .int p1), (3, .int p2)] := hl
  refine lv_aload_n hx hb dX9_repaid_0 rfl (lv_at hl 0 rfl) ?_
  refine lv_iload_n hx hb dX9_repaid_1 rfl (lv_at hl 1 rfl) ?_
  refine x_i (wr := ([] : va_W)) (va_runV (As := [.int p0]) (rest := []) ⟨hx, hb, hml, hown, hw⟩ (kX9_isVillage l D k sd x u p0 s.heap.size) (cwV 1 hw (gV wd_685 wd_687 wp_11 wd_1 wd_688) rfl rfl rfl (by decide +kernel) ⟨Nat.le_of_ble_eq_true rfl, Nat.le_of_ble_eq_true rfl⟩) (pre_V (ci := 9) (r := (RX9, TX9, 12)) hK hE hX hP hD hS hA [0, 1, 2, 3, 4, 5] (by decide) rfl rfl (q0 := 0) rfl) rfl rfl hl.1 rfl (lv_room (Nat.le_of_ble_eq_true rfl)) dX9_repaid_2 ⟨Nat.le_of_ble_eq_true rfl, Nat.le_of_ble_eq_true rfl⟩) hP hD hS hA [0, 1, 2, 3, 4, 5] [] rfl rfl (by decide) (by decide) (fun r_3 u_1 H locs hp_2 hP hD hS => ?_)
  subst hp_2
  have hP : va_P D vwCl (C9 k x u) H := hP
  have hD : va_D A (C9 k x u) := hD
  refine lv_if_eq (tgt := 30) hx hb dX9_repaid_5 (by decide) (fun _ => ?_) (fun h => absurd (by decide) h)
  refine lv_iconst (v := (-1)) hx hb dX9_repaid_30 (by decide) ?_
  refine W.widen (k := 0) (n := 0) (Nat.le_of_ble_eq_true rfl) (Nat.le_of_ble_eq_true rfl) ?_
  have hP9 : va_P D vwCl ((fun _ => ([] : va_W)) ()) H := hP.sub [] rfl
  have hD9 : va_D A ((fun _ => ([] : va_W)) ()) := hD.sub [] (by decide) rfl
  exact W.iret (v := (-1)) hx hb hr (fun t ht hW => ⟨⟨(-1), (), rfl, rfl, by rw [ht]; exact hP9, hD9⟩, hS.F ht⟩) hS.2.2 dX9_repaid_31

set_option maxHeartbeats 4000000 in
set_option maxRecDepth 100000 in
theorem kX9_drawn (l : Launch) (D : va_G) (k : Nat → ClassId) (sd : Nat → Nat) (x : Nat) (u : Nat → Nat → Nat) (p0 : Int32) (p1 : Int32) (p2 : Int32) (p3 : Int32) (sz : Nat) : Met l yX9_drawn (wB yX9_drawn cX9_drawn 11 (some .int)) ({ frames := 1, cells := 0, slots := 0, locals := 20 }) (va_Pc [.ref x, .int p0, .int p1, .int p2, .int p3] (PRE D k sd (C9 k x u) sz)) (va_Qi (S := Unit) (fun r _ => r = (-1)) (fun uu t => PO D (va_A (C9 k x u) sz) ((fun _ => ([] : va_W)) uu) t) (va_A (C9 k x u) sz)) 0 0 (va_A (C9 k x u) sz) := by
  refine Met.ofW (cc := cX9_drawn) (maxL := 11) (ret := (some .int)) (by decide) rfl ?_
  intro p e s m args below meth c s₁ B hml hv
  obtain ⟨rfl, hsz, hP, hK, hD0, hE, hX⟩ := hv
  have hx := B.exec
  have hb := B.bytes
  have hr := B.returns
  have hw : ∀ w ∈ wsB, w.before _ s = true := fun w h => atoms_spec (ws := wB yX9_drawn cX9_drawn 11 (some .int)) B.pre w (List.mem_cons_of_mem _ h)
  have hown : s.vm.findClass RX9 = some m.cls := findClass_of_methodNamed B.named
  have hlocks := B.notSynchronized
  subst hsz
  have hD := hD0.self (sz := s.heap.size)
  generalize hAe : va_A (C9 k x u) s.heap.size = A at hD hX ⊢
  have hA : ∀ q : Nat, s.heap.size ≤ q → A q := fun q h => by rw [← hAe]; exact Or.inr h
  have hS : va_S A s.heap s.heap [] := va_S.rf
  have hl := lv_entry ([.ref x, .int p0, .int p1, .int p2, .int p3]) (n := 11) (Nat.le_of_ble_eq_true rfl)
  rw [lg_entry_eq]
  generalize (lg_sl ([.ref x, .int p0, .int p1, .int p2, .int p3]) ++ List.replicate (11 - (lg_sl ([.ref x, .int p0, .int p1, .int p2, .int p3])).length) Slot.unset).toArray = ls at hl ⊢
  have hl : lv_has ls 11 [(0, .ref x), (1, .int p0), (2, .int p1), (3, .int p2), (4, .int p3)] := hl
  refine lv_aload_n hx hb dX9_drawn_0 rfl (lv_at hl 0 rfl) ?_
  refine x_i (wr := ([] : va_W)) (va_runV (As := []) (rest := []) ⟨hx, hb, hml, hown, hw⟩ (kX9_hasRiver l D k sd x u  s.heap.size) (cwV 0 hw (gV wd_669 wd_671 wp_8 wd_1 wd_672) rfl rfl rfl (by decide +kernel) ⟨Nat.le_of_ble_eq_true rfl, Nat.le_of_ble_eq_true rfl⟩) (pre_V (ci := 9) (r := (RX9, TX9, 12)) hK hE hX hP hD hS hA [0, 1, 2, 3, 4, 5] (by decide) rfl rfl (q0 := 0) rfl) rfl rfl hl.1 rfl (lv_room (Nat.le_of_ble_eq_true rfl)) dX9_drawn_1 ⟨Nat.le_of_ble_eq_true rfl, Nat.le_of_ble_eq_true rfl⟩) hP hD hS hA [0, 1, 2, 3, 4, 5] [] rfl rfl (by decide) (by decide) (fun r_3 u_1 H locs hp_2 hP hD hS => ?_)
  subst hp_2
  have hP : va_P D vwCl (C9 k x u) H := hP
  have hD : va_D A (C9 k x u) := hD
  refine lv_if_eq (tgt := 50) hx hb dX9_drawn_4 (by decide) (fun _ => ?_) (fun h => absurd (by decide) h)
  refine lv_iconst (v := (-1)) hx hb dX9_drawn_50 (by decide) ?_
  refine W.widen (k := 0) (n := 0) (Nat.le_of_ble_eq_true rfl) (Nat.le_of_ble_eq_true rfl) ?_
  have hP9 : va_P D vwCl ((fun _ => ([] : va_W)) ()) H := hP.sub [] rfl
  have hD9 : va_D A ((fun _ => ([] : va_W)) ()) := hD.sub [] (by decide) rfl
  exact W.iret (v := (-1)) hx hb hr (fun t ht hW => ⟨⟨(-1), (), rfl, rfl, by rw [ht]; exact hP9, hD9⟩, hS.F ht⟩) hS.2.2 dX9_drawn_51

set_option maxHeartbeats 4000000 in
set_option maxRecDepth 100000 in
theorem kX9_end (l : Launch) (D : va_G) (k : Nat → ClassId) (sd : Nat → Nat) (x : Nat) (u : Nat → Nat → Nat) (p0 : Int32) (sz : Nat) : Met l yX9_end (wB yX9_end cX9_end 2 (some .int)) ({ frames := 0, cells := 0, slots := 0, locals := 0 }) (va_Pc [.ref x, .int p0] (PRE D k sd (C9 k x u) sz)) (va_Qi (S := Unit) (fun r _ => r = sp_end p0) (fun uu t => PO D (va_A (C9 k x u) sz) ((fun _ => ([] : va_W)) uu) t) (va_A (C9 k x u) sz)) 0 0 (va_A (C9 k x u) sz) := by
  refine Met.ofW (cc := cX9_end) (maxL := 2) (ret := (some .int)) (by decide) rfl ?_
  intro p e s m args below meth c s₁ B hml hv
  obtain ⟨rfl, hsz, hP, hK, hD0, hE, hX⟩ := hv
  have hx := B.exec
  have hb := B.bytes
  have hr := B.returns
  have hw : ∀ w ∈ wsB, w.before _ s = true := fun w h => atoms_spec (ws := wB yX9_end cX9_end 2 (some .int)) B.pre w (List.mem_cons_of_mem _ h)
  have hown : s.vm.findClass RX9 = some m.cls := findClass_of_methodNamed B.named
  have hlocks := B.notSynchronized
  subst hsz
  have hD := hD0.self (sz := s.heap.size)
  generalize hAe : va_A (C9 k x u) s.heap.size = A at hD hX ⊢
  have hA : ∀ q : Nat, s.heap.size ≤ q → A q := fun q h => by rw [← hAe]; exact Or.inr h
  have hS : va_S A s.heap s.heap [] := va_S.rf
  have hl := lv_entry ([.ref x, .int p0]) (n := 2) (Nat.le_of_ble_eq_true rfl)
  rw [lg_entry_eq]
  generalize (lg_sl ([.ref x, .int p0]) ++ List.replicate (2 - (lg_sl ([.ref x, .int p0])).length) Slot.unset).toArray = ls at hl ⊢
  have hl : lv_has ls 2 [(0, .ref x), (1, .int p0)] := hl
  refine lv_iload_n hx hb dX9_end_0 rfl (lv_at hl 1 rfl) ?_
  refine lv_if_lt (tgt := 15) hx hb dX9_end_1 (by decide) (fun c_1 => ?_) (fun c_1 => ?_)
  · refine lv_iconst (v := (-1)) hx hb dX9_end_15 (by decide) ?_
    refine W.widen (k := 0) (n := 0) (Nat.le_of_ble_eq_true rfl) (Nat.le_of_ble_eq_true rfl) ?_
    have hP9 : va_P D vwCl ((fun _ => ([] : va_W)) ()) s.heap := hP.sub [] rfl
    have hD9 : va_D A ((fun _ => ([] : va_W)) ()) := hD.sub [] (by decide) rfl
    exact W.iret (v := (-1)) hx hb hr (fun t ht hW => ⟨⟨(-1), (), rfl, (by rw [sp_end, if_pos c_1]), by rw [ht]; exact hP9, hD9⟩, hS.F ht⟩) hS.2.2 dX9_end_16
  · refine lv_iload_n hx hb dX9_end_4 rfl (lv_at hl 1 rfl) ?_
    refine lv_aload_n hx hb dX9_end_5 rfl (lv_at hl 0 rfl) ?_
    refine va_get (D := D) (ci := 9) (v := .ref (u 0 0)) (C := RX9) (T := TX9) (N := 12) hx hb hw inlX9 hown hK hP 0 rfl rfl 0 (by decide) (hw _ wd_419) (fun _ h9 => h9) rfl dX9_end_6 ?_
    refine va_get (D := D) (ci := 7) (v := .int 0) (C := RX7) (T := TX7) (N := 6) hx hb hw inlX7 hown hK hP 5 rfl rfl 1 (by decide) (hw _ wd_35) (fun _ h9 => h9) rfl dX9_end_9 ?_
    refine lv_icmp_le (tgt := 17) hx hb dX9_end_12 (by decide) (fun c_2 => ?_) (fun c_2 => ?_)
    · refine lv_aload_n hx hb dX9_end_17 rfl (lv_at hl 0 rfl) ?_
      refine va_get (D := D) (ci := 9) (v := .ref (u 0 0)) (C := RX9) (T := TX9) (N := 12) hx hb hw inlX9 hown hK hP 0 rfl rfl 0 (by decide) (hw _ wd_419) (fun _ h9 => h9) rfl dX9_end_18 ?_
      refine lv_iload_n hx hb dX9_end_21 rfl (lv_at hl 1 rfl) ?_
      refine va_put (D := D) (ci := 7) (v := .int p0) (ty := .int) (C := RX7) (T := TX7) (N := 6) hx hb hw inlX7 tyX7 tyX7_ok nmX7 hown hK hP hD hS 5 rfl rfl 1 (by decide) (hw _ wd_35) (fun _ h9 => h9) rfl (by decide +kernel) rfl rfl (Nat.le_of_ble_eq_true rfl) dX9_end_22 (fun H locs hP hD hS => ?_)
      have hP : va_P D vwCl ([(x, .inr (9, [.ref (u 0 0), .ref (u 0 1), .ref (u 0 2), .ref (u 0 3), .int 0, .ref (u 0 4), .ref (u 0 17), .ref (u 0 6), .ref (u 0 18), .ref (u 0 19), .ref (u 0 20), .ref (u 0 21)])), (u 0 4, .inr (8, [.ref (u 0 5), .ref (u 5 0), .ref (u 5 10), .ref (u 5 23), .ref (u 0 3), .ref (u 5 24), .ref (u 5 25), .ref (u 5 26), .int 0])), (u 0 5, .inr (2, [.int 0, .int 0, .int 0, .int 0, .int 0, .ref (u 6 0), .ref (u 6 1), .ref (u 6 2), .ref (u 6 3), .ref (u 6 4), .ref (u 6 5), .ref (u 6 6)])), (u 5 0, .inr (6, [.int 0, .int 0, .int (-1), .int 0, .int 0, .int 0, .ref (u 5 1), .ref (u 5 2), .ref (u 5 3), .ref (u 5 4), .ref (u 5 5), .ref (u 5 6), .ref (u 5 7), .ref (u 5 8), .ref (u 5 9)])), (u 5 10, .inr (0, [.int 0, .int 0, .ref (u 5 11), .ref (u 5 12), .int 0, .ref (u 5 13), .int 0, .ref (u 5 14), .ref (u 5 15), .ref (u 5 16), .ref (u 5 17), .int 0, .ref (u 5 18), .ref (u 5 19), .ref (u 5 20), .ref (u 5 21), .ref (u 5 22)])), (u 0 0, .inr (7, [.ref (u 1 0), .int p0, .int 0, .int 0, .int 0, .int 0]))]) H := hP
      have hD : va_D A ([(x, .inr (9, [.ref (u 0 0), .ref (u 0 1), .ref (u 0 2), .ref (u 0 3), .int 0, .ref (u 0 4), .ref (u 0 17), .ref (u 0 6), .ref (u 0 18), .ref (u 0 19), .ref (u 0 20), .ref (u 0 21)])), (u 0 4, .inr (8, [.ref (u 0 5), .ref (u 5 0), .ref (u 5 10), .ref (u 5 23), .ref (u 0 3), .ref (u 5 24), .ref (u 5 25), .ref (u 5 26), .int 0])), (u 0 5, .inr (2, [.int 0, .int 0, .int 0, .int 0, .int 0, .ref (u 6 0), .ref (u 6 1), .ref (u 6 2), .ref (u 6 3), .ref (u 6 4), .ref (u 6 5), .ref (u 6 6)])), (u 5 0, .inr (6, [.int 0, .int 0, .int (-1), .int 0, .int 0, .int 0, .ref (u 5 1), .ref (u 5 2), .ref (u 5 3), .ref (u 5 4), .ref (u 5 5), .ref (u 5 6), .ref (u 5 7), .ref (u 5 8), .ref (u 5 9)])), (u 5 10, .inr (0, [.int 0, .int 0, .ref (u 5 11), .ref (u 5 12), .int 0, .ref (u 5 13), .int 0, .ref (u 5 14), .ref (u 5 15), .ref (u 5 16), .ref (u 5 17), .int 0, .ref (u 5 18), .ref (u 5 19), .ref (u 5 20), .ref (u 5 21), .ref (u 5 22)])), (u 0 0, .inr (7, [.ref (u 1 0), .int p0, .int 0, .int 0, .int 0, .int 0]))]) := hD
      refine lv_iload_n hx hb dX9_end_25 rfl (lv_at hl 1 rfl) ?_
      refine W.widen (k := 0) (n := 0) (Nat.le_of_ble_eq_true rfl) (Nat.le_of_ble_eq_true rfl) ?_
      have hP9 : va_P D vwCl ((fun _ => ([] : va_W)) ()) H := hP.sub [] rfl
      have hD9 : va_D A ((fun _ => ([] : va_W)) ()) := hD.sub [] (by decide) rfl
      exact W.iret (v := p0) hx hb hr (fun t ht hW => ⟨⟨p0, (), rfl, (by rw [sp_end, if_neg c_1, if_neg (Int32.not_lt.mpr c_2)]), by rw [ht]; exact hP9, hD9⟩, hS.F ht⟩) hS.2.2 dX9_end_26
    · refine lv_iconst (v := (-1)) hx hb dX9_end_15 (by decide) ?_
      refine W.widen (k := 0) (n := 0) (Nat.le_of_ble_eq_true rfl) (Nat.le_of_ble_eq_true rfl) ?_
      have hP9 : va_P D vwCl ((fun _ => ([] : va_W)) ()) s.heap := hP.sub [] rfl
      have hD9 : va_D A ((fun _ => ([] : va_W)) ()) := hD.sub [] (by decide) rfl
      exact W.iret (v := (-1)) hx hb hr (fun t ht hW => ⟨⟨(-1), (), rfl, (by rw [sp_end, if_neg c_1, if_pos (Int32.not_le.mp c_2)]), by rw [ht]; exact hP9, hD9⟩, hS.F ht⟩) hS.2.2 dX9_end_16

set_option maxHeartbeats 4000000 in
set_option maxRecDepth 100000 in
theorem kX9_seed (l : Launch) (D : va_G) (k : Nat → ClassId) (sd : Nat → Nat) (x : Nat) (u : Nat → Nat → Nat) (p0 : Int32) (sz : Nat) : Met l yX9_seed (wB yX9_seed cX9_seed 3 (some .int)) ({ frames := 0, cells := 0, slots := 0, locals := 0 }) (va_Pc [.ref x, .int p0] (PRE D k sd (C9 k x u) sz)) (va_Qi (S := Unit) (fun r _ => r = sp_seed p0) (fun uu t => PO D (va_A (C9 k x u) sz) ((fun _ => ([] : va_W)) uu) t) (va_A (C9 k x u) sz)) 0 0 (va_A (C9 k x u) sz) := by
  refine Met.ofW (cc := cX9_seed) (maxL := 3) (ret := (some .int)) (by decide) rfl ?_
  intro p e s m args below meth c s₁ B hml hv
  obtain ⟨rfl, hsz, hP, hK, hD0, hE, hX⟩ := hv
  have hx := B.exec
  have hb := B.bytes
  have hr := B.returns
  have hw : ∀ w ∈ wsB, w.before _ s = true := fun w h => atoms_spec (ws := wB yX9_seed cX9_seed 3 (some .int)) B.pre w (List.mem_cons_of_mem _ h)
  have hown : s.vm.findClass RX9 = some m.cls := findClass_of_methodNamed B.named
  have hlocks := B.notSynchronized
  subst hsz
  have hD := hD0.self (sz := s.heap.size)
  generalize hAe : va_A (C9 k x u) s.heap.size = A at hD hX ⊢
  have hA : ∀ q : Nat, s.heap.size ≤ q → A q := fun q h => by rw [← hAe]; exact Or.inr h
  have hS : va_S A s.heap s.heap [] := va_S.rf
  have hl := lv_entry ([.ref x, .int p0]) (n := 3) (Nat.le_of_ble_eq_true rfl)
  rw [lg_entry_eq]
  generalize (lg_sl ([.ref x, .int p0]) ++ List.replicate (3 - (lg_sl ([.ref x, .int p0])).length) Slot.unset).toArray = ls at hl ⊢
  have hl : lv_has ls 3 [(0, .ref x), (1, .int p0)] := hl
  refine lv_iload_n hx hb dX9_seed_0 rfl (lv_at hl 1 rfl) ?_
  refine lv_if_ge (tgt := 6) hx hb dX9_seed_1 (by decide) (fun c_1 => ?_) (fun c_1 => ?_)
  · refine lv_aload_n hx hb dX9_seed_6 rfl (lv_at hl 0 rfl) ?_
    refine va_get (D := D) (ci := 9) (v := .ref (u 0 4)) (C := RX9) (T := TX9) (N := 12) hx hb hw inlX9 hown hK hP 0 rfl rfl 5 (by decide) (hw _ wd_424) (fun _ h9 => h9) rfl dX9_seed_7 ?_
    refine va_get (D := D) (ci := 8) (v := .ref (u 5 10)) (C := RX8) (T := TX8) (N := 9) hx hb hw inlX8 hown hK hP 1 rfl rfl 2 (by decide) (hw _ wd_365) (fun _ h9 => h9) rfl dX9_seed_10 ?_
    refine va_get (D := D) (ci := 0) (v := .int 0) (C := RX0) (T := TX0) (N := 17) hx hb hw inlX0 hown hK hP 4 rfl rfl 0 (by decide) (hw _ wd_290) (fun _ h9 => h9) rfl dX9_seed_13 ?_
    refine lv_istore_n (lv' := [(2, .int 0), (0, .ref x), (1, .int p0)]) hx hb dX9_seed_16 rfl hl (by decide) rfl (fun ls hl => ?_)
    refine lv_aload_n hx hb dX9_seed_17 rfl (lv_at hl 1 rfl) ?_
    refine va_get (D := D) (ci := 9) (v := .ref (u 0 4)) (C := RX9) (T := TX9) (N := 12) hx hb hw inlX9 hown hK hP 0 rfl rfl 5 (by decide) (hw _ wd_424) (fun _ h9 => h9) rfl dX9_seed_18 ?_
    refine va_get (D := D) (ci := 8) (v := .ref (u 5 10)) (C := RX8) (T := TX8) (N := 9) hx hb hw inlX8 hown hK hP 1 rfl rfl 2 (by decide) (hw _ wd_365) (fun _ h9 => h9) rfl dX9_seed_21 ?_
    refine lv_iload_n hx hb dX9_seed_24 rfl (lv_at hl 2 rfl) ?_
    refine va_put (D := D) (ci := 0) (v := .int p0) (ty := .int) (C := RX0) (T := TX0) (N := 17) hx hb hw inlX0 tyX0 tyX0_ok nmX0 hown hK hP hD hS 4 rfl rfl 0 (by decide) (hw _ wd_290) (fun _ h9 => h9) rfl (by decide +kernel) rfl rfl (Nat.le_of_ble_eq_true rfl) dX9_seed_25 (fun H locs hP hD hS => ?_)
    have hP : va_P D vwCl ([(x, .inr (9, [.ref (u 0 0), .ref (u 0 1), .ref (u 0 2), .ref (u 0 3), .int 0, .ref (u 0 4), .ref (u 0 17), .ref (u 0 6), .ref (u 0 18), .ref (u 0 19), .ref (u 0 20), .ref (u 0 21)])), (u 0 4, .inr (8, [.ref (u 0 5), .ref (u 5 0), .ref (u 5 10), .ref (u 5 23), .ref (u 0 3), .ref (u 5 24), .ref (u 5 25), .ref (u 5 26), .int 0])), (u 0 5, .inr (2, [.int 0, .int 0, .int 0, .int 0, .int 0, .ref (u 6 0), .ref (u 6 1), .ref (u 6 2), .ref (u 6 3), .ref (u 6 4), .ref (u 6 5), .ref (u 6 6)])), (u 5 0, .inr (6, [.int 0, .int 0, .int (-1), .int 0, .int 0, .int 0, .ref (u 5 1), .ref (u 5 2), .ref (u 5 3), .ref (u 5 4), .ref (u 5 5), .ref (u 5 6), .ref (u 5 7), .ref (u 5 8), .ref (u 5 9)])), (u 5 10, .inr (0, [.int p0, .int 0, .ref (u 5 11), .ref (u 5 12), .int 0, .ref (u 5 13), .int 0, .ref (u 5 14), .ref (u 5 15), .ref (u 5 16), .ref (u 5 17), .int 0, .ref (u 5 18), .ref (u 5 19), .ref (u 5 20), .ref (u 5 21), .ref (u 5 22)])), (u 0 0, .inr (7, [.ref (u 1 0), .int 0, .int 0, .int 0, .int 0, .int 0]))]) H := hP
    have hD : va_D A ([(x, .inr (9, [.ref (u 0 0), .ref (u 0 1), .ref (u 0 2), .ref (u 0 3), .int 0, .ref (u 0 4), .ref (u 0 17), .ref (u 0 6), .ref (u 0 18), .ref (u 0 19), .ref (u 0 20), .ref (u 0 21)])), (u 0 4, .inr (8, [.ref (u 0 5), .ref (u 5 0), .ref (u 5 10), .ref (u 5 23), .ref (u 0 3), .ref (u 5 24), .ref (u 5 25), .ref (u 5 26), .int 0])), (u 0 5, .inr (2, [.int 0, .int 0, .int 0, .int 0, .int 0, .ref (u 6 0), .ref (u 6 1), .ref (u 6 2), .ref (u 6 3), .ref (u 6 4), .ref (u 6 5), .ref (u 6 6)])), (u 5 0, .inr (6, [.int 0, .int 0, .int (-1), .int 0, .int 0, .int 0, .ref (u 5 1), .ref (u 5 2), .ref (u 5 3), .ref (u 5 4), .ref (u 5 5), .ref (u 5 6), .ref (u 5 7), .ref (u 5 8), .ref (u 5 9)])), (u 5 10, .inr (0, [.int p0, .int 0, .ref (u 5 11), .ref (u 5 12), .int 0, .ref (u 5 13), .int 0, .ref (u 5 14), .ref (u 5 15), .ref (u 5 16), .ref (u 5 17), .int 0, .ref (u 5 18), .ref (u 5 19), .ref (u 5 20), .ref (u 5 21), .ref (u 5 22)])), (u 0 0, .inr (7, [.ref (u 1 0), .int 0, .int 0, .int 0, .int 0, .int 0]))]) := hD
    refine lv_iload_n hx hb dX9_seed_28 rfl (lv_at hl 0 rfl) ?_
    refine W.widen (k := 0) (n := 0) (Nat.le_of_ble_eq_true rfl) (Nat.le_of_ble_eq_true rfl) ?_
    have hP9 : va_P D vwCl ((fun _ => ([] : va_W)) ()) H := hP.sub [] rfl
    have hD9 : va_D A ((fun _ => ([] : va_W)) ()) := hD.sub [] (by decide) rfl
    exact W.iret (v := 0) hx hb hr (fun t ht hW => ⟨⟨0, (), rfl, (by rw [sp_seed, if_neg (Int32.not_lt.mpr c_1)]), by rw [ht]; exact hP9, hD9⟩, hS.F ht⟩) hS.2.2 dX9_seed_29
  · refine lv_iconst (v := (-1)) hx hb dX9_seed_4 (by decide) ?_
    refine W.widen (k := 0) (n := 0) (Nat.le_of_ble_eq_true rfl) (Nat.le_of_ble_eq_true rfl) ?_
    have hP9 : va_P D vwCl ((fun _ => ([] : va_W)) ()) s.heap := hP.sub [] rfl
    have hD9 : va_D A ((fun _ => ([] : va_W)) ()) := hD.sub [] (by decide) rfl
    exact W.iret (v := (-1)) hx hb hr (fun t ht hW => ⟨⟨(-1), (), rfl, (by rw [sp_seed, if_pos (Int32.not_le.mp c_1)]), by rw [ht]; exact hP9, hD9⟩, hS.F ht⟩) hS.2.2 dX9_seed_5

set_option maxHeartbeats 4000000 in
set_option maxRecDepth 100000 in
theorem kX9_sight (l : Launch) (D : va_G) (k : Nat → ClassId) (sd : Nat → Nat) (x : Nat) (u : Nat → Nat → Nat) (p0 : Int32) (p1 : Int32) (p2 : Int32) (sz : Nat) : Met l yX9_sight (wB yX9_sight cX9_sight 4 (some .int)) ({ frames := 1, cells := 0, slots := 0, locals := 21 }) (va_Pc [.ref x, .int p0, .int p1, .int p2] (PRE D k sd (C9 k x u) sz)) (va_Qi (S := Unit) (fun r _ => r = sp_sight p0) (fun uu t => PO D (va_A (C9 k x u) sz) ((fun _ => ([] : va_W)) uu) t) (va_A (C9 k x u) sz)) 0 0 (va_A (C9 k x u) sz) := by
  refine Met.ofW (cc := cX9_sight) (maxL := 4) (ret := (some .int)) (by decide) rfl ?_
  intro p e s m args below meth c s₁ B hml hv
  obtain ⟨rfl, hsz, hP, hK, hD0, hE, hX⟩ := hv
  have hx := B.exec
  have hb := B.bytes
  have hr := B.returns
  have hw : ∀ w ∈ wsB, w.before _ s = true := fun w h => atoms_spec (ws := wB yX9_sight cX9_sight 4 (some .int)) B.pre w (List.mem_cons_of_mem _ h)
  have hown : s.vm.findClass RX9 = some m.cls := findClass_of_methodNamed B.named
  have hlocks := B.notSynchronized
  subst hsz
  have hD := hD0.self (sz := s.heap.size)
  generalize hAe : va_A (C9 k x u) s.heap.size = A at hD hX ⊢
  have hA : ∀ q : Nat, s.heap.size ≤ q → A q := fun q h => by rw [← hAe]; exact Or.inr h
  have hS : va_S A s.heap s.heap [] := va_S.rf
  have hl := lv_entry ([.ref x, .int p0, .int p1, .int p2]) (n := 4) (Nat.le_of_ble_eq_true rfl)
  rw [lg_entry_eq]
  generalize (lg_sl ([.ref x, .int p0, .int p1, .int p2]) ++ List.replicate (4 - (lg_sl ([.ref x, .int p0, .int p1, .int p2])).length) Slot.unset).toArray = ls at hl ⊢
  have hl : lv_has ls 4 [(0, .ref x), (1, .int p0), (2, .int p1), (3, .int p2)] := hl
  refine lv_iload_n hx hb dX9_sight_0 rfl (lv_at hl 1 rfl) ?_
  refine lv_iconst (v := (-1)) hx hb dX9_sight_1 (by decide) ?_
  refine lv_icmp_ne (tgt := 18) hx hb dX9_sight_2 (by decide) (fun c_1 => ?_) (fun c_1 => ?_)
  · refine lv_aload_n hx hb dX9_sight_18 rfl (lv_at hl 0 rfl) ?_
    refine lv_iload_n hx hb dX9_sight_19 rfl (lv_at hl 1 rfl) ?_
    refine x_i (wr := ([] : va_W)) (va_runV (As := [.int p0]) (rest := []) ⟨hx, hb, hml, hown, hw⟩ (kX9_isLog l D k sd x u p0 s.heap.size) (cwV 1 hw (gV wd_769 wd_771 wp_15 wd_1 wd_772) rfl rfl rfl (by decide +kernel) ⟨Nat.le_of_ble_eq_true rfl, Nat.le_of_ble_eq_true rfl⟩) (pre_V (ci := 9) (r := (RX9, TX9, 12)) hK hE hX hP hD hS hA [0, 1, 2, 3, 4, 5] (by decide) rfl rfl (q0 := 0) rfl) rfl rfl hl.1 rfl (lv_room (Nat.le_of_ble_eq_true rfl)) dX9_sight_20 ⟨Nat.le_of_ble_eq_true rfl, Nat.le_of_ble_eq_true rfl⟩) hP hD hS hA [0, 1, 2, 3, 4, 5] [] rfl rfl (by decide) (by decide) (fun r_4 u_2 H locs hp_3 hP hD hS => ?_)
    subst hp_3
    have hP : va_P D vwCl (C9 k x u) H := hP
    have hD : va_D A (C9 k x u) := hD
    refine lv_if_eq (tgt := 64) hx hb dX9_sight_23 (by decide) (fun _ => ?_) (fun h => absurd (by decide) h)
    refine lv_bipush (v := (-2)) hx hb dX9_sight_64 (by decide) ?_
    refine W.widen (k := 0) (n := 0) (Nat.le_of_ble_eq_true rfl) (Nat.le_of_ble_eq_true rfl) ?_
    have hP9 : va_P D vwCl ((fun _ => ([] : va_W)) ()) H := hP.sub [] rfl
    have hD9 : va_D A ((fun _ => ([] : va_W)) ()) := hD.sub [] (by decide) rfl
    exact W.iret (v := (-2)) hx hb hr (fun t ht hW => ⟨⟨(-2), (), rfl, (by rw [sp_sight, if_neg c_1]), by rw [ht]; exact hP9, hD9⟩, hS.F ht⟩) hS.2.2 dX9_sight_66
  · refine lv_aload_n hx hb dX9_sight_5 rfl (lv_at hl 0 rfl) ?_
    refine va_get (D := D) (ci := 9) (v := .ref (u 0 4)) (C := RX9) (T := TX9) (N := 12) hx hb hw inlX9 hown hK hP 0 rfl rfl 5 (by decide) (hw _ wd_424) (fun _ h9 => h9) rfl dX9_sight_6 ?_
    refine va_get (D := D) (ci := 8) (v := .ref (u 5 10)) (C := RX8) (T := TX8) (N := 9) hx hb hw inlX8 hown hK hP 1 rfl rfl 2 (by decide) (hw _ wd_365) (fun _ h9 => h9) rfl dX9_sight_9 ?_
    refine lv_iconst (v := 0) hx hb dX9_sight_12 (by decide) ?_
    refine va_put (D := D) (ci := 0) (v := .int 0) (ty := .int) (C := RX0) (T := TX0) (N := 17) hx hb hw inlX0 tyX0 tyX0_ok nmX0 hown hK hP hD hS 4 rfl rfl 6 (by decide) (hw _ wd_304) (fun _ h9 => h9) rfl (by decide +kernel) rfl rfl (Nat.le_of_ble_eq_true rfl) dX9_sight_13 (fun H locs hP hD hS => ?_)
    have hP : va_P D vwCl ([(x, .inr (9, [.ref (u 0 0), .ref (u 0 1), .ref (u 0 2), .ref (u 0 3), .int 0, .ref (u 0 4), .ref (u 0 17), .ref (u 0 6), .ref (u 0 18), .ref (u 0 19), .ref (u 0 20), .ref (u 0 21)])), (u 0 4, .inr (8, [.ref (u 0 5), .ref (u 5 0), .ref (u 5 10), .ref (u 5 23), .ref (u 0 3), .ref (u 5 24), .ref (u 5 25), .ref (u 5 26), .int 0])), (u 0 5, .inr (2, [.int 0, .int 0, .int 0, .int 0, .int 0, .ref (u 6 0), .ref (u 6 1), .ref (u 6 2), .ref (u 6 3), .ref (u 6 4), .ref (u 6 5), .ref (u 6 6)])), (u 5 0, .inr (6, [.int 0, .int 0, .int (-1), .int 0, .int 0, .int 0, .ref (u 5 1), .ref (u 5 2), .ref (u 5 3), .ref (u 5 4), .ref (u 5 5), .ref (u 5 6), .ref (u 5 7), .ref (u 5 8), .ref (u 5 9)])), (u 5 10, .inr (0, [.int 0, .int 0, .ref (u 5 11), .ref (u 5 12), .int 0, .ref (u 5 13), .int 0, .ref (u 5 14), .ref (u 5 15), .ref (u 5 16), .ref (u 5 17), .int 0, .ref (u 5 18), .ref (u 5 19), .ref (u 5 20), .ref (u 5 21), .ref (u 5 22)])), (u 0 0, .inr (7, [.ref (u 1 0), .int 0, .int 0, .int 0, .int 0, .int 0]))]) H := hP
    have hD : va_D A ([(x, .inr (9, [.ref (u 0 0), .ref (u 0 1), .ref (u 0 2), .ref (u 0 3), .int 0, .ref (u 0 4), .ref (u 0 17), .ref (u 0 6), .ref (u 0 18), .ref (u 0 19), .ref (u 0 20), .ref (u 0 21)])), (u 0 4, .inr (8, [.ref (u 0 5), .ref (u 5 0), .ref (u 5 10), .ref (u 5 23), .ref (u 0 3), .ref (u 5 24), .ref (u 5 25), .ref (u 5 26), .int 0])), (u 0 5, .inr (2, [.int 0, .int 0, .int 0, .int 0, .int 0, .ref (u 6 0), .ref (u 6 1), .ref (u 6 2), .ref (u 6 3), .ref (u 6 4), .ref (u 6 5), .ref (u 6 6)])), (u 5 0, .inr (6, [.int 0, .int 0, .int (-1), .int 0, .int 0, .int 0, .ref (u 5 1), .ref (u 5 2), .ref (u 5 3), .ref (u 5 4), .ref (u 5 5), .ref (u 5 6), .ref (u 5 7), .ref (u 5 8), .ref (u 5 9)])), (u 5 10, .inr (0, [.int 0, .int 0, .ref (u 5 11), .ref (u 5 12), .int 0, .ref (u 5 13), .int 0, .ref (u 5 14), .ref (u 5 15), .ref (u 5 16), .ref (u 5 17), .int 0, .ref (u 5 18), .ref (u 5 19), .ref (u 5 20), .ref (u 5 21), .ref (u 5 22)])), (u 0 0, .inr (7, [.ref (u 1 0), .int 0, .int 0, .int 0, .int 0, .int 0]))]) := hD
    refine lv_iconst (v := 0) hx hb dX9_sight_16 (by decide) ?_
    refine W.widen (k := 0) (n := 0) (Nat.le_of_ble_eq_true rfl) (Nat.le_of_ble_eq_true rfl) ?_
    have hP9 : va_P D vwCl ((fun _ => ([] : va_W)) ()) H := hP.sub [] rfl
    have hD9 : va_D A ((fun _ => ([] : va_W)) ()) := hD.sub [] (by decide) rfl
    exact W.iret (v := 0) hx hb hr (fun t ht hW => ⟨⟨0, (), rfl, (by rw [sp_sight, if_pos c_1]), by rw [ht]; exact hP9, hD9⟩, hS.F ht⟩) hS.2.2 dX9_sight_17

set_option maxHeartbeats 4000000 in
set_option maxRecDepth 100000 in
theorem kX6_logsBetween (l : Launch) (D : va_G) (k : Nat → ClassId) (sd : Nat → Nat) (x : Nat) (u : Nat → Nat → Nat) (p0 : Int32) (p1 : Int32) (sz : Nat) : Met l yX6_logsBetween (wB yX6_logsBetween cX6_logsBetween 5 (some .int)) ({ frames := 0, cells := 0, slots := 0, locals := 0 }) (va_Pc [.ref (u 5 0), .int p0, .int p1] (PRE D k sd (C9 k x u) sz)) (va_Qi (S := Unit) (fun r _ => r = 0) (fun uu t => PO D (va_A (C9 k x u) sz) ((fun _ => C9 k x u) uu) t) (va_A (C9 k x u) sz)) 0 0 (va_A (C9 k x u) sz) := by
  refine Met.ofW (cc := cX6_logsBetween) (maxL := 5) (ret := (some .int)) (by decide) rfl ?_
  intro p e s m args below meth c s₁ B hml hv
  obtain ⟨rfl, hsz, hP, hK, hD0, hE, hX⟩ := hv
  have hx := B.exec
  have hb := B.bytes
  have hr := B.returns
  have hw : ∀ w ∈ wsB, w.before _ s = true := fun w h => atoms_spec (ws := wB yX6_logsBetween cX6_logsBetween 5 (some .int)) B.pre w (List.mem_cons_of_mem _ h)
  have hown : s.vm.findClass RX6 = some m.cls := findClass_of_methodNamed B.named
  have hlocks := B.notSynchronized
  subst hsz
  have hD := hD0.self (sz := s.heap.size)
  generalize hAe : va_A (C9 k x u) s.heap.size = A at hD hX ⊢
  have hA : ∀ q : Nat, s.heap.size ≤ q → A q := fun q h => by rw [← hAe]; exact Or.inr h
  have hS : va_S A s.heap s.heap [] := va_S.rf
  have hl := lv_entry ([.ref (u 5 0), .int p0, .int p1]) (n := 5) (Nat.le_of_ble_eq_true rfl)
  rw [lg_entry_eq]
  generalize (lg_sl ([.ref (u 5 0), .int p0, .int p1]) ++ List.replicate (5 - (lg_sl ([.ref (u 5 0), .int p0, .int p1])).length) Slot.unset).toArray = ls at hl ⊢
  have hl : lv_has ls 5 [(0, .ref (u 5 0)), (1, .int p0), (2, .int p1)] := hl
  refine lv_iconst (v := 0) hx hb dX6_logsBetween_0 (by decide) ?_
  refine lv_istore_n (lv' := [(3, .int 0), (0, .ref (u 5 0)), (1, .int p0), (2, .int p1)]) hx hb dX6_logsBetween_1 rfl hl (by decide) rfl (fun ls hl => ?_)
  refine lv_iconst (v := 0) hx hb dX6_logsBetween_2 (by decide) ?_
  refine lv_istore (lv' := [(4, .int 0), (3, .int 0), (0, .ref (u 5 0)), (1, .int p0), (2, .int p1)]) hx hb dX6_logsBetween_3 hl (by decide) rfl (fun ls hl => ?_)
  refine lv_iload hx hb dX6_logsBetween_5 (lv_at hl 0 rfl) ?_
  refine lv_aload_n hx hb dX6_logsBetween_7 rfl (lv_at hl 2 rfl) ?_
  refine va_get (D := D) (ci := 6) (v := .int 0) (C := RX6) (T := TX6) (N := 15) hx hb hw inlX6 hown hK hP 3 rfl rfl 5 (by decide) (hw _ wd_223) (fun _ h9 => h9) rfl dX6_logsBetween_8 ?_
  refine lv_icmp_ge (tgt := 45) hx hb dX6_logsBetween_11 (by decide) (fun _ => ?_) (fun h => absurd (by decide) h)
  refine lv_iload_n hx hb dX6_logsBetween_45 rfl (lv_at hl 1 rfl) ?_
  refine W.widen (k := 0) (n := 0) (Nat.le_of_ble_eq_true rfl) (Nat.le_of_ble_eq_true rfl) ?_
  have hP9 : va_P D vwCl ((fun _ => C9 k x u) ()) s.heap := hP.sub [0, 1, 2, 3, 4, 5] rfl
  have hD9 : va_D A ((fun _ => C9 k x u) ()) := hD.sub [0, 1, 2, 3, 4, 5] (by decide) rfl
  exact W.iret (v := 0) hx hb hr (fun t ht hW => ⟨⟨0, (), rfl, rfl, by rw [ht]; exact hP9, hD9⟩, hS.F ht⟩) hS.2.2 dX6_logsBetween_46

set_option maxHeartbeats 4000000 in
set_option maxRecDepth 100000 in
theorem kX6_jamsInAll (l : Launch) (D : va_G) (k : Nat → ClassId) (sd : Nat → Nat) (x : Nat) (u : Nat → Nat → Nat) (sz : Nat) : Met l yX6_jamsInAll (wB yX6_jamsInAll cX6_jamsInAll 3 (some .int)) ({ frames := 0, cells := 0, slots := 0, locals := 0 }) (va_Pc [.ref (u 5 0)] (PRE D k sd (C9 k x u) sz)) (va_Qi (S := Unit) (fun r _ => r = 0) (fun uu t => PO D (va_A (C9 k x u) sz) ((fun _ => C9 k x u) uu) t) (va_A (C9 k x u) sz)) 0 0 (va_A (C9 k x u) sz) := by
  refine Met.ofW (cc := cX6_jamsInAll) (maxL := 3) (ret := (some .int)) (by decide) rfl ?_
  intro p e s m args below meth c s₁ B hml hv
  obtain ⟨rfl, hsz, hP, hK, hD0, hE, hX⟩ := hv
  have hx := B.exec
  have hb := B.bytes
  have hr := B.returns
  have hw : ∀ w ∈ wsB, w.before _ s = true := fun w h => atoms_spec (ws := wB yX6_jamsInAll cX6_jamsInAll 3 (some .int)) B.pre w (List.mem_cons_of_mem _ h)
  have hown : s.vm.findClass RX6 = some m.cls := findClass_of_methodNamed B.named
  have hlocks := B.notSynchronized
  subst hsz
  have hD := hD0.self (sz := s.heap.size)
  generalize hAe : va_A (C9 k x u) s.heap.size = A at hD hX ⊢
  have hA : ∀ q : Nat, s.heap.size ≤ q → A q := fun q h => by rw [← hAe]; exact Or.inr h
  have hS : va_S A s.heap s.heap [] := va_S.rf
  have hl := lv_entry ([.ref (u 5 0)]) (n := 3) (Nat.le_of_ble_eq_true rfl)
  rw [lg_entry_eq]
  generalize (lg_sl ([.ref (u 5 0)]) ++ List.replicate (3 - (lg_sl ([.ref (u 5 0)])).length) Slot.unset).toArray = ls at hl ⊢
  have hl : lv_has ls 3 [(0, .ref (u 5 0))] := hl
  refine lv_iconst (v := 0) hx hb dX6_jamsInAll_0 (by decide) ?_
  refine lv_istore_n (lv' := [(1, .int 0), (0, .ref (u 5 0))]) hx hb dX6_jamsInAll_1 rfl hl (by decide) rfl (fun ls hl => ?_)
  refine lv_iconst (v := 0) hx hb dX6_jamsInAll_2 (by decide) ?_
  refine lv_istore_n (lv' := [(2, .int 0), (1, .int 0), (0, .ref (u 5 0))]) hx hb dX6_jamsInAll_3 rfl hl (by decide) rfl (fun ls hl => ?_)
  refine lv_iload_n hx hb dX6_jamsInAll_4 rfl (lv_at hl 0 rfl) ?_
  refine lv_aload_n hx hb dX6_jamsInAll_5 rfl (lv_at hl 2 rfl) ?_
  refine va_get (D := D) (ci := 6) (v := .int 0) (C := RX6) (T := TX6) (N := 15) hx hb hw inlX6 hown hK hP 3 rfl rfl 5 (by decide) (hw _ wd_223) (fun _ h9 => h9) rfl dX6_jamsInAll_6 ?_
  refine lv_icmp_ge (tgt := 27) hx hb dX6_jamsInAll_9 (by decide) (fun _ => ?_) (fun h => absurd (by decide) h)
  refine lv_iload_n hx hb dX6_jamsInAll_27 rfl (lv_at hl 1 rfl) ?_
  refine W.widen (k := 0) (n := 0) (Nat.le_of_ble_eq_true rfl) (Nat.le_of_ble_eq_true rfl) ?_
  have hP9 : va_P D vwCl ((fun _ => C9 k x u) ()) s.heap := hP.sub [0, 1, 2, 3, 4, 5] rfl
  have hD9 : va_D A ((fun _ => C9 k x u) ()) := hD.sub [0, 1, 2, 3, 4, 5] (by decide) rfl
  exact W.iret (v := 0) hx hb hr (fun t ht hW => ⟨⟨0, (), rfl, rfl, by rw [ht]; exact hP9, hD9⟩, hS.F ht⟩) hS.2.2 dX6_jamsInAll_28

set_option maxHeartbeats 4000000 in
set_option maxRecDepth 100000 in
theorem kX9_countKept (l : Launch) (D : va_G) (k : Nat → ClassId) (sd : Nat → Nat) (x : Nat) (u : Nat → Nat → Nat) (p0 : Int32) (sz : Nat) : Met l yX9_countKept (wB yX9_countKept cX9_countKept 2 (some .int)) ({ frames := 1, cells := 0, slots := 0, locals := 22 }) (va_Pc [.ref x, .int p0] (PRE D k sd (C9 k x u) sz)) (va_Qi (S := Unit) (fun r _ => r = sp_kept p0) (fun uu t => PO D (va_A (C9 k x u) sz) ((fun _ => C9 k x u) uu) t) (va_A (C9 k x u) sz)) 0 0 (va_A (C9 k x u) sz) := by
  refine Met.ofW (cc := cX9_countKept) (maxL := 2) (ret := (some .int)) (by decide) rfl ?_
  intro p e s m args below meth c s₁ B hml hv
  obtain ⟨rfl, hsz, hP, hK, hD0, hE, hX⟩ := hv
  have hx := B.exec
  have hb := B.bytes
  have hr := B.returns
  have hw : ∀ w ∈ wsB, w.before _ s = true := fun w h => atoms_spec (ws := wB yX9_countKept cX9_countKept 2 (some .int)) B.pre w (List.mem_cons_of_mem _ h)
  have hown : s.vm.findClass RX9 = some m.cls := findClass_of_methodNamed B.named
  have hlocks := B.notSynchronized
  subst hsz
  have hD := hD0.self (sz := s.heap.size)
  generalize hAe : va_A (C9 k x u) s.heap.size = A at hD hX ⊢
  have hA : ∀ q : Nat, s.heap.size ≤ q → A q := fun q h => by rw [← hAe]; exact Or.inr h
  have hS : va_S A s.heap s.heap [] := va_S.rf
  have hl := lv_entry ([.ref x, .int p0]) (n := 2) (Nat.le_of_ble_eq_true rfl)
  rw [lg_entry_eq]
  generalize (lg_sl ([.ref x, .int p0]) ++ List.replicate (2 - (lg_sl ([.ref x, .int p0])).length) Slot.unset).toArray = ls at hl ⊢
  have hl : lv_has ls 2 [(0, .ref x), (1, .int p0)] := hl
  refine lv_iload_n hx hb dX9_countKept_0 rfl (lv_at hl 1 rfl) ?_
  by_cases n_1 : p0 = 12
  · subst n_1
    refine lv_tableIn (tgt := 48) hx hb dX9_countKept_1 (by decide) (by decide) rfl (by decide) ?_
    refine lv_aload_n hx hb dX9_countKept_48 rfl (lv_at hl 0 rfl) ?_
    refine va_get (D := D) (ci := 9) (v := .ref (u 0 4)) (C := RX9) (T := TX9) (N := 12) hx hb hw inlX9 hown hK hP 0 rfl rfl 5 (by decide) (hw _ wd_424) (fun _ h9 => h9) rfl dX9_countKept_49 ?_
    refine va_get (D := D) (ci := 8) (v := .ref (u 5 10)) (C := RX8) (T := TX8) (N := 9) hx hb hw inlX8 hown hK hP 1 rfl rfl 2 (by decide) (hw _ wd_365) (fun _ h9 => h9) rfl dX9_countKept_52 ?_
    refine va_get (D := D) (ci := 0) (v := .int 0) (C := RX0) (T := TX0) (N := 17) hx hb hw inlX0 hown hK hP 4 rfl rfl 1 (by decide) (hw _ wd_293) (fun _ h9 => h9) rfl dX9_countKept_55 ?_
    refine W.widen (k := 0) (n := 0) (Nat.le_of_ble_eq_true rfl) (Nat.le_of_ble_eq_true rfl) ?_
    have hP9 : va_P D vwCl ((fun _ => C9 k x u) ()) s.heap := hP.sub [0, 1, 2, 3, 4, 5] rfl
    have hD9 : va_D A ((fun _ => C9 k x u) ()) := hD.sub [0, 1, 2, 3, 4, 5] (by decide) rfl
    exact W.iret (v := 0) hx hb hr (fun t ht hW => ⟨⟨0, (), rfl, rfl, by rw [ht]; exact hP9, hD9⟩, hS.F ht⟩) hS.2.2 dX9_countKept_58
  by_cases n_2 : p0 = 13
  · subst n_2
    refine lv_tableIn (tgt := 59) hx hb dX9_countKept_1 (by decide) (by decide) rfl (by decide) ?_
    refine lv_aload_n hx hb dX9_countKept_59 rfl (lv_at hl 0 rfl) ?_
    refine va_get (D := D) (ci := 9) (v := .ref (u 0 4)) (C := RX9) (T := TX9) (N := 12) hx hb hw inlX9 hown hK hP 0 rfl rfl 5 (by decide) (hw _ wd_424) (fun _ h9 => h9) rfl dX9_countKept_60 ?_
    refine va_get (D := D) (ci := 8) (v := .ref (u 5 10)) (C := RX8) (T := TX8) (N := 9) hx hb hw inlX8 hown hK hP 1 rfl rfl 2 (by decide) (hw _ wd_365) (fun _ h9 => h9) rfl dX9_countKept_63 ?_
    refine va_get (D := D) (ci := 0) (v := .int 0) (C := RX0) (T := TX0) (N := 17) hx hb hw inlX0 hown hK hP 4 rfl rfl 4 (by decide) (hw _ wd_300) (fun _ h9 => h9) rfl dX9_countKept_66 ?_
    refine W.widen (k := 0) (n := 0) (Nat.le_of_ble_eq_true rfl) (Nat.le_of_ble_eq_true rfl) ?_
    have hP9 : va_P D vwCl ((fun _ => C9 k x u) ()) s.heap := hP.sub [0, 1, 2, 3, 4, 5] rfl
    have hD9 : va_D A ((fun _ => C9 k x u) ()) := hD.sub [0, 1, 2, 3, 4, 5] (by decide) rfl
    exact W.iret (v := 0) hx hb hr (fun t ht hW => ⟨⟨0, (), rfl, rfl, by rw [ht]; exact hP9, hD9⟩, hS.F ht⟩) hS.2.2 dX9_countKept_69
  by_cases n_3 : p0 = 14
  · subst n_3
    refine lv_tableIn (tgt := 70) hx hb dX9_countKept_1 (by decide) (by decide) rfl (by decide) ?_
    refine lv_aload_n hx hb dX9_countKept_70 rfl (lv_at hl 0 rfl) ?_
    refine va_get (D := D) (ci := 9) (v := .ref (u 0 4)) (C := RX9) (T := TX9) (N := 12) hx hb hw inlX9 hown hK hP 0 rfl rfl 5 (by decide) (hw _ wd_424) (fun _ h9 => h9) rfl dX9_countKept_71 ?_
    refine va_get (D := D) (ci := 8) (v := .ref (u 5 10)) (C := RX8) (T := TX8) (N := 9) hx hb hw inlX8 hown hK hP 1 rfl rfl 2 (by decide) (hw _ wd_365) (fun _ h9 => h9) rfl dX9_countKept_74 ?_
    refine va_get (D := D) (ci := 0) (v := .int 0) (C := RX0) (T := TX0) (N := 17) hx hb hw inlX0 hown hK hP 4 rfl rfl 6 (by decide) (hw _ wd_304) (fun _ h9 => h9) rfl dX9_countKept_77 ?_
    refine W.widen (k := 0) (n := 0) (Nat.le_of_ble_eq_true rfl) (Nat.le_of_ble_eq_true rfl) ?_
    have hP9 : va_P D vwCl ((fun _ => C9 k x u) ()) s.heap := hP.sub [0, 1, 2, 3, 4, 5] rfl
    have hD9 : va_D A ((fun _ => C9 k x u) ()) := hD.sub [0, 1, 2, 3, 4, 5] (by decide) rfl
    exact W.iret (v := 0) hx hb hr (fun t ht hW => ⟨⟨0, (), rfl, rfl, by rw [ht]; exact hP9, hD9⟩, hS.F ht⟩) hS.2.2 dX9_countKept_80
  by_cases n_4 : p0 = 15
  · subst n_4
    refine lv_tableIn (tgt := 81) hx hb dX9_countKept_1 (by decide) (by decide) rfl (by decide) ?_
    refine lv_aload_n hx hb dX9_countKept_81 rfl (lv_at hl 0 rfl) ?_
    refine va_get (D := D) (ci := 9) (v := .ref (u 0 4)) (C := RX9) (T := TX9) (N := 12) hx hb hw inlX9 hown hK hP 0 rfl rfl 5 (by decide) (hw _ wd_424) (fun _ h9 => h9) rfl dX9_countKept_82 ?_
    refine va_get (D := D) (ci := 8) (v := .ref (u 5 10)) (C := RX8) (T := TX8) (N := 9) hx hb hw inlX8 hown hK hP 1 rfl rfl 2 (by decide) (hw _ wd_365) (fun _ h9 => h9) rfl dX9_countKept_85 ?_
    refine va_get (D := D) (ci := 0) (v := .int 0) (C := RX0) (T := TX0) (N := 17) hx hb hw inlX0 hown hK hP 4 rfl rfl 11 (by decide) (hw _ wd_311) (fun _ h9 => h9) rfl dX9_countKept_88 ?_
    refine W.widen (k := 0) (n := 0) (Nat.le_of_ble_eq_true rfl) (Nat.le_of_ble_eq_true rfl) ?_
    have hP9 : va_P D vwCl ((fun _ => C9 k x u) ()) s.heap := hP.sub [0, 1, 2, 3, 4, 5] rfl
    have hD9 : va_D A ((fun _ => C9 k x u) ()) := hD.sub [0, 1, 2, 3, 4, 5] (by decide) rfl
    exact W.iret (v := 0) hx hb hr (fun t ht hW => ⟨⟨0, (), rfl, rfl, by rw [ht]; exact hP9, hD9⟩, hS.F ht⟩) hS.2.2 dX9_countKept_91
  by_cases n_5 : p0 = 16
  · subst n_5
    refine lv_tableIn (tgt := 92) hx hb dX9_countKept_1 (by decide) (by decide) rfl (by decide) ?_
    refine lv_aload_n hx hb dX9_countKept_92 rfl (lv_at hl 0 rfl) ?_
    refine va_get (D := D) (ci := 9) (v := .ref (u 0 4)) (C := RX9) (T := TX9) (N := 12) hx hb hw inlX9 hown hK hP 0 rfl rfl 5 (by decide) (hw _ wd_424) (fun _ h9 => h9) rfl dX9_countKept_93 ?_
    refine va_get (D := D) (ci := 8) (v := .ref (u 5 0)) (C := RX8) (T := TX8) (N := 9) hx hb hw inlX8 hown hK hP 1 rfl rfl 1 (by decide) (hw _ wd_362) (fun _ h9 => h9) rfl dX9_countKept_96 ?_
    refine x_i (wr := ([] : va_W)) (va_runV (As := []) (rest := []) ⟨hx, hb, hml, hown, hw⟩ (kX6_jamsInAll l D k sd x u  s.heap.size) (cwV 0 hw (gV wd_1103 wd_1104 wd_1105 wd_8 wd_1106) rfl rfl rfl (by decide +kernel) ⟨Nat.le_of_ble_eq_true rfl, Nat.le_of_ble_eq_true rfl⟩) (pre_V (ci := 6) (r := (RX6, TX6, 15)) hK hE hX hP hD hS hA [0, 1, 2, 3, 4, 5] (by decide) rfl rfl (q0 := 3) rfl) rfl rfl hl.1 rfl (lv_room (Nat.le_of_ble_eq_true rfl)) dX9_countKept_99 ⟨Nat.le_of_ble_eq_true rfl, Nat.le_of_ble_eq_true rfl⟩) hP hD hS hA [0, 1, 2, 3, 4, 5] [] rfl rfl (by decide) (by decide) (fun r_8 u_6 H locs hp_7 hP hD hS => ?_)
    subst hp_7
    have hP : va_P D vwCl (C9 k x u) H := hP
    have hD : va_D A (C9 k x u) := hD
    refine W.widen (k := 0) (n := 0) (Nat.le_of_ble_eq_true rfl) (Nat.le_of_ble_eq_true rfl) ?_
    have hP9 : va_P D vwCl ((fun _ => C9 k x u) ()) H := hP.sub [0, 1, 2, 3, 4, 5] rfl
    have hD9 : va_D A ((fun _ => C9 k x u) ()) := hD.sub [0, 1, 2, 3, 4, 5] (by decide) rfl
    exact W.iret (v := 0) hx hb hr (fun t ht hW => ⟨⟨0, (), rfl, rfl, by rw [ht]; exact hP9, hD9⟩, hS.F ht⟩) hS.2.2 dX9_countKept_102
  by_cases n_9 : p0 = 17
  · subst n_9
    refine lv_tableIn (tgt := 103) hx hb dX9_countKept_1 (by decide) (by decide) rfl (by decide) ?_
    refine lv_aload_n hx hb dX9_countKept_103 rfl (lv_at hl 0 rfl) ?_
    refine va_get (D := D) (ci := 9) (v := .ref (u 0 4)) (C := RX9) (T := TX9) (N := 12) hx hb hw inlX9 hown hK hP 0 rfl rfl 5 (by decide) (hw _ wd_424) (fun _ h9 => h9) rfl dX9_countKept_104 ?_
    refine va_get (D := D) (ci := 8) (v := .ref (u 5 10)) (C := RX8) (T := TX8) (N := 9) hx hb hw inlX8 hown hK hP 1 rfl rfl 2 (by decide) (hw _ wd_365) (fun _ h9 => h9) rfl dX9_countKept_107 ?_
    refine va_get (D := D) (ci := 0) (v := .int 0) (C := RX0) (T := TX0) (N := 17) hx hb hw inlX0 hown hK hP 4 rfl rfl 0 (by decide) (hw _ wd_290) (fun _ h9 => h9) rfl dX9_countKept_110 ?_
    refine W.widen (k := 0) (n := 0) (Nat.le_of_ble_eq_true rfl) (Nat.le_of_ble_eq_true rfl) ?_
    have hP9 : va_P D vwCl ((fun _ => C9 k x u) ()) s.heap := hP.sub [0, 1, 2, 3, 4, 5] rfl
    have hD9 : va_D A ((fun _ => C9 k x u) ()) := hD.sub [0, 1, 2, 3, 4, 5] (by decide) rfl
    exact W.iret (v := 0) hx hb hr (fun t ht hW => ⟨⟨0, (), rfl, rfl, by rw [ht]; exact hP9, hD9⟩, hS.F ht⟩) hS.2.2 dX9_countKept_113
  by_cases n_10 : p0 = 18
  · subst n_10
    refine lv_tableIn (tgt := 114) hx hb dX9_countKept_1 (by decide) (by decide) rfl (by decide) ?_
    refine lv_aload_n hx hb dX9_countKept_114 rfl (lv_at hl 0 rfl) ?_
    refine va_get (D := D) (ci := 9) (v := .ref (u 0 0)) (C := RX9) (T := TX9) (N := 12) hx hb hw inlX9 hown hK hP 0 rfl rfl 0 (by decide) (hw _ wd_419) (fun _ h9 => h9) rfl dX9_countKept_115 ?_
    refine va_get (D := D) (ci := 7) (v := .int 0) (C := RX7) (T := TX7) (N := 6) hx hb hw inlX7 hown hK hP 5 rfl rfl 1 (by decide) (hw _ wd_35) (fun _ h9 => h9) rfl dX9_countKept_118 ?_
    refine W.widen (k := 0) (n := 0) (Nat.le_of_ble_eq_true rfl) (Nat.le_of_ble_eq_true rfl) ?_
    have hP9 : va_P D vwCl ((fun _ => C9 k x u) ()) s.heap := hP.sub [0, 1, 2, 3, 4, 5] rfl
    have hD9 : va_D A ((fun _ => C9 k x u) ()) := hD.sub [0, 1, 2, 3, 4, 5] (by decide) rfl
    exact W.iret (v := 0) hx hb hr (fun t ht hW => ⟨⟨0, (), rfl, rfl, by rw [ht]; exact hP9, hD9⟩, hS.F ht⟩) hS.2.2 dX9_countKept_121
  by_cases n_11 : p0 = 19
  · subst n_11
    refine lv_tableIn (tgt := 122) hx hb dX9_countKept_1 (by decide) (by decide) rfl (by decide) ?_
    refine lv_aload_n hx hb dX9_countKept_122 rfl (lv_at hl 0 rfl) ?_
    refine va_get (D := D) (ci := 9) (v := .ref (u 0 4)) (C := RX9) (T := TX9) (N := 12) hx hb hw inlX9 hown hK hP 0 rfl rfl 5 (by decide) (hw _ wd_424) (fun _ h9 => h9) rfl dX9_countKept_123 ?_
    refine va_get (D := D) (ci := 8) (v := .ref (u 0 5)) (C := RX8) (T := TX8) (N := 9) hx hb hw inlX8 hown hK hP 1 rfl rfl 0 (by decide) (hw _ wd_358) (fun _ h9 => h9) rfl dX9_countKept_126 ?_
    refine va_get (D := D) (ci := 2) (v := .int 0) (C := RX2) (T := TX2) (N := 12) hx hb hw inlX2 hown hK hP 2 rfl rfl 4 (by decide) (hw _ wd_90) (fun _ h9 => h9) rfl dX9_countKept_129 ?_
    refine W.widen (k := 0) (n := 0) (Nat.le_of_ble_eq_true rfl) (Nat.le_of_ble_eq_true rfl) ?_
    have hP9 : va_P D vwCl ((fun _ => C9 k x u) ()) s.heap := hP.sub [0, 1, 2, 3, 4, 5] rfl
    have hD9 : va_D A ((fun _ => C9 k x u) ()) := hD.sub [0, 1, 2, 3, 4, 5] (by decide) rfl
    exact W.iret (v := 0) hx hb hr (fun t ht hW => ⟨⟨0, (), rfl, rfl, by rw [ht]; exact hP9, hD9⟩, hS.F ht⟩) hS.2.2 dX9_countKept_132
  refine lv_tableOut (tgt := 133) hx hb dX9_countKept_1 (by have en_1 := lv_neT (a := 12) n_1 (by decide); have en_2 := lv_neT (a := 13) n_2 (by decide); have en_3 := lv_neT (a := 14) n_3 (by decide); have en_4 := lv_neT (a := 15) n_4 (by decide); have en_5 := lv_neT (a := 16) n_5 (by decide); have en_9 := lv_neT (a := 17) n_9 (by decide); have en_10 := lv_neT (a := 18) n_10 (by decide); have en_11 := lv_neT (a := 19) n_11 (by decide); omega) (by decide) ?_
  refine lv_iconst (v := (-1)) hx hb dX9_countKept_133 (by decide) ?_
  refine W.widen (k := 0) (n := 0) (Nat.le_of_ble_eq_true rfl) (Nat.le_of_ble_eq_true rfl) ?_
  have hP9 : va_P D vwCl ((fun _ => C9 k x u) ()) s.heap := hP.sub [0, 1, 2, 3, 4, 5] rfl
  have hD9 : va_D A ((fun _ => C9 k x u) ()) := hD.sub [0, 1, 2, 3, 4, 5] (by decide) rfl
  exact W.iret (v := (-1)) hx hb hr (fun t ht hW => ⟨⟨(-1), (), rfl, (by rw [sp_kept, if_neg n_1, if_neg n_2, if_neg n_3, if_neg n_4, if_neg n_5, if_neg n_9, if_neg n_10, if_neg n_11]), by rw [ht]; exact hP9, hD9⟩, hS.F ht⟩) hS.2.2 dX9_countKept_134

set_option maxHeartbeats 4000000 in
set_option maxRecDepth 100000 in
theorem kX9_count (l : Launch) (D : va_G) (k : Nat → ClassId) (sd : Nat → Nat) (x : Nat) (u : Nat → Nat → Nat) (p0 : Int32) (sz : Nat) : Met l yX9_count (wB yX9_count cX9_count 2 (some .int)) ({ frames := 2, cells := 0, slots := 0, locals := 43 }) (va_Pc [.ref x, .int p0] (PRE D k sd (C9 k x u) sz)) (va_Qi (S := Unit) (fun r _ => r = sp_count p0) (fun uu t => PO D (va_A (C9 k x u) sz) ((fun _ => ([] : va_W)) uu) t) (va_A (C9 k x u) sz)) 0 0 (va_A (C9 k x u) sz) := by
  refine Met.ofW (cc := cX9_count) (maxL := 2) (ret := (some .int)) (by decide) rfl ?_
  intro p e s m args below meth c s₁ B hml hv
  obtain ⟨rfl, hsz, hP, hK, hD0, hE, hX⟩ := hv
  have hx := B.exec
  have hb := B.bytes
  have hr := B.returns
  have hw : ∀ w ∈ wsB, w.before _ s = true := fun w h => atoms_spec (ws := wB yX9_count cX9_count 2 (some .int)) B.pre w (List.mem_cons_of_mem _ h)
  have hown : s.vm.findClass RX9 = some m.cls := findClass_of_methodNamed B.named
  have hlocks := B.notSynchronized
  subst hsz
  have hD := hD0.self (sz := s.heap.size)
  generalize hAe : va_A (C9 k x u) s.heap.size = A at hD hX ⊢
  have hA : ∀ q : Nat, s.heap.size ≤ q → A q := fun q h => by rw [← hAe]; exact Or.inr h
  have hS : va_S A s.heap s.heap [] := va_S.rf
  have hl := lv_entry ([.ref x, .int p0]) (n := 2) (Nat.le_of_ble_eq_true rfl)
  rw [lg_entry_eq]
  generalize (lg_sl ([.ref x, .int p0]) ++ List.replicate (2 - (lg_sl ([.ref x, .int p0])).length) Slot.unset).toArray = ls at hl ⊢
  have hl : lv_has ls 2 [(0, .ref x), (1, .int p0)] := hl
  refine lv_iload_n hx hb dX9_count_0 rfl (lv_at hl 1 rfl) ?_
  by_cases n_1 : p0 = 0
  · subst n_1
    refine lv_tableIn (tgt := 64) hx hb dX9_count_1 (by decide) (by decide) rfl (by decide) ?_
    refine lv_aload_n hx hb dX9_count_64 rfl (lv_at hl 0 rfl) ?_
    refine va_get (D := D) (ci := 9) (v := .ref (u 0 4)) (C := RX9) (T := TX9) (N := 12) hx hb hw inlX9 hown hK hP 0 rfl rfl 5 (by decide) (hw _ wd_424) (fun _ h9 => h9) rfl dX9_count_65 ?_
    refine va_get (D := D) (ci := 8) (v := .ref (u 0 5)) (C := RX8) (T := TX8) (N := 9) hx hb hw inlX8 hown hK hP 1 rfl rfl 0 (by decide) (hw _ wd_358) (fun _ h9 => h9) rfl dX9_count_68 ?_
    refine va_get (D := D) (ci := 2) (v := .int 0) (C := RX2) (T := TX2) (N := 12) hx hb hw inlX2 hown hK hP 2 rfl rfl 0 (by decide) (hw _ wd_74) (fun _ h9 => h9) rfl dX9_count_71 ?_
    refine W.widen (k := 0) (n := 0) (Nat.le_of_ble_eq_true rfl) (Nat.le_of_ble_eq_true rfl) ?_
    have hP9 : va_P D vwCl ((fun _ => ([] : va_W)) ()) s.heap := hP.sub [] rfl
    have hD9 : va_D A ((fun _ => ([] : va_W)) ()) := hD.sub [] (by decide) rfl
    exact W.iret (v := 0) hx hb hr (fun t ht hW => ⟨⟨0, (), rfl, rfl, by rw [ht]; exact hP9, hD9⟩, hS.F ht⟩) hS.2.2 dX9_count_74
  by_cases n_2 : p0 = 1
  · subst n_2
    refine lv_tableIn (tgt := 75) hx hb dX9_count_1 (by decide) (by decide) rfl (by decide) ?_
    refine lv_aload_n hx hb dX9_count_75 rfl (lv_at hl 0 rfl) ?_
    refine va_get (D := D) (ci := 9) (v := .ref (u 0 4)) (C := RX9) (T := TX9) (N := 12) hx hb hw inlX9 hown hK hP 0 rfl rfl 5 (by decide) (hw _ wd_424) (fun _ h9 => h9) rfl dX9_count_76 ?_
    refine va_get (D := D) (ci := 8) (v := .ref (u 0 5)) (C := RX8) (T := TX8) (N := 9) hx hb hw inlX8 hown hK hP 1 rfl rfl 0 (by decide) (hw _ wd_358) (fun _ h9 => h9) rfl dX9_count_79 ?_
    refine va_get (D := D) (ci := 2) (v := .int 0) (C := RX2) (T := TX2) (N := 12) hx hb hw inlX2 hown hK hP 2 rfl rfl 1 (by decide) (hw _ wd_78) (fun _ h9 => h9) rfl dX9_count_82 ?_
    refine W.widen (k := 0) (n := 0) (Nat.le_of_ble_eq_true rfl) (Nat.le_of_ble_eq_true rfl) ?_
    have hP9 : va_P D vwCl ((fun _ => ([] : va_W)) ()) s.heap := hP.sub [] rfl
    have hD9 : va_D A ((fun _ => ([] : va_W)) ()) := hD.sub [] (by decide) rfl
    exact W.iret (v := 0) hx hb hr (fun t ht hW => ⟨⟨0, (), rfl, rfl, by rw [ht]; exact hP9, hD9⟩, hS.F ht⟩) hS.2.2 dX9_count_85
  by_cases n_3 : p0 = 2
  · subst n_3
    refine lv_tableIn (tgt := 86) hx hb dX9_count_1 (by decide) (by decide) rfl (by decide) ?_
    refine lv_aload_n hx hb dX9_count_86 rfl (lv_at hl 0 rfl) ?_
    refine va_get (D := D) (ci := 9) (v := .ref (u 0 4)) (C := RX9) (T := TX9) (N := 12) hx hb hw inlX9 hown hK hP 0 rfl rfl 5 (by decide) (hw _ wd_424) (fun _ h9 => h9) rfl dX9_count_87 ?_
    refine va_get (D := D) (ci := 8) (v := .ref (u 0 5)) (C := RX8) (T := TX8) (N := 9) hx hb hw inlX8 hown hK hP 1 rfl rfl 0 (by decide) (hw _ wd_358) (fun _ h9 => h9) rfl dX9_count_90 ?_
    refine va_get (D := D) (ci := 2) (v := .int 0) (C := RX2) (T := TX2) (N := 12) hx hb hw inlX2 hown hK hP 2 rfl rfl 2 (by decide) (hw _ wd_81) (fun _ h9 => h9) rfl dX9_count_93 ?_
    refine W.widen (k := 0) (n := 0) (Nat.le_of_ble_eq_true rfl) (Nat.le_of_ble_eq_true rfl) ?_
    have hP9 : va_P D vwCl ((fun _ => ([] : va_W)) ()) s.heap := hP.sub [] rfl
    have hD9 : va_D A ((fun _ => ([] : va_W)) ()) := hD.sub [] (by decide) rfl
    exact W.iret (v := 0) hx hb hr (fun t ht hW => ⟨⟨0, (), rfl, rfl, by rw [ht]; exact hP9, hD9⟩, hS.F ht⟩) hS.2.2 dX9_count_96
  by_cases n_4 : p0 = 3
  · subst n_4
    refine lv_tableIn (tgt := 97) hx hb dX9_count_1 (by decide) (by decide) rfl (by decide) ?_
    refine lv_aload_n hx hb dX9_count_97 rfl (lv_at hl 0 rfl) ?_
    refine va_get (D := D) (ci := 9) (v := .ref (u 0 4)) (C := RX9) (T := TX9) (N := 12) hx hb hw inlX9 hown hK hP 0 rfl rfl 5 (by decide) (hw _ wd_424) (fun _ h9 => h9) rfl dX9_count_98 ?_
    refine va_get (D := D) (ci := 8) (v := .ref (u 0 5)) (C := RX8) (T := TX8) (N := 9) hx hb hw inlX8 hown hK hP 1 rfl rfl 0 (by decide) (hw _ wd_358) (fun _ h9 => h9) rfl dX9_count_101 ?_
    refine va_get (D := D) (ci := 2) (v := .int 0) (C := RX2) (T := TX2) (N := 12) hx hb hw inlX2 hown hK hP 2 rfl rfl 3 (by decide) (hw _ wd_86) (fun _ h9 => h9) rfl dX9_count_104 ?_
    refine W.widen (k := 0) (n := 0) (Nat.le_of_ble_eq_true rfl) (Nat.le_of_ble_eq_true rfl) ?_
    have hP9 : va_P D vwCl ((fun _ => ([] : va_W)) ()) s.heap := hP.sub [] rfl
    have hD9 : va_D A ((fun _ => ([] : va_W)) ()) := hD.sub [] (by decide) rfl
    exact W.iret (v := 0) hx hb hr (fun t ht hW => ⟨⟨0, (), rfl, rfl, by rw [ht]; exact hP9, hD9⟩, hS.F ht⟩) hS.2.2 dX9_count_107
  by_cases n_5 : p0 = 4
  · subst n_5
    refine lv_tableIn (tgt := 108) hx hb dX9_count_1 (by decide) (by decide) rfl (by decide) ?_
    refine lv_aload_n hx hb dX9_count_108 rfl (lv_at hl 0 rfl) ?_
    refine va_get (D := D) (ci := 9) (v := .int 0) (C := RX9) (T := TX9) (N := 12) hx hb hw inlX9 hown hK hP 0 rfl rfl 4 (by decide) (hw _ wd_423) (fun _ h9 => h9) rfl dX9_count_109 ?_
    refine W.widen (k := 0) (n := 0) (Nat.le_of_ble_eq_true rfl) (Nat.le_of_ble_eq_true rfl) ?_
    have hP9 : va_P D vwCl ((fun _ => ([] : va_W)) ()) s.heap := hP.sub [] rfl
    have hD9 : va_D A ((fun _ => ([] : va_W)) ()) := hD.sub [] (by decide) rfl
    exact W.iret (v := 0) hx hb hr (fun t ht hW => ⟨⟨0, (), rfl, rfl, by rw [ht]; exact hP9, hD9⟩, hS.F ht⟩) hS.2.2 dX9_count_112
  by_cases n_6 : p0 = 5
  · subst n_6
    refine lv_tableIn (tgt := 113) hx hb dX9_count_1 (by decide) (by decide) rfl (by decide) ?_
    refine lv_aload_n hx hb dX9_count_113 rfl (lv_at hl 0 rfl) ?_
    refine va_get (D := D) (ci := 9) (v := .ref (u 0 4)) (C := RX9) (T := TX9) (N := 12) hx hb hw inlX9 hown hK hP 0 rfl rfl 5 (by decide) (hw _ wd_424) (fun _ h9 => h9) rfl dX9_count_114 ?_
    refine va_get (D := D) (ci := 8) (v := .ref (u 5 0)) (C := RX8) (T := TX8) (N := 9) hx hb hw inlX8 hown hK hP 1 rfl rfl 1 (by decide) (hw _ wd_362) (fun _ h9 => h9) rfl dX9_count_117 ?_
    refine va_get (D := D) (ci := 6) (v := .int (-1)) (C := RX6) (T := TX6) (N := 15) hx hb hw inlX6 hown hK hP 3 rfl rfl 2 (by decide) (hw _ wd_215) (fun _ h9 => h9) rfl dX9_count_120 ?_
    refine W.widen (k := 0) (n := 0) (Nat.le_of_ble_eq_true rfl) (Nat.le_of_ble_eq_true rfl) ?_
    have hP9 : va_P D vwCl ((fun _ => ([] : va_W)) ()) s.heap := hP.sub [] rfl
    have hD9 : va_D A ((fun _ => ([] : va_W)) ()) := hD.sub [] (by decide) rfl
    exact W.iret (v := (-1)) hx hb hr (fun t ht hW => ⟨⟨(-1), (), rfl, rfl, by rw [ht]; exact hP9, hD9⟩, hS.F ht⟩) hS.2.2 dX9_count_123
  by_cases n_7 : p0 = 6
  · subst n_7
    refine lv_tableIn (tgt := 124) hx hb dX9_count_1 (by decide) (by decide) rfl (by decide) ?_
    refine lv_aload_n hx hb dX9_count_124 rfl (lv_at hl 0 rfl) ?_
    refine va_get (D := D) (ci := 9) (v := .ref (u 0 4)) (C := RX9) (T := TX9) (N := 12) hx hb hw inlX9 hown hK hP 0 rfl rfl 5 (by decide) (hw _ wd_424) (fun _ h9 => h9) rfl dX9_count_125 ?_
    refine va_get (D := D) (ci := 8) (v := .ref (u 5 0)) (C := RX8) (T := TX8) (N := 9) hx hb hw inlX8 hown hK hP 1 rfl rfl 1 (by decide) (hw _ wd_362) (fun _ h9 => h9) rfl dX9_count_128 ?_
    refine va_get (D := D) (ci := 6) (v := .int 0) (C := RX6) (T := TX6) (N := 15) hx hb hw inlX6 hown hK hP 3 rfl rfl 3 (by decide) (hw _ wd_218) (fun _ h9 => h9) rfl dX9_count_131 ?_
    refine W.widen (k := 0) (n := 0) (Nat.le_of_ble_eq_true rfl) (Nat.le_of_ble_eq_true rfl) ?_
    have hP9 : va_P D vwCl ((fun _ => ([] : va_W)) ()) s.heap := hP.sub [] rfl
    have hD9 : va_D A ((fun _ => ([] : va_W)) ()) := hD.sub [] (by decide) rfl
    exact W.iret (v := 0) hx hb hr (fun t ht hW => ⟨⟨0, (), rfl, rfl, by rw [ht]; exact hP9, hD9⟩, hS.F ht⟩) hS.2.2 dX9_count_134
  by_cases n_8 : p0 = 7
  · subst n_8
    refine lv_tableIn (tgt := 135) hx hb dX9_count_1 (by decide) (by decide) rfl (by decide) ?_
    refine lv_aload_n hx hb dX9_count_135 rfl (lv_at hl 0 rfl) ?_
    refine va_get (D := D) (ci := 9) (v := .ref (u 0 4)) (C := RX9) (T := TX9) (N := 12) hx hb hw inlX9 hown hK hP 0 rfl rfl 5 (by decide) (hw _ wd_424) (fun _ h9 => h9) rfl dX9_count_136 ?_
    refine va_get (D := D) (ci := 8) (v := .ref (u 5 0)) (C := RX8) (T := TX8) (N := 9) hx hb hw inlX8 hown hK hP 1 rfl rfl 1 (by decide) (hw _ wd_362) (fun _ h9 => h9) rfl dX9_count_139 ?_
    refine va_get (D := D) (ci := 6) (v := .int 0) (C := RX6) (T := TX6) (N := 15) hx hb hw inlX6 hown hK hP 3 rfl rfl 0 (by decide) (hw _ wd_210) (fun _ h9 => h9) rfl dX9_count_142 ?_
    refine W.widen (k := 0) (n := 0) (Nat.le_of_ble_eq_true rfl) (Nat.le_of_ble_eq_true rfl) ?_
    have hP9 : va_P D vwCl ((fun _ => ([] : va_W)) ()) s.heap := hP.sub [] rfl
    have hD9 : va_D A ((fun _ => ([] : va_W)) ()) := hD.sub [] (by decide) rfl
    exact W.iret (v := 0) hx hb hr (fun t ht hW => ⟨⟨0, (), rfl, rfl, by rw [ht]; exact hP9, hD9⟩, hS.F ht⟩) hS.2.2 dX9_count_145
  by_cases n_9 : p0 = 8
  · subst n_9
    refine lv_tableIn (tgt := 146) hx hb dX9_count_1 (by decide) (by decide) rfl (by decide) ?_
    refine lv_aload_n hx hb dX9_count_146 rfl (lv_at hl 0 rfl) ?_
    refine va_get (D := D) (ci := 9) (v := .ref (u 0 4)) (C := RX9) (T := TX9) (N := 12) hx hb hw inlX9 hown hK hP 0 rfl rfl 5 (by decide) (hw _ wd_424) (fun _ h9 => h9) rfl dX9_count_147 ?_
    refine va_get (D := D) (ci := 8) (v := .ref (u 5 0)) (C := RX8) (T := TX8) (N := 9) hx hb hw inlX8 hown hK hP 1 rfl rfl 1 (by decide) (hw _ wd_362) (fun _ h9 => h9) rfl dX9_count_150 ?_
    refine va_get (D := D) (ci := 6) (v := .int 0) (C := RX6) (T := TX6) (N := 15) hx hb hw inlX6 hown hK hP 3 rfl rfl 1 (by decide) (hw _ wd_213) (fun _ h9 => h9) rfl dX9_count_153 ?_
    refine W.widen (k := 0) (n := 0) (Nat.le_of_ble_eq_true rfl) (Nat.le_of_ble_eq_true rfl) ?_
    have hP9 : va_P D vwCl ((fun _ => ([] : va_W)) ()) s.heap := hP.sub [] rfl
    have hD9 : va_D A ((fun _ => ([] : va_W)) ()) := hD.sub [] (by decide) rfl
    exact W.iret (v := 0) hx hb hr (fun t ht hW => ⟨⟨0, (), rfl, rfl, by rw [ht]; exact hP9, hD9⟩, hS.F ht⟩) hS.2.2 dX9_count_156
  by_cases n_10 : p0 = 9
  · subst n_10
    refine lv_tableIn (tgt := 157) hx hb dX9_count_1 (by decide) (by decide) rfl (by decide) ?_
    refine lv_aload_n hx hb dX9_count_157 rfl (lv_at hl 0 rfl) ?_
    refine va_get (D := D) (ci := 9) (v := .ref (u 0 4)) (C := RX9) (T := TX9) (N := 12) hx hb hw inlX9 hown hK hP 0 rfl rfl 5 (by decide) (hw _ wd_424) (fun _ h9 => h9) rfl dX9_count_158 ?_
    refine va_get (D := D) (ci := 8) (v := .ref (u 5 0)) (C := RX8) (T := TX8) (N := 9) hx hb hw inlX8 hown hK hP 1 rfl rfl 1 (by decide) (hw _ wd_362) (fun _ h9 => h9) rfl dX9_count_161 ?_
    refine lv_iconst (v := 0) hx hb dX9_count_164 (by decide) ?_
    refine lv_bipush (v := 20) hx hb dX9_count_165 (by decide) ?_
    refine x_i (wr := ([] : va_W)) (va_runV (As := [.int 0, .int 20]) (rest := []) ⟨hx, hb, hml, hown, hw⟩ (kX6_logsBetween l D k sd x u 0 20 s.heap.size) (cwV 2 hw (gV wd_1095 wd_1096 wd_1097 wd_8 wd_1098) rfl rfl rfl (by decide +kernel) ⟨Nat.le_of_ble_eq_true rfl, Nat.le_of_ble_eq_true rfl⟩) (pre_V (ci := 6) (r := (RX6, TX6, 15)) hK hE hX hP hD hS hA [0, 1, 2, 3, 4, 5] (by decide) rfl rfl (q0 := 3) rfl) rfl rfl hl.1 rfl (lv_room (Nat.le_of_ble_eq_true rfl)) dX9_count_167 ⟨Nat.le_of_ble_eq_true rfl, Nat.le_of_ble_eq_true rfl⟩) hP hD hS hA [0, 1, 2, 3, 4, 5] [] rfl rfl (by decide) (by decide) (fun r_13 u_11 H locs hp_12 hP hD hS => ?_)
    subst hp_12
    have hP : va_P D vwCl (C9 k x u) H := hP
    have hD : va_D A (C9 k x u) := hD
    refine W.widen (k := 0) (n := 0) (Nat.le_of_ble_eq_true rfl) (Nat.le_of_ble_eq_true rfl) ?_
    have hP9 : va_P D vwCl ((fun _ => ([] : va_W)) ()) H := hP.sub [] rfl
    have hD9 : va_D A ((fun _ => ([] : va_W)) ()) := hD.sub [] (by decide) rfl
    exact W.iret (v := 0) hx hb hr (fun t ht hW => ⟨⟨0, (), rfl, rfl, by rw [ht]; exact hP9, hD9⟩, hS.F ht⟩) hS.2.2 dX9_count_170
  by_cases n_14 : p0 = 10
  · subst n_14
    refine lv_tableIn (tgt := 171) hx hb dX9_count_1 (by decide) (by decide) rfl (by decide) ?_
    refine lv_aload_n hx hb dX9_count_171 rfl (lv_at hl 0 rfl) ?_
    refine va_get (D := D) (ci := 9) (v := .ref (u 0 4)) (C := RX9) (T := TX9) (N := 12) hx hb hw inlX9 hown hK hP 0 rfl rfl 5 (by decide) (hw _ wd_424) (fun _ h9 => h9) rfl dX9_count_172 ?_
    refine va_get (D := D) (ci := 8) (v := .ref (u 5 0)) (C := RX8) (T := TX8) (N := 9) hx hb hw inlX8 hown hK hP 1 rfl rfl 1 (by decide) (hw _ wd_362) (fun _ h9 => h9) rfl dX9_count_175 ?_
    refine lv_bipush (v := 40) hx hb dX9_count_178 (by decide) ?_
    refine lv_bipush (v := 41) hx hb dX9_count_180 (by decide) ?_
    refine x_i (wr := ([] : va_W)) (va_runV (As := [.int 40, .int 41]) (rest := []) ⟨hx, hb, hml, hown, hw⟩ (kX6_logsBetween l D k sd x u 40 41 s.heap.size) (cwV 2 hw (gV wd_1095 wd_1096 wd_1097 wd_8 wd_1098) rfl rfl rfl (by decide +kernel) ⟨Nat.le_of_ble_eq_true rfl, Nat.le_of_ble_eq_true rfl⟩) (pre_V (ci := 6) (r := (RX6, TX6, 15)) hK hE hX hP hD hS hA [0, 1, 2, 3, 4, 5] (by decide) rfl rfl (q0 := 3) rfl) rfl rfl hl.1 rfl (lv_room (Nat.le_of_ble_eq_true rfl)) dX9_count_182 ⟨Nat.le_of_ble_eq_true rfl, Nat.le_of_ble_eq_true rfl⟩) hP hD hS hA [0, 1, 2, 3, 4, 5] [] rfl rfl (by decide) (by decide) (fun r_17 u_15 H locs hp_16 hP hD hS => ?_)
    subst hp_16
    have hP : va_P D vwCl (C9 k x u) H := hP
    have hD : va_D A (C9 k x u) := hD
    refine W.widen (k := 0) (n := 0) (Nat.le_of_ble_eq_true rfl) (Nat.le_of_ble_eq_true rfl) ?_
    have hP9 : va_P D vwCl ((fun _ => ([] : va_W)) ()) H := hP.sub [] rfl
    have hD9 : va_D A ((fun _ => ([] : va_W)) ()) := hD.sub [] (by decide) rfl
    exact W.iret (v := 0) hx hb hr (fun t ht hW => ⟨⟨0, (), rfl, rfl, by rw [ht]; exact hP9, hD9⟩, hS.F ht⟩) hS.2.2 dX9_count_185
  by_cases n_18 : p0 = 11
  · subst n_18
    refine lv_tableIn (tgt := 186) hx hb dX9_count_1 (by decide) (by decide) rfl (by decide) ?_
    refine lv_aload_n hx hb dX9_count_186 rfl (lv_at hl 0 rfl) ?_
    refine va_get (D := D) (ci := 9) (v := .ref (u 0 4)) (C := RX9) (T := TX9) (N := 12) hx hb hw inlX9 hown hK hP 0 rfl rfl 5 (by decide) (hw _ wd_424) (fun _ h9 => h9) rfl dX9_count_187 ?_
    refine va_get (D := D) (ci := 8) (v := .ref (u 5 0)) (C := RX8) (T := TX8) (N := 9) hx hb hw inlX8 hown hK hP 1 rfl rfl 1 (by decide) (hw _ wd_362) (fun _ h9 => h9) rfl dX9_count_190 ?_
    refine lv_bipush (v := 41) hx hb dX9_count_193 (by decide) ?_
    refine lv_bipush (v := 42) hx hb dX9_count_195 (by decide) ?_
    refine x_i (wr := ([] : va_W)) (va_runV (As := [.int 41, .int 42]) (rest := []) ⟨hx, hb, hml, hown, hw⟩ (kX6_logsBetween l D k sd x u 41 42 s.heap.size) (cwV 2 hw (gV wd_1095 wd_1096 wd_1097 wd_8 wd_1098) rfl rfl rfl (by decide +kernel) ⟨Nat.le_of_ble_eq_true rfl, Nat.le_of_ble_eq_true rfl⟩) (pre_V (ci := 6) (r := (RX6, TX6, 15)) hK hE hX hP hD hS hA [0, 1, 2, 3, 4, 5] (by decide) rfl rfl (q0 := 3) rfl) rfl rfl hl.1 rfl (lv_room (Nat.le_of_ble_eq_true rfl)) dX9_count_197 ⟨Nat.le_of_ble_eq_true rfl, Nat.le_of_ble_eq_true rfl⟩) hP hD hS hA [0, 1, 2, 3, 4, 5] [] rfl rfl (by decide) (by decide) (fun r_21 u_19 H locs hp_20 hP hD hS => ?_)
    subst hp_20
    have hP : va_P D vwCl (C9 k x u) H := hP
    have hD : va_D A (C9 k x u) := hD
    refine W.widen (k := 0) (n := 0) (Nat.le_of_ble_eq_true rfl) (Nat.le_of_ble_eq_true rfl) ?_
    have hP9 : va_P D vwCl ((fun _ => ([] : va_W)) ()) H := hP.sub [] rfl
    have hD9 : va_D A ((fun _ => ([] : va_W)) ()) := hD.sub [] (by decide) rfl
    exact W.iret (v := 0) hx hb hr (fun t ht hW => ⟨⟨0, (), rfl, rfl, by rw [ht]; exact hP9, hD9⟩, hS.F ht⟩) hS.2.2 dX9_count_200
  refine lv_tableOut (tgt := 201) hx hb dX9_count_1 (by have en_1 := lv_neT (a := 0) n_1 (by decide); have en_2 := lv_neT (a := 1) n_2 (by decide); have en_3 := lv_neT (a := 2) n_3 (by decide); have en_4 := lv_neT (a := 3) n_4 (by decide); have en_5 := lv_neT (a := 4) n_5 (by decide); have en_6 := lv_neT (a := 5) n_6 (by decide); have en_7 := lv_neT (a := 6) n_7 (by decide); have en_8 := lv_neT (a := 7) n_8 (by decide); have en_9 := lv_neT (a := 8) n_9 (by decide); have en_10 := lv_neT (a := 9) n_10 (by decide); have en_14 := lv_neT (a := 10) n_14 (by decide); have en_18 := lv_neT (a := 11) n_18 (by decide); omega) (by decide) ?_
  refine lv_aload_n hx hb dX9_count_201 rfl (lv_at hl 0 rfl) ?_
  refine lv_iload_n hx hb dX9_count_202 rfl (lv_at hl 1 rfl) ?_
  refine x_i (wr := ([] : va_W)) (va_runV (As := [.int p0]) (rest := []) ⟨hx, hb, hml, hown, hw⟩ (kX9_countKept l D k sd x u p0 s.heap.size) (cwV 1 hw (gV wd_1099 wd_1101 wp_27 wd_1 wd_1102) rfl rfl rfl (by decide +kernel) ⟨Nat.le_of_ble_eq_true rfl, Nat.le_of_ble_eq_true rfl⟩) (pre_V (ci := 9) (r := (RX9, TX9, 12)) hK hE hX hP hD hS hA [0, 1, 2, 3, 4, 5] (by decide) rfl rfl (q0 := 0) rfl) rfl rfl hl.1 rfl (lv_room (Nat.le_of_ble_eq_true rfl)) dX9_count_203 ⟨Nat.le_of_ble_eq_true rfl, Nat.le_of_ble_eq_true rfl⟩) hP hD hS hA [0, 1, 2, 3, 4, 5] [] rfl rfl (by decide) (by decide) (fun r_24 u_22 H locs hp_23 hP hD hS => ?_)
  have hP : va_P D vwCl (C9 k x u) H := hP
  have hD : va_D A (C9 k x u) := hD
  refine W.widen (k := 0) (n := 0) (Nat.le_of_ble_eq_true rfl) (Nat.le_of_ble_eq_true rfl) ?_
  have hP9 : va_P D vwCl ((fun _ => ([] : va_W)) ()) H := hP.sub [] rfl
  have hD9 : va_D A ((fun _ => ([] : va_W)) ()) := hD.sub [] (by decide) rfl
  exact W.iret (v := r_24) hx hb hr (fun t ht hW => ⟨⟨r_24, (), rfl, (by rw [hp_23, sp_count, if_neg n_1, if_neg n_2, if_neg n_3, if_neg n_4, if_neg n_5, if_neg n_6, if_neg n_7, if_neg n_8, if_neg n_9, if_neg n_10, if_neg n_14, if_neg n_18]), by rw [ht]; exact hP9, hD9⟩, hS.F ht⟩) hS.2.2 dX9_count_206
