set_option maxHeartbeats 4000000 in
set_option maxRecDepth 100000 in
theorem kX9_hasRiver (l : Launch) (D : va_G) (k : Nat → ClassId) (x : Nat) (u : Nat → Nat → Nat) (sz : Nat) : Met l yX9_hasRiver (wB yX9_hasRiver cX9_hasRiver 1 (some .boolean)) ({ frames := 0, cells := 0, slots := 0, locals := 0 }) (va_Pc [.ref x] (PRE D k (C9 k x u) sz)) (va_Qi (S := Unit) (fun r _ => r = 0) (fun u t => PO D (va_A (C9 k x u) sz) ((fun _ => C9 k x u) u) t) (va_A (C9 k x u) sz)) 0 0 (va_A (C9 k x u) sz) := by
  refine Met.ofW (cc := cX9_hasRiver) (maxL := 1) (ret := (some .boolean)) (by decide) rfl ?_
  intro p e s m args below meth c s₁ B hml hv
  obtain ⟨rfl, hsz, hP, hK, hD0, hE⟩ := hv
  have hx := B.exec
  have hb := B.bytes
  have hr := B.returns
  have hw : ∀ w ∈ wsL_law, w.before _ s = true := fun w h => atoms_spec (ws := wB yX9_hasRiver cX9_hasRiver 1 (some .boolean)) B.pre w (List.mem_cons_of_mem _ h)
  have hown : s.vm.findClass RX9 = some m.cls := findClass_of_methodNamed B.named
  have hlocks := B.notSynchronized
  subst hsz
  have hD := hD0.self (sz := s.heap.size)
  generalize hAe : va_A (C9 k x u) s.heap.size = A at hD ⊢
  have hA : ∀ q : Nat, s.heap.size ≤ q → A q := fun q h => by rw [← hAe]; exact Or.inr h
  have hS : va_S A s.heap s.heap [] := va_S.rf
  have hl := lv_entry ([.ref x]) (n := 1) (Nat.le_of_ble_eq_true rfl)
  rw [lg_entry_eq]
  generalize (lg_sl ([.ref x]) ++ List.replicate (1 - (lg_sl ([.ref x])).length) Slot.unset).toArray = ls at hl ⊢
  have hl : lv_has ls 1 [(0, .ref x)] := hl
  refine lv_aload_n hx hb dX9_hasRiver_0 rfl (lv_at hl 0 rfl) ?_
  refine va_get (D := D) (ci := 9) (v := .ref (u 0 4)) (C := RX9) (T := TX9) (N := 12) hx hb hw inlX9 hown hK hP 0 rfl rfl 5 (by decide) (hw _ wd_34) (fun _ h9 => h9) rfl dX9_hasRiver_1 ?_
  refine va_get (D := D) (ci := 8) (v := .ref (u 0 5)) (C := RX8) (T := TX8) (N := 9) hx hb hw inlX8 hown hK hP 1 rfl rfl 0 (by decide) (hw _ wd_35) (fun _ h9 => h9) rfl dX9_hasRiver_4 ?_
  refine va_get (D := D) (ci := 2) (v := .int 0) (C := RX2) (T := TX2) (N := 12) hx hb hw inlX2 hown hK hP 2 rfl rfl 0 (by decide) (hw _ wd_616) (fun _ h9 => h9) rfl dX9_hasRiver_7 ?_
  refine lv_if_le (tgt := 17) hx hb dX9_hasRiver_10 (by decide) (fun _ => ?_) (fun h => absurd (by decide) h)
  refine lv_iconst (v := 0) hx hb dX9_hasRiver_17 (by decide) ?_
  refine W.widen (k := 0) (n := 0) (Nat.le_of_ble_eq_true rfl) (Nat.le_of_ble_eq_true rfl) ?_
  have hP9 : va_P D vwCl ((fun _ => C9 k x u) ()) s.heap := hP.sub [0, 1, 2, 3, 4, 5] rfl
  have hD9 : va_D A ((fun _ => C9 k x u) ()) := hD.sub [0, 1, 2, 3, 4, 5] (by decide) rfl
  exact W.zret (v := 0) (ty := .boolean) hx hb hr rfl (fun t ht hW => ⟨⟨0, (), rfl, rfl, by rw [ht]; exact hP9, hD9⟩, hS.F ht⟩) hS.2.2 dX9_hasRiver_18

set_option maxHeartbeats 4000000 in
set_option maxRecDepth 100000 in
theorem kX9_isBend (l : Launch) (D : va_G) (k : Nat → ClassId) (x : Nat) (u : Nat → Nat → Nat) (p0 : Int32) (sz : Nat) : Met l yX9_isBend (wB yX9_isBend cX9_isBend 2 (some .boolean)) ({ frames := 0, cells := 0, slots := 0, locals := 0 }) (va_Pc [.ref x, .int p0] (PRE D k (C9 k x u) sz)) (va_Qi (S := Unit) (fun r _ => r = 0) (fun u t => PO D (va_A (C9 k x u) sz) ((fun _ => C9 k x u) u) t) (va_A (C9 k x u) sz)) 0 0 (va_A (C9 k x u) sz) := by
  refine Met.ofW (cc := cX9_isBend) (maxL := 2) (ret := (some .boolean)) (by decide) rfl ?_
  intro p e s m args below meth c s₁ B hml hv
  obtain ⟨rfl, hsz, hP, hK, hD0, hE⟩ := hv
  have hx := B.exec
  have hb := B.bytes
  have hr := B.returns
  have hw : ∀ w ∈ wsL_law, w.before _ s = true := fun w h => atoms_spec (ws := wB yX9_isBend cX9_isBend 2 (some .boolean)) B.pre w (List.mem_cons_of_mem _ h)
  have hown : s.vm.findClass RX9 = some m.cls := findClass_of_methodNamed B.named
  have hlocks := B.notSynchronized
  subst hsz
  have hD := hD0.self (sz := s.heap.size)
  generalize hAe : va_A (C9 k x u) s.heap.size = A at hD ⊢
  have hA : ∀ q : Nat, s.heap.size ≤ q → A q := fun q h => by rw [← hAe]; exact Or.inr h
  have hS : va_S A s.heap s.heap [] := va_S.rf
  have hl := lv_entry ([.ref x, .int p0]) (n := 2) (Nat.le_of_ble_eq_true rfl)
  rw [lg_entry_eq]
  generalize (lg_sl ([.ref x, .int p0]) ++ List.replicate (2 - (lg_sl ([.ref x, .int p0])).length) Slot.unset).toArray = ls at hl ⊢
  have hl : lv_has ls 2 [(0, .ref x), (1, .int p0)] := hl
  refine lv_iload_n hx hb dX9_isBend_0 rfl (lv_at hl 1 rfl) ?_
  refine lv_if_lt (tgt := 22) hx hb dX9_isBend_1 (by decide) (fun c_1 => ?_) (fun c_1 => ?_)
  · refine lv_iconst (v := 0) hx hb dX9_isBend_22 (by decide) ?_
    refine W.widen (k := 0) (n := 0) (Nat.le_of_ble_eq_true rfl) (Nat.le_of_ble_eq_true rfl) ?_
    have hP9 : va_P D vwCl ((fun _ => C9 k x u) ()) s.heap := hP.sub [0, 1, 2, 3, 4, 5] rfl
    have hD9 : va_D A ((fun _ => C9 k x u) ()) := hD.sub [0, 1, 2, 3, 4, 5] (by decide) rfl
    exact W.zret (v := 0) (ty := .boolean) hx hb hr rfl (fun t ht hW => ⟨⟨0, (), rfl, rfl, by rw [ht]; exact hP9, hD9⟩, hS.F ht⟩) hS.2.2 dX9_isBend_23
  · refine lv_iload_n hx hb dX9_isBend_4 rfl (lv_at hl 1 rfl) ?_
    refine lv_aload_n hx hb dX9_isBend_5 rfl (lv_at hl 0 rfl) ?_
    refine va_get (D := D) (ci := 9) (v := .ref (u 0 4)) (C := RX9) (T := TX9) (N := 12) hx hb hw inlX9 hown hK hP 0 rfl rfl 5 (by decide) (hw _ wd_34) (fun _ h9 => h9) rfl dX9_isBend_6 ?_
    refine va_get (D := D) (ci := 8) (v := .ref (u 0 5)) (C := RX8) (T := TX8) (N := 9) hx hb hw inlX8 hown hK hP 1 rfl rfl 0 (by decide) (hw _ wd_35) (fun _ h9 => h9) rfl dX9_isBend_9 ?_
    refine va_get (D := D) (ci := 2) (v := .int 0) (C := RX2) (T := TX2) (N := 12) hx hb hw inlX2 hown hK hP 2 rfl rfl 0 (by decide) (hw _ wd_616) (fun _ h9 => h9) rfl dX9_isBend_12 ?_
    refine lv_icmp_ge (tgt := 22) hx hb dX9_isBend_15 (by decide) (fun _ => ?_) (fun h => absurd (Int32.not_lt.mp c_1) h)
    refine lv_iconst (v := 0) hx hb dX9_isBend_22 (by decide) ?_
    refine W.widen (k := 0) (n := 0) (Nat.le_of_ble_eq_true rfl) (Nat.le_of_ble_eq_true rfl) ?_
    have hP9 : va_P D vwCl ((fun _ => C9 k x u) ()) s.heap := hP.sub [0, 1, 2, 3, 4, 5] rfl
    have hD9 : va_D A ((fun _ => C9 k x u) ()) := hD.sub [0, 1, 2, 3, 4, 5] (by decide) rfl
    exact W.zret (v := 0) (ty := .boolean) hx hb hr rfl (fun t ht hW => ⟨⟨0, (), rfl, rfl, by rw [ht]; exact hP9, hD9⟩, hS.F ht⟩) hS.2.2 dX9_isBend_23

set_option maxHeartbeats 4000000 in
set_option maxRecDepth 100000 in
theorem kX9_isVillage (l : Launch) (D : va_G) (k : Nat → ClassId) (x : Nat) (u : Nat → Nat → Nat) (p0 : Int32) (sz : Nat) : Met l yX9_isVillage (wB yX9_isVillage cX9_isVillage 2 (some .boolean)) ({ frames := 0, cells := 0, slots := 0, locals := 0 }) (va_Pc [.ref x, .int p0] (PRE D k (C9 k x u) sz)) (va_Qi (S := Unit) (fun r _ => r = 0) (fun u t => PO D (va_A (C9 k x u) sz) ((fun _ => C9 k x u) u) t) (va_A (C9 k x u) sz)) 0 0 (va_A (C9 k x u) sz) := by
  refine Met.ofW (cc := cX9_isVillage) (maxL := 2) (ret := (some .boolean)) (by decide) rfl ?_
  intro p e s m args below meth c s₁ B hml hv
  obtain ⟨rfl, hsz, hP, hK, hD0, hE⟩ := hv
  have hx := B.exec
  have hb := B.bytes
  have hr := B.returns
  have hw : ∀ w ∈ wsL_law, w.before _ s = true := fun w h => atoms_spec (ws := wB yX9_isVillage cX9_isVillage 2 (some .boolean)) B.pre w (List.mem_cons_of_mem _ h)
  have hown : s.vm.findClass RX9 = some m.cls := findClass_of_methodNamed B.named
  have hlocks := B.notSynchronized
  subst hsz
  have hD := hD0.self (sz := s.heap.size)
  generalize hAe : va_A (C9 k x u) s.heap.size = A at hD ⊢
  have hA : ∀ q : Nat, s.heap.size ≤ q → A q := fun q h => by rw [← hAe]; exact Or.inr h
  have hS : va_S A s.heap s.heap [] := va_S.rf
  have hl := lv_entry ([.ref x, .int p0]) (n := 2) (Nat.le_of_ble_eq_true rfl)
  rw [lg_entry_eq]
  generalize (lg_sl ([.ref x, .int p0]) ++ List.replicate (2 - (lg_sl ([.ref x, .int p0])).length) Slot.unset).toArray = ls at hl ⊢
  have hl : lv_has ls 2 [(0, .ref x), (1, .int p0)] := hl
  refine lv_iload_n hx hb dX9_isVillage_0 rfl (lv_at hl 1 rfl) ?_
  refine lv_if_lt (tgt := 22) hx hb dX9_isVillage_1 (by decide) (fun c_1 => ?_) (fun c_1 => ?_)
  · refine lv_iconst (v := 0) hx hb dX9_isVillage_22 (by decide) ?_
    refine W.widen (k := 0) (n := 0) (Nat.le_of_ble_eq_true rfl) (Nat.le_of_ble_eq_true rfl) ?_
    have hP9 : va_P D vwCl ((fun _ => C9 k x u) ()) s.heap := hP.sub [0, 1, 2, 3, 4, 5] rfl
    have hD9 : va_D A ((fun _ => C9 k x u) ()) := hD.sub [0, 1, 2, 3, 4, 5] (by decide) rfl
    exact W.zret (v := 0) (ty := .boolean) hx hb hr rfl (fun t ht hW => ⟨⟨0, (), rfl, rfl, by rw [ht]; exact hP9, hD9⟩, hS.F ht⟩) hS.2.2 dX9_isVillage_23
  · refine lv_iload_n hx hb dX9_isVillage_4 rfl (lv_at hl 1 rfl) ?_
    refine lv_aload_n hx hb dX9_isVillage_5 rfl (lv_at hl 0 rfl) ?_
    refine va_get (D := D) (ci := 9) (v := .ref (u 0 4)) (C := RX9) (T := TX9) (N := 12) hx hb hw inlX9 hown hK hP 0 rfl rfl 5 (by decide) (hw _ wd_34) (fun _ h9 => h9) rfl dX9_isVillage_6 ?_
    refine va_get (D := D) (ci := 8) (v := .ref (u 0 5)) (C := RX8) (T := TX8) (N := 9) hx hb hw inlX8 hown hK hP 1 rfl rfl 0 (by decide) (hw _ wd_35) (fun _ h9 => h9) rfl dX9_isVillage_9 ?_
    refine va_get (D := D) (ci := 2) (v := .int 0) (C := RX2) (T := TX2) (N := 12) hx hb hw inlX2 hown hK hP 2 rfl rfl 1 (by decide) (hw _ wd_647) (fun _ h9 => h9) rfl dX9_isVillage_12 ?_
    refine lv_icmp_ge (tgt := 22) hx hb dX9_isVillage_15 (by decide) (fun _ => ?_) (fun h => absurd (Int32.not_lt.mp c_1) h)
    refine lv_iconst (v := 0) hx hb dX9_isVillage_22 (by decide) ?_
    refine W.widen (k := 0) (n := 0) (Nat.le_of_ble_eq_true rfl) (Nat.le_of_ble_eq_true rfl) ?_
    have hP9 : va_P D vwCl ((fun _ => C9 k x u) ()) s.heap := hP.sub [0, 1, 2, 3, 4, 5] rfl
    have hD9 : va_D A ((fun _ => C9 k x u) ()) := hD.sub [0, 1, 2, 3, 4, 5] (by decide) rfl
    exact W.zret (v := 0) (ty := .boolean) hx hb hr rfl (fun t ht hW => ⟨⟨0, (), rfl, rfl, by rw [ht]; exact hP9, hD9⟩, hS.F ht⟩) hS.2.2 dX9_isVillage_23

set_option maxHeartbeats 4000000 in
set_option maxRecDepth 100000 in
theorem kX9_isLog (l : Launch) (D : va_G) (k : Nat → ClassId) (x : Nat) (u : Nat → Nat → Nat) (p0 : Int32) (sz : Nat) : Met l yX9_isLog (wB yX9_isLog cX9_isLog 2 (some .boolean)) ({ frames := 0, cells := 0, slots := 0, locals := 0 }) (va_Pc [.ref x, .int p0] (PRE D k (C9 k x u) sz)) (va_Qi (S := Unit) (fun r _ => r = 0) (fun u t => PO D (va_A (C9 k x u) sz) ((fun _ => C9 k x u) u) t) (va_A (C9 k x u) sz)) 0 0 (va_A (C9 k x u) sz) := by
  refine Met.ofW (cc := cX9_isLog) (maxL := 2) (ret := (some .boolean)) (by decide) rfl ?_
  intro p e s m args below meth c s₁ B hml hv
  obtain ⟨rfl, hsz, hP, hK, hD0, hE⟩ := hv
  have hx := B.exec
  have hb := B.bytes
  have hr := B.returns
  have hw : ∀ w ∈ wsL_law, w.before _ s = true := fun w h => atoms_spec (ws := wB yX9_isLog cX9_isLog 2 (some .boolean)) B.pre w (List.mem_cons_of_mem _ h)
  have hown : s.vm.findClass RX9 = some m.cls := findClass_of_methodNamed B.named
  have hlocks := B.notSynchronized
  subst hsz
  have hD := hD0.self (sz := s.heap.size)
  generalize hAe : va_A (C9 k x u) s.heap.size = A at hD ⊢
  have hA : ∀ q : Nat, s.heap.size ≤ q → A q := fun q h => by rw [← hAe]; exact Or.inr h
  have hS : va_S A s.heap s.heap [] := va_S.rf
  have hl := lv_entry ([.ref x, .int p0]) (n := 2) (Nat.le_of_ble_eq_true rfl)
  rw [lg_entry_eq]
  generalize (lg_sl ([.ref x, .int p0]) ++ List.replicate (2 - (lg_sl ([.ref x, .int p0])).length) Slot.unset).toArray = ls at hl ⊢
  have hl : lv_has ls 2 [(0, .ref x), (1, .int p0)] := hl
  refine lv_iload_n hx hb dX9_isLog_0 rfl (lv_at hl 1 rfl) ?_
  refine lv_if_lt (tgt := 22) hx hb dX9_isLog_1 (by decide) (fun c_1 => ?_) (fun c_1 => ?_)
  · refine lv_iconst (v := 0) hx hb dX9_isLog_22 (by decide) ?_
    refine W.widen (k := 0) (n := 0) (Nat.le_of_ble_eq_true rfl) (Nat.le_of_ble_eq_true rfl) ?_
    have hP9 : va_P D vwCl ((fun _ => C9 k x u) ()) s.heap := hP.sub [0, 1, 2, 3, 4, 5] rfl
    have hD9 : va_D A ((fun _ => C9 k x u) ()) := hD.sub [0, 1, 2, 3, 4, 5] (by decide) rfl
    exact W.zret (v := 0) (ty := .boolean) hx hb hr rfl (fun t ht hW => ⟨⟨0, (), rfl, rfl, by rw [ht]; exact hP9, hD9⟩, hS.F ht⟩) hS.2.2 dX9_isLog_23
  · refine lv_iload_n hx hb dX9_isLog_4 rfl (lv_at hl 1 rfl) ?_
    refine lv_aload_n hx hb dX9_isLog_5 rfl (lv_at hl 0 rfl) ?_
    refine va_get (D := D) (ci := 9) (v := .ref (u 0 4)) (C := RX9) (T := TX9) (N := 12) hx hb hw inlX9 hown hK hP 0 rfl rfl 5 (by decide) (hw _ wd_34) (fun _ h9 => h9) rfl dX9_isLog_6 ?_
    refine va_get (D := D) (ci := 8) (v := .ref (u 0 5)) (C := RX8) (T := TX8) (N := 9) hx hb hw inlX8 hown hK hP 1 rfl rfl 0 (by decide) (hw _ wd_35) (fun _ h9 => h9) rfl dX9_isLog_9 ?_
    refine va_get (D := D) (ci := 2) (v := .int 0) (C := RX2) (T := TX2) (N := 12) hx hb hw inlX2 hown hK hP 2 rfl rfl 3 (by decide) (hw _ wd_232) (fun _ h9 => h9) rfl dX9_isLog_12 ?_
    refine lv_icmp_ge (tgt := 22) hx hb dX9_isLog_15 (by decide) (fun _ => ?_) (fun h => absurd (Int32.not_lt.mp c_1) h)
    refine lv_iconst (v := 0) hx hb dX9_isLog_22 (by decide) ?_
    refine W.widen (k := 0) (n := 0) (Nat.le_of_ble_eq_true rfl) (Nat.le_of_ble_eq_true rfl) ?_
    have hP9 : va_P D vwCl ((fun _ => C9 k x u) ()) s.heap := hP.sub [0, 1, 2, 3, 4, 5] rfl
    have hD9 : va_D A ((fun _ => C9 k x u) ()) := hD.sub [0, 1, 2, 3, 4, 5] (by decide) rfl
    exact W.zret (v := 0) (ty := .boolean) hx hb hr rfl (fun t ht hW => ⟨⟨0, (), rfl, rfl, by rw [ht]; exact hP9, hD9⟩, hS.F ht⟩) hS.2.2 dX9_isLog_23

set_option maxHeartbeats 4000000 in
set_option maxRecDepth 100000 in
theorem kX9_areKept (l : Launch) (D : va_G) (k : Nat → ClassId) (x : Nat) (u : Nat → Nat → Nat) (p0 : Int32) (p1 : Int32) (p2 : Int32) (sz : Nat) : Met l yX9_areKept (wB yX9_areKept cX9_areKept 4 (some .boolean)) ({ frames := 1, cells := 0, slots := 0, locals := 21 }) (va_Pc [.ref x, .int p0, .int p1, .int p2] (PRE D k (C9 k x u) sz)) (va_Qi (S := Unit) (fun r _ => r = 0) (fun u t => PO D (va_A (C9 k x u) sz) ((fun _ => C9 k x u) u) t) (va_A (C9 k x u) sz)) 0 0 (va_A (C9 k x u) sz) := by
  refine Met.ofW (cc := cX9_areKept) (maxL := 4) (ret := (some .boolean)) (by decide) rfl ?_
  intro p e s m args below meth c s₁ B hml hv
  obtain ⟨rfl, hsz, hP, hK, hD0, hE⟩ := hv
  have hx := B.exec
  have hb := B.bytes
  have hr := B.returns
  have hw : ∀ w ∈ wsL_law, w.before _ s = true := fun w h => atoms_spec (ws := wB yX9_areKept cX9_areKept 4 (some .boolean)) B.pre w (List.mem_cons_of_mem _ h)
  have hown : s.vm.findClass RX9 = some m.cls := findClass_of_methodNamed B.named
  have hlocks := B.notSynchronized
  subst hsz
  have hD := hD0.self (sz := s.heap.size)
  generalize hAe : va_A (C9 k x u) s.heap.size = A at hD ⊢
  have hA : ∀ q : Nat, s.heap.size ≤ q → A q := fun q h => by rw [← hAe]; exact Or.inr h
  have hS : va_S A s.heap s.heap [] := va_S.rf
  have hl := lv_entry ([.ref x, .int p0, .int p1, .int p2]) (n := 4) (Nat.le_of_ble_eq_true rfl)
  rw [lg_entry_eq]
  generalize (lg_sl ([.ref x, .int p0, .int p1, .int p2]) ++ List.replicate (4 - (lg_sl ([.ref x, .int p0, .int p1, .int p2])).length) Slot.unset).toArray = ls at hl ⊢
  have hl : lv_has ls 4 [(0, .ref x), (1, .int p0), (2, .int p1), (3, .int p2)] := hl
  refine lv_aload_n hx hb dX9_areKept_0 rfl (lv_at hl 0 rfl) ?_
  refine lv_iload_n hx hb dX9_areKept_1 rfl (lv_at hl 1 rfl) ?_
  refine x_i (wr := ([] : va_W)) (va_runV (As := [.int p0]) (rest := []) ⟨hx, hb, hml, hown, hw⟩ (kX9_isLog l D k x u p0 s.heap.size) (cwV 1 hw (gV wd_872 wd_873 wd_874 wd_2 wd_875) rfl rfl rfl (by decide +kernel) ⟨Nat.le_of_ble_eq_true rfl, Nat.le_of_ble_eq_true rfl⟩) (pre_V (ci := 9) (r := (RX9, TX9, 12)) hK hE hP hD [0, 1, 2, 3, 4, 5] (by decide) rfl rfl (q0 := 0) rfl) rfl rfl hl.1 rfl (lv_room (Nat.le_of_ble_eq_true rfl)) dX9_areKept_2 ⟨Nat.le_of_ble_eq_true rfl, Nat.le_of_ble_eq_true rfl⟩) hP hD hS hA [0, 1, 2, 3, 4, 5] [] rfl rfl (by decide) (by decide) (fun r_3 u_1 H locs hp_2 hP hD hS => ?_)
  subst hp_2
  have hP : va_P D vwCl (C9 k x u) H := hP
  have hD : va_D A (C9 k x u) := hD
  refine lv_if_eq (tgt := 33) hx hb dX9_areKept_5 (by decide) (fun _ => ?_) (fun h => absurd (by decide) h)
  refine lv_iconst (v := 0) hx hb dX9_areKept_33 (by decide) ?_
  refine W.widen (k := 0) (n := 0) (Nat.le_of_ble_eq_true rfl) (Nat.le_of_ble_eq_true rfl) ?_
  have hP9 : va_P D vwCl ((fun _ => C9 k x u) ()) H := hP.sub [0, 1, 2, 3, 4, 5] rfl
  have hD9 : va_D A ((fun _ => C9 k x u) ()) := hD.sub [0, 1, 2, 3, 4, 5] (by decide) rfl
  exact W.zret (v := 0) (ty := .boolean) hx hb hr rfl (fun t ht hW => ⟨⟨0, (), rfl, rfl, by rw [ht]; exact hP9, hD9⟩, hS.F ht⟩) hS.2.2 dX9_areKept_34

set_option maxHeartbeats 4000000 in
set_option maxRecDepth 100000 in
theorem kX9_force (l : Launch) (D : va_G) (k : Nat → ClassId) (x : Nat) (u : Nat → Nat → Nat) (p0 : Int32) (sz : Nat) : Met l yX9_force (wB yX9_force cX9_force 3 (some .int)) ({ frames := 1, cells := 0, slots := 0, locals := 20 }) (va_Pc [.ref x, .int p0] (PRE D k (C9 k x u) sz)) (va_Qi (S := Unit) (fun r _ => r = (-2)) (fun u t => PO D (va_A (C9 k x u) sz) ((fun _ => ([] : va_W)) u) t) (va_A (C9 k x u) sz)) 0 0 (va_A (C9 k x u) sz) := by
  refine Met.ofW (cc := cX9_force) (maxL := 3) (ret := (some .int)) (by decide) rfl ?_
  intro p e s m args below meth c s₁ B hml hv
  obtain ⟨rfl, hsz, hP, hK, hD0, hE⟩ := hv
  have hx := B.exec
  have hb := B.bytes
  have hr := B.returns
  have hw : ∀ w ∈ wsL_law, w.before _ s = true := fun w h => atoms_spec (ws := wB yX9_force cX9_force 3 (some .int)) B.pre w (List.mem_cons_of_mem _ h)
  have hown : s.vm.findClass RX9 = some m.cls := findClass_of_methodNamed B.named
  have hlocks := B.notSynchronized
  subst hsz
  have hD := hD0.self (sz := s.heap.size)
  generalize hAe : va_A (C9 k x u) s.heap.size = A at hD ⊢
  have hA : ∀ q : Nat, s.heap.size ≤ q → A q := fun q h => by rw [← hAe]; exact Or.inr h
  have hS : va_S A s.heap s.heap [] := va_S.rf
  have hl := lv_entry ([.ref x, .int p0]) (n := 3) (Nat.le_of_ble_eq_true rfl)
  rw [lg_entry_eq]
  generalize (lg_sl ([.ref x, .int p0]) ++ List.replicate (3 - (lg_sl ([.ref x, .int p0])).length) Slot.unset).toArray = ls at hl ⊢
  have hl : lv_has ls 3 [(0, .ref x), (1, .int p0)] := hl
  refine lv_aload_n hx hb dX9_force_0 rfl (lv_at hl 0 rfl) ?_
  refine x_i (wr := ([] : va_W)) (va_runV (As := []) (rest := []) ⟨hx, hb, hml, hown, hw⟩ (kX9_hasRiver l D k x u  s.heap.size) (cwV 0 hw (gV wd_612 wd_613 wd_614 wd_2 wd_615) rfl rfl rfl (by decide +kernel) ⟨Nat.le_of_ble_eq_true rfl, Nat.le_of_ble_eq_true rfl⟩) (pre_V (ci := 9) (r := (RX9, TX9, 12)) hK hE hP hD [0, 1, 2, 3, 4, 5] (by decide) rfl rfl (q0 := 0) rfl) rfl rfl hl.1 rfl (lv_room (Nat.le_of_ble_eq_true rfl)) dX9_force_1 ⟨Nat.le_of_ble_eq_true rfl, Nat.le_of_ble_eq_true rfl⟩) hP hD hS hA [0, 1, 2, 3, 4, 5] [] rfl rfl (by decide) (by decide) (fun r_3 u_1 H locs hp_2 hP hD hS => ?_)
  subst hp_2
  have hP : va_P D vwCl (C9 k x u) H := hP
  have hD : va_D A (C9 k x u) := hD
  refine lv_if_eq (tgt := 15) hx hb dX9_force_4 (by decide) (fun _ => ?_) (fun h => absurd (by decide) h)
  refine lv_bipush (v := (-2)) hx hb dX9_force_15 (by decide) ?_
  refine W.widen (k := 0) (n := 0) (Nat.le_of_ble_eq_true rfl) (Nat.le_of_ble_eq_true rfl) ?_
  have hP9 : va_P D vwCl ((fun _ => ([] : va_W)) ()) H := hP.sub [] rfl
  have hD9 : va_D A ((fun _ => ([] : va_W)) ()) := hD.sub [] (by decide) rfl
  exact W.iret (v := (-2)) hx hb hr (fun t ht hW => ⟨⟨(-2), (), rfl, rfl, by rw [ht]; exact hP9, hD9⟩, hS.F ht⟩) hS.2.2 dX9_force_17

set_option maxHeartbeats 4000000 in
set_option maxRecDepth 100000 in
theorem kX9_bind (l : Launch) (D : va_G) (k : Nat → ClassId) (x : Nat) (u : Nat → Nat → Nat) (p0 : Int32) (p1 : Int32) (sz : Nat) : Met l yX9_bind (wB yX9_bind cX9_bind 4 (some .int)) ({ frames := 1, cells := 0, slots := 0, locals := 21 }) (va_Pc [.ref x, .int p0, .int p1] (PRE D k (C9 k x u) sz)) (va_Qi (S := Unit) (fun r _ => r = (-2)) (fun u t => PO D (va_A (C9 k x u) sz) ((fun _ => ([] : va_W)) u) t) (va_A (C9 k x u) sz)) 0 0 (va_A (C9 k x u) sz) := by
  refine Met.ofW (cc := cX9_bind) (maxL := 4) (ret := (some .int)) (by decide) rfl ?_
  intro p e s m args below meth c s₁ B hml hv
  obtain ⟨rfl, hsz, hP, hK, hD0, hE⟩ := hv
  have hx := B.exec
  have hb := B.bytes
  have hr := B.returns
  have hw : ∀ w ∈ wsL_law, w.before _ s = true := fun w h => atoms_spec (ws := wB yX9_bind cX9_bind 4 (some .int)) B.pre w (List.mem_cons_of_mem _ h)
  have hown : s.vm.findClass RX9 = some m.cls := findClass_of_methodNamed B.named
  have hlocks := B.notSynchronized
  subst hsz
  have hD := hD0.self (sz := s.heap.size)
  generalize hAe : va_A (C9 k x u) s.heap.size = A at hD ⊢
  have hA : ∀ q : Nat, s.heap.size ≤ q → A q := fun q h => by rw [← hAe]; exact Or.inr h
  have hS : va_S A s.heap s.heap [] := va_S.rf
  have hl := lv_entry ([.ref x, .int p0, .int p1]) (n := 4) (Nat.le_of_ble_eq_true rfl)
  rw [lg_entry_eq]
  generalize (lg_sl ([.ref x, .int p0, .int p1]) ++ List.replicate (4 - (lg_sl ([.ref x, .int p0, .int p1])).length) Slot.unset).toArray = ls at hl ⊢
  have hl : lv_has ls 4 [(0, .ref x), (1, .int p0), (2, .int p1)] := hl
  refine lv_aload_n hx hb dX9_bind_0 rfl (lv_at hl 0 rfl) ?_
  refine lv_iload_n hx hb dX9_bind_1 rfl (lv_at hl 1 rfl) ?_
  refine x_i (wr := ([] : va_W)) (va_runV (As := [.int p0]) (rest := []) ⟨hx, hb, hml, hown, hw⟩ (kX9_isVillage l D k x u p0 s.heap.size) (cwV 1 hw (gV wd_643 wd_644 wd_645 wd_2 wd_646) rfl rfl rfl (by decide +kernel) ⟨Nat.le_of_ble_eq_true rfl, Nat.le_of_ble_eq_true rfl⟩) (pre_V (ci := 9) (r := (RX9, TX9, 12)) hK hE hP hD [0, 1, 2, 3, 4, 5] (by decide) rfl rfl (q0 := 0) rfl) rfl rfl hl.1 rfl (lv_room (Nat.le_of_ble_eq_true rfl)) dX9_bind_2 ⟨Nat.le_of_ble_eq_true rfl, Nat.le_of_ble_eq_true rfl⟩) hP hD hS hA [0, 1, 2, 3, 4, 5] [] rfl rfl (by decide) (by decide) (fun r_3 u_1 H locs hp_2 hP hD hS => ?_)
  subst hp_2
  have hP : va_P D vwCl (C9 k x u) H := hP
  have hD : va_D A (C9 k x u) := hD
  refine lv_if_eq (tgt := 16) hx hb dX9_bind_5 (by decide) (fun _ => ?_) (fun h => absurd (by decide) h)
  refine lv_bipush (v := (-2)) hx hb dX9_bind_16 (by decide) ?_
  refine W.widen (k := 0) (n := 0) (Nat.le_of_ble_eq_true rfl) (Nat.le_of_ble_eq_true rfl) ?_
  have hP9 : va_P D vwCl ((fun _ => ([] : va_W)) ()) H := hP.sub [] rfl
  have hD9 : va_D A ((fun _ => ([] : va_W)) ()) := hD.sub [] (by decide) rfl
  exact W.iret (v := (-2)) hx hb hr (fun t ht hW => ⟨⟨(-2), (), rfl, rfl, by rw [ht]; exact hP9, hD9⟩, hS.F ht⟩) hS.2.2 dX9_bind_18

set_option maxHeartbeats 4000000 in
set_option maxRecDepth 100000 in
theorem kX9_law (l : Launch) (D : va_G) (k : Nat → ClassId) (x : Nat) (u : Nat → Nat → Nat) (p0 : Int32) (p1 : Int32) (sz : Nat) : Met l yX9_law (wB yX9_law cX9_law 4 (some .int)) ({ frames := 1, cells := 0, slots := 0, locals := 20 }) (va_Pc [.ref x, .int p0, .int p1] (PRE D k (C9 k x u) sz)) (va_Qi (S := Unit) (fun r _ => r = (-2)) (fun u t => PO D (va_A (C9 k x u) sz) ((fun _ => ([] : va_W)) u) t) (va_A (C9 k x u) sz)) 0 0 (va_A (C9 k x u) sz) := by
  refine Met.ofW (cc := cX9_law) (maxL := 4) (ret := (some .int)) (by decide) rfl ?_
  intro p e s m args below meth c s₁ B hml hv
  obtain ⟨rfl, hsz, hP, hK, hD0, hE⟩ := hv
  have hx := B.exec
  have hb := B.bytes
  have hr := B.returns
  have hw : ∀ w ∈ wsL_law, w.before _ s = true := fun w h => atoms_spec (ws := wB yX9_law cX9_law 4 (some .int)) B.pre w (List.mem_cons_of_mem _ h)
  have hown : s.vm.findClass RX9 = some m.cls := findClass_of_methodNamed B.named
  have hlocks := B.notSynchronized
  subst hsz
  have hD := hD0.self (sz := s.heap.size)
  generalize hAe : va_A (C9 k x u) s.heap.size = A at hD ⊢
  have hA : ∀ q : Nat, s.heap.size ≤ q → A q := fun q h => by rw [← hAe]; exact Or.inr h
  have hS : va_S A s.heap s.heap [] := va_S.rf
  have hl := lv_entry ([.ref x, .int p0, .int p1]) (n := 4) (Nat.le_of_ble_eq_true rfl)
  rw [lg_entry_eq]
  generalize (lg_sl ([.ref x, .int p0, .int p1]) ++ List.replicate (4 - (lg_sl ([.ref x, .int p0, .int p1])).length) Slot.unset).toArray = ls at hl ⊢
  have hl : lv_has ls 4 [(0, .ref x), (1, .int p0), (2, .int p1)] := hl
  refine lv_aload_n hx hb dX9_law_0 rfl (lv_at hl 0 rfl) ?_
  refine x_i (wr := ([] : va_W)) (va_runV (As := []) (rest := []) ⟨hx, hb, hml, hown, hw⟩ (kX9_hasRiver l D k x u  s.heap.size) (cwV 0 hw (gV wd_612 wd_613 wd_614 wd_2 wd_615) rfl rfl rfl (by decide +kernel) ⟨Nat.le_of_ble_eq_true rfl, Nat.le_of_ble_eq_true rfl⟩) (pre_V (ci := 9) (r := (RX9, TX9, 12)) hK hE hP hD [0, 1, 2, 3, 4, 5] (by decide) rfl rfl (q0 := 0) rfl) rfl rfl hl.1 rfl (lv_room (Nat.le_of_ble_eq_true rfl)) dX9_law_1 ⟨Nat.le_of_ble_eq_true rfl, Nat.le_of_ble_eq_true rfl⟩) hP hD hS hA [0, 1, 2, 3, 4, 5] [] rfl rfl (by decide) (by decide) (fun r_3 u_1 H locs hp_2 hP hD hS => ?_)
  subst hp_2
  have hP : va_P D vwCl (C9 k x u) H := hP
  have hD : va_D A (C9 k x u) := hD
  refine lv_if_eq (tgt := 16) hx hb dX9_law_4 (by decide) (fun _ => ?_) (fun h => absurd (by decide) h)
  refine lv_bipush (v := (-2)) hx hb dX9_law_16 (by decide) ?_
  refine W.widen (k := 0) (n := 0) (Nat.le_of_ble_eq_true rfl) (Nat.le_of_ble_eq_true rfl) ?_
  have hP9 : va_P D vwCl ((fun _ => ([] : va_W)) ()) H := hP.sub [] rfl
  have hD9 : va_D A ((fun _ => ([] : va_W)) ()) := hD.sub [] (by decide) rfl
  exact W.iret (v := (-2)) hx hb hr (fun t ht hW => ⟨⟨(-2), (), rfl, rfl, by rw [ht]; exact hP9, hD9⟩, hS.F ht⟩) hS.2.2 dX9_law_18

set_option maxHeartbeats 4000000 in
set_option maxRecDepth 100000 in
theorem kX9_bend (l : Launch) (D : va_G) (k : Nat → ClassId) (x : Nat) (u : Nat → Nat → Nat) (p0 : Int32) (p1 : Int32) (sz : Nat) : Met l yX9_bend (wB yX9_bend cX9_bend 3 (some .int)) ({ frames := 1, cells := 0, slots := 0, locals := 21 }) (va_Pc [.ref x, .int p0, .int p1] (PRE D k (C9 k x u) sz)) (va_Qi (S := Unit) (fun r _ => r = (-1)) (fun u t => PO D (va_A (C9 k x u) sz) ((fun _ => ([] : va_W)) u) t) (va_A (C9 k x u) sz)) 0 0 (va_A (C9 k x u) sz) := by
  refine Met.ofW (cc := cX9_bend) (maxL := 3) (ret := (some .int)) (by decide) rfl ?_
  intro p e s m args below meth c s₁ B hml hv
  obtain ⟨rfl, hsz, hP, hK, hD0, hE⟩ := hv
  have hx := B.exec
  have hb := B.bytes
  have hr := B.returns
  have hw : ∀ w ∈ wsL_law, w.before _ s = true := fun w h => atoms_spec (ws := wB yX9_bend cX9_bend 3 (some .int)) B.pre w (List.mem_cons_of_mem _ h)
  have hown : s.vm.findClass RX9 = some m.cls := findClass_of_methodNamed B.named
  have hlocks := B.notSynchronized
  subst hsz
  have hD := hD0.self (sz := s.heap.size)
  generalize hAe : va_A (C9 k x u) s.heap.size = A at hD ⊢
  have hA : ∀ q : Nat, s.heap.size ≤ q → A q := fun q h => by rw [← hAe]; exact Or.inr h
  have hS : va_S A s.heap s.heap [] := va_S.rf
  have hl := lv_entry ([.ref x, .int p0, .int p1]) (n := 3) (Nat.le_of_ble_eq_true rfl)
  rw [lg_entry_eq]
  generalize (lg_sl ([.ref x, .int p0, .int p1]) ++ List.replicate (3 - (lg_sl ([.ref x, .int p0, .int p1])).length) Slot.unset).toArray = ls at hl ⊢
  have hl : lv_has ls 3 [(0, .ref x), (1, .int p0), (2, .int p1)] := hl
  refine lv_aload_n hx hb dX9_bend_0 rfl (lv_at hl 0 rfl) ?_
  refine lv_iload_n hx hb dX9_bend_1 rfl (lv_at hl 1 rfl) ?_
  refine x_i (wr := ([] : va_W)) (va_runV (As := [.int p0]) (rest := []) ⟨hx, hb, hml, hown, hw⟩ (kX9_isBend l D k x u p0 s.heap.size) (cwV 1 hw (gV wd_673 wd_674 wd_675 wd_2 wd_676) rfl rfl rfl (by decide +kernel) ⟨Nat.le_of_ble_eq_true rfl, Nat.le_of_ble_eq_true rfl⟩) (pre_V (ci := 9) (r := (RX9, TX9, 12)) hK hE hP hD [0, 1, 2, 3, 4, 5] (by decide) rfl rfl (q0 := 0) rfl) rfl rfl hl.1 rfl (lv_room (Nat.le_of_ble_eq_true rfl)) dX9_bend_2 ⟨Nat.le_of_ble_eq_true rfl, Nat.le_of_ble_eq_true rfl⟩) hP hD hS hA [0, 1, 2, 3, 4, 5] [] rfl rfl (by decide) (by decide) (fun r_3 u_1 H locs hp_2 hP hD hS => ?_)
  subst hp_2
  have hP : va_P D vwCl (C9 k x u) H := hP
  have hD : va_D A (C9 k x u) := hD
  refine lv_if_ne (tgt := 10) hx hb dX9_bend_5 (by decide) (fun h => absurd (by decide) h) (fun _ => ?_)
  refine lv_iconst (v := (-1)) hx hb dX9_bend_8 (by decide) ?_
  refine W.widen (k := 0) (n := 0) (Nat.le_of_ble_eq_true rfl) (Nat.le_of_ble_eq_true rfl) ?_
  have hP9 : va_P D vwCl ((fun _ => ([] : va_W)) ()) H := hP.sub [] rfl
  have hD9 : va_D A ((fun _ => ([] : va_W)) ()) := hD.sub [] (by decide) rfl
  exact W.iret (v := (-1)) hx hb hr (fun t ht hW => ⟨⟨(-1), (), rfl, rfl, by rw [ht]; exact hP9, hD9⟩, hS.F ht⟩) hS.2.2 dX9_bend_9

set_option maxHeartbeats 4000000 in
set_option maxRecDepth 100000 in
theorem kX9_village (l : Launch) (D : va_G) (k : Nat → ClassId) (x : Nat) (u : Nat → Nat → Nat) (p0 : Int32) (p1 : Int32) (sz : Nat) : Met l yX9_village (wB yX9_village cX9_village 3 (some .int)) ({ frames := 1, cells := 0, slots := 0, locals := 21 }) (va_Pc [.ref x, .int p0, .int p1] (PRE D k (C9 k x u) sz)) (va_Qi (S := Unit) (fun r _ => r = (-1000000)) (fun u t => PO D (va_A (C9 k x u) sz) ((fun _ => ([] : va_W)) u) t) (va_A (C9 k x u) sz)) 0 0 (va_A (C9 k x u) sz) := by
  refine Met.ofW (cc := cX9_village) (maxL := 3) (ret := (some .int)) (by decide) rfl ?_
  intro p e s m args below meth c s₁ B hml hv
  obtain ⟨rfl, hsz, hP, hK, hD0, hE⟩ := hv
  have hx := B.exec
  have hb := B.bytes
  have hr := B.returns
  have hw : ∀ w ∈ wsL_law, w.before _ s = true := fun w h => atoms_spec (ws := wB yX9_village cX9_village 3 (some .int)) B.pre w (List.mem_cons_of_mem _ h)
  have hown : s.vm.findClass RX9 = some m.cls := findClass_of_methodNamed B.named
  have hlocks := B.notSynchronized
  subst hsz
  have hD := hD0.self (sz := s.heap.size)
  generalize hAe : va_A (C9 k x u) s.heap.size = A at hD ⊢
  have hA : ∀ q : Nat, s.heap.size ≤ q → A q := fun q h => by rw [← hAe]; exact Or.inr h
  have hS : va_S A s.heap s.heap [] := va_S.rf
  have hl := lv_entry ([.ref x, .int p0, .int p1]) (n := 3) (Nat.le_of_ble_eq_true rfl)
  rw [lg_entry_eq]
  generalize (lg_sl ([.ref x, .int p0, .int p1]) ++ List.replicate (3 - (lg_sl ([.ref x, .int p0, .int p1])).length) Slot.unset).toArray = ls at hl ⊢
  have hl : lv_has ls 3 [(0, .ref x), (1, .int p0), (2, .int p1)] := hl
  refine lv_aload_n hx hb dX9_village_0 rfl (lv_at hl 0 rfl) ?_
  refine lv_iload_n hx hb dX9_village_1 rfl (lv_at hl 1 rfl) ?_
  refine x_i (wr := ([] : va_W)) (va_runV (As := [.int p0]) (rest := []) ⟨hx, hb, hml, hown, hw⟩ (kX9_isVillage l D k x u p0 s.heap.size) (cwV 1 hw (gV wd_643 wd_644 wd_645 wd_2 wd_646) rfl rfl rfl (by decide +kernel) ⟨Nat.le_of_ble_eq_true rfl, Nat.le_of_ble_eq_true rfl⟩) (pre_V (ci := 9) (r := (RX9, TX9, 12)) hK hE hP hD [0, 1, 2, 3, 4, 5] (by decide) rfl rfl (q0 := 0) rfl) rfl rfl hl.1 rfl (lv_room (Nat.le_of_ble_eq_true rfl)) dX9_village_2 ⟨Nat.le_of_ble_eq_true rfl, Nat.le_of_ble_eq_true rfl⟩) hP hD hS hA [0, 1, 2, 3, 4, 5] [] rfl rfl (by decide) (by decide) (fun r_3 u_1 H locs hp_2 hP hD hS => ?_)
  subst hp_2
  have hP : va_P D vwCl (C9 k x u) H := hP
  have hD : va_D A (C9 k x u) := hD
  refine lv_if_ne (tgt := 11) hx hb dX9_village_5 (by decide) (fun h => absurd (by decide) h) (fun _ => ?_)
  refine lv_ldc (v := (-1000000)) hx hb hown (hw _ wd_723) dX9_village_8 ?_
  refine W.widen (k := 0) (n := 0) (Nat.le_of_ble_eq_true rfl) (Nat.le_of_ble_eq_true rfl) ?_
  have hP9 : va_P D vwCl ((fun _ => ([] : va_W)) ()) H := hP.sub [] rfl
  have hD9 : va_D A ((fun _ => ([] : va_W)) ()) := hD.sub [] (by decide) rfl
  exact W.iret (v := (-1000000)) hx hb hr (fun t ht hW => ⟨⟨(-1000000), (), rfl, rfl, by rw [ht]; exact hP9, hD9⟩, hS.F ht⟩) hS.2.2 dX9_village_10

set_option maxHeartbeats 4000000 in
set_option maxRecDepth 100000 in
theorem kX9_log (l : Launch) (D : va_G) (k : Nat → ClassId) (x : Nat) (u : Nat → Nat → Nat) (p0 : Int32) (p1 : Int32) (sz : Nat) : Met l yX9_log (wB yX9_log cX9_log 4 (some .int)) ({ frames := 1, cells := 0, slots := 0, locals := 21 }) (va_Pc [.ref x, .int p0, .int p1] (PRE D k (C9 k x u) sz)) (va_Qi (S := Unit) (fun r _ => r = (-2)) (fun u t => PO D (va_A (C9 k x u) sz) ((fun _ => ([] : va_W)) u) t) (va_A (C9 k x u) sz)) 0 0 (va_A (C9 k x u) sz) := by
  refine Met.ofW (cc := cX9_log) (maxL := 4) (ret := (some .int)) (by decide) rfl ?_
  intro p e s m args below meth c s₁ B hml hv
  obtain ⟨rfl, hsz, hP, hK, hD0, hE⟩ := hv
  have hx := B.exec
  have hb := B.bytes
  have hr := B.returns
  have hw : ∀ w ∈ wsL_law, w.before _ s = true := fun w h => atoms_spec (ws := wB yX9_log cX9_log 4 (some .int)) B.pre w (List.mem_cons_of_mem _ h)
  have hown : s.vm.findClass RX9 = some m.cls := findClass_of_methodNamed B.named
  have hlocks := B.notSynchronized
  subst hsz
  have hD := hD0.self (sz := s.heap.size)
  generalize hAe : va_A (C9 k x u) s.heap.size = A at hD ⊢
  have hA : ∀ q : Nat, s.heap.size ≤ q → A q := fun q h => by rw [← hAe]; exact Or.inr h
  have hS : va_S A s.heap s.heap [] := va_S.rf
  have hl := lv_entry ([.ref x, .int p0, .int p1]) (n := 4) (Nat.le_of_ble_eq_true rfl)
  rw [lg_entry_eq]
  generalize (lg_sl ([.ref x, .int p0, .int p1]) ++ List.replicate (4 - (lg_sl ([.ref x, .int p0, .int p1])).length) Slot.unset).toArray = ls at hl ⊢
  have hl : lv_has ls 4 [(0, .ref x), (1, .int p0), (2, .int p1)] := hl
  refine lv_aload_n hx hb dX9_log_0 rfl (lv_at hl 0 rfl) ?_
  refine lv_iload_n hx hb dX9_log_1 rfl (lv_at hl 1 rfl) ?_
  refine x_i (wr := ([] : va_W)) (va_runV (As := [.int p0]) (rest := []) ⟨hx, hb, hml, hown, hw⟩ (kX9_isLog l D k x u p0 s.heap.size) (cwV 1 hw (gV wd_872 wd_873 wd_874 wd_2 wd_875) rfl rfl rfl (by decide +kernel) ⟨Nat.le_of_ble_eq_true rfl, Nat.le_of_ble_eq_true rfl⟩) (pre_V (ci := 9) (r := (RX9, TX9, 12)) hK hE hP hD [0, 1, 2, 3, 4, 5] (by decide) rfl rfl (q0 := 0) rfl) rfl rfl hl.1 rfl (lv_room (Nat.le_of_ble_eq_true rfl)) dX9_log_2 ⟨Nat.le_of_ble_eq_true rfl, Nat.le_of_ble_eq_true rfl⟩) hP hD hS hA [0, 1, 2, 3, 4, 5] [] rfl rfl (by decide) (by decide) (fun r_3 u_1 H locs hp_2 hP hD hS => ?_)
  subst hp_2
  have hP : va_P D vwCl (C9 k x u) H := hP
  have hD : va_D A (C9 k x u) := hD
  refine lv_if_ne (tgt := 11) hx hb dX9_log_5 (by decide) (fun h => absurd (by decide) h) (fun _ => ?_)
  refine lv_bipush (v := (-2)) hx hb dX9_log_8 (by decide) ?_
  refine W.widen (k := 0) (n := 0) (Nat.le_of_ble_eq_true rfl) (Nat.le_of_ble_eq_true rfl) ?_
  have hP9 : va_P D vwCl ((fun _ => ([] : va_W)) ()) H := hP.sub [] rfl
  have hD9 : va_D A ((fun _ => ([] : va_W)) ()) := hD.sub [] (by decide) rfl
  exact W.iret (v := (-2)) hx hb hr (fun t ht hW => ⟨⟨(-2), (), rfl, rfl, by rw [ht]; exact hP9, hD9⟩, hS.F ht⟩) hS.2.2 dX9_log_10

set_option maxHeartbeats 4000000 in
set_option maxRecDepth 100000 in
theorem kX9_notch (l : Launch) (D : va_G) (k : Nat → ClassId) (x : Nat) (u : Nat → Nat → Nat) (p0 : Int32) (p1 : Int32) (sz : Nat) : Met l yX9_notch (wB yX9_notch cX9_notch 3 (some .int)) ({ frames := 1, cells := 0, slots := 0, locals := 21 }) (va_Pc [.ref x, .int p0, .int p1] (PRE D k (C9 k x u) sz)) (va_Qi (S := Unit) (fun r _ => r = (-2)) (fun u t => PO D (va_A (C9 k x u) sz) ((fun _ => ([] : va_W)) u) t) (va_A (C9 k x u) sz)) 0 0 (va_A (C9 k x u) sz) := by
  refine Met.ofW (cc := cX9_notch) (maxL := 3) (ret := (some .int)) (by decide) rfl ?_
  intro p e s m args below meth c s₁ B hml hv
  obtain ⟨rfl, hsz, hP, hK, hD0, hE⟩ := hv
  have hx := B.exec
  have hb := B.bytes
  have hr := B.returns
  have hw : ∀ w ∈ wsL_law, w.before _ s = true := fun w h => atoms_spec (ws := wB yX9_notch cX9_notch 3 (some .int)) B.pre w (List.mem_cons_of_mem _ h)
  have hown : s.vm.findClass RX9 = some m.cls := findClass_of_methodNamed B.named
  have hlocks := B.notSynchronized
  subst hsz
  have hD := hD0.self (sz := s.heap.size)
  generalize hAe : va_A (C9 k x u) s.heap.size = A at hD ⊢
  have hA : ∀ q : Nat, s.heap.size ≤ q → A q := fun q h => by rw [← hAe]; exact Or.inr h
  have hS : va_S A s.heap s.heap [] := va_S.rf
  have hl := lv_entry ([.ref x, .int p0, .int p1]) (n := 3) (Nat.le_of_ble_eq_true rfl)
  rw [lg_entry_eq]
  generalize (lg_sl ([.ref x, .int p0, .int p1]) ++ List.replicate (3 - (lg_sl ([.ref x, .int p0, .int p1])).length) Slot.unset).toArray = ls at hl ⊢
  have hl : lv_has ls 3 [(0, .ref x), (1, .int p0), (2, .int p1)] := hl
  refine lv_aload_n hx hb dX9_notch_0 rfl (lv_at hl 0 rfl) ?_
  refine lv_iload_n hx hb dX9_notch_1 rfl (lv_at hl 1 rfl) ?_
  refine x_i (wr := ([] : va_W)) (va_runV (As := [.int p0]) (rest := []) ⟨hx, hb, hml, hown, hw⟩ (kX9_isLog l D k x u p0 s.heap.size) (cwV 1 hw (gV wd_872 wd_873 wd_874 wd_2 wd_875) rfl rfl rfl (by decide +kernel) ⟨Nat.le_of_ble_eq_true rfl, Nat.le_of_ble_eq_true rfl⟩) (pre_V (ci := 9) (r := (RX9, TX9, 12)) hK hE hP hD [0, 1, 2, 3, 4, 5] (by decide) rfl rfl (q0 := 0) rfl) rfl rfl hl.1 rfl (lv_room (Nat.le_of_ble_eq_true rfl)) dX9_notch_2 ⟨Nat.le_of_ble_eq_true rfl, Nat.le_of_ble_eq_true rfl⟩) hP hD hS hA [0, 1, 2, 3, 4, 5] [] rfl rfl (by decide) (by decide) (fun r_3 u_1 H locs hp_2 hP hD hS => ?_)
  subst hp_2
  have hP : va_P D vwCl (C9 k x u) H := hP
  have hD : va_D A (C9 k x u) := hD
  refine lv_if_ne (tgt := 11) hx hb dX9_notch_5 (by decide) (fun h => absurd (by decide) h) (fun _ => ?_)
  refine lv_bipush (v := (-2)) hx hb dX9_notch_8 (by decide) ?_
  refine W.widen (k := 0) (n := 0) (Nat.le_of_ble_eq_true rfl) (Nat.le_of_ble_eq_true rfl) ?_
  have hP9 : va_P D vwCl ((fun _ => ([] : va_W)) ()) H := hP.sub [] rfl
  have hD9 : va_D A ((fun _ => ([] : va_W)) ()) := hD.sub [] (by decide) rfl
  exact W.iret (v := (-2)) hx hb hr (fun t ht hW => ⟨⟨(-2), (), rfl, rfl, by rw [ht]; exact hP9, hD9⟩, hS.F ht⟩) hS.2.2 dX9_notch_10

set_option maxHeartbeats 4000000 in
set_option maxRecDepth 100000 in
theorem kX9_cut (l : Launch) (D : va_G) (k : Nat → ClassId) (x : Nat) (u : Nat → Nat → Nat) (p0 : Int32) (p1 : Int32) (sz : Nat) : Met l yX9_cut (wB yX9_cut cX9_cut 4 (some .int)) ({ frames := 1, cells := 0, slots := 0, locals := 21 }) (va_Pc [.ref x, .int p0, .int p1] (PRE D k (C9 k x u) sz)) (va_Qi (S := Unit) (fun r _ => r = (-2)) (fun u t => PO D (va_A (C9 k x u) sz) ((fun _ => ([] : va_W)) u) t) (va_A (C9 k x u) sz)) 0 0 (va_A (C9 k x u) sz) := by
  refine Met.ofW (cc := cX9_cut) (maxL := 4) (ret := (some .int)) (by decide) rfl ?_
  intro p e s m args below meth c s₁ B hml hv
  obtain ⟨rfl, hsz, hP, hK, hD0, hE⟩ := hv
  have hx := B.exec
  have hb := B.bytes
  have hr := B.returns
  have hw : ∀ w ∈ wsL_law, w.before _ s = true := fun w h => atoms_spec (ws := wB yX9_cut cX9_cut 4 (some .int)) B.pre w (List.mem_cons_of_mem _ h)
  have hown : s.vm.findClass RX9 = some m.cls := findClass_of_methodNamed B.named
  have hlocks := B.notSynchronized
  subst hsz
  have hD := hD0.self (sz := s.heap.size)
  generalize hAe : va_A (C9 k x u) s.heap.size = A at hD ⊢
  have hA : ∀ q : Nat, s.heap.size ≤ q → A q := fun q h => by rw [← hAe]; exact Or.inr h
  have hS : va_S A s.heap s.heap [] := va_S.rf
  have hl := lv_entry ([.ref x, .int p0, .int p1]) (n := 4) (Nat.le_of_ble_eq_true rfl)
  rw [lg_entry_eq]
  generalize (lg_sl ([.ref x, .int p0, .int p1]) ++ List.replicate (4 - (lg_sl ([.ref x, .int p0, .int p1])).length) Slot.unset).toArray = ls at hl ⊢
  have hl : lv_has ls 4 [(0, .ref x), (1, .int p0), (2, .int p1)] := hl
  refine lv_aload_n hx hb dX9_cut_0 rfl (lv_at hl 0 rfl) ?_
  refine lv_iload_n hx hb dX9_cut_1 rfl (lv_at hl 1 rfl) ?_
  refine x_i (wr := ([] : va_W)) (va_runV (As := [.int p0]) (rest := []) ⟨hx, hb, hml, hown, hw⟩ (kX9_isLog l D k x u p0 s.heap.size) (cwV 1 hw (gV wd_872 wd_873 wd_874 wd_2 wd_875) rfl rfl rfl (by decide +kernel) ⟨Nat.le_of_ble_eq_true rfl, Nat.le_of_ble_eq_true rfl⟩) (pre_V (ci := 9) (r := (RX9, TX9, 12)) hK hE hP hD [0, 1, 2, 3, 4, 5] (by decide) rfl rfl (q0 := 0) rfl) rfl rfl hl.1 rfl (lv_room (Nat.le_of_ble_eq_true rfl)) dX9_cut_2 ⟨Nat.le_of_ble_eq_true rfl, Nat.le_of_ble_eq_true rfl⟩) hP hD hS hA [0, 1, 2, 3, 4, 5] [] rfl rfl (by decide) (by decide) (fun r_3 u_1 H locs hp_2 hP hD hS => ?_)
  subst hp_2
  have hP : va_P D vwCl (C9 k x u) H := hP
  have hD : va_D A (C9 k x u) := hD
  refine lv_if_eq (tgt := 28) hx hb dX9_cut_5 (by decide) (fun _ => ?_) (fun h => absurd (by decide) h)
  refine lv_bipush (v := (-2)) hx hb dX9_cut_28 (by decide) ?_
  refine W.widen (k := 0) (n := 0) (Nat.le_of_ble_eq_true rfl) (Nat.le_of_ble_eq_true rfl) ?_
  have hP9 : va_P D vwCl ((fun _ => ([] : va_W)) ()) H := hP.sub [] rfl
  have hD9 : va_D A ((fun _ => ([] : va_W)) ()) := hD.sub [] (by decide) rfl
  exact W.iret (v := (-2)) hx hb hr (fun t ht hW => ⟨⟨(-2), (), rfl, rfl, by rw [ht]; exact hP9, hD9⟩, hS.F ht⟩) hS.2.2 dX9_cut_30

set_option maxHeartbeats 4000000 in
set_option maxRecDepth 100000 in
theorem kX9_cutOver (l : Launch) (D : va_G) (k : Nat → ClassId) (x : Nat) (u : Nat → Nat → Nat) (p0 : Int32) (p1 : Int32) (p2 : Int32) (sz : Nat) : Met l yX9_cutOver (wB yX9_cutOver cX9_cutOver 5 (some .int)) ({ frames := 1, cells := 0, slots := 0, locals := 21 }) (va_Pc [.ref x, .int p0, .int p1, .int p2] (PRE D k (C9 k x u) sz)) (va_Qi (S := Unit) (fun r _ => r = (-2)) (fun u t => PO D (va_A (C9 k x u) sz) ((fun _ => ([] : va_W)) u) t) (va_A (C9 k x u) sz)) 0 0 (va_A (C9 k x u) sz) := by
  refine Met.ofW (cc := cX9_cutOver) (maxL := 5) (ret := (some .int)) (by decide) rfl ?_
  intro p e s m args below meth c s₁ B hml hv
  obtain ⟨rfl, hsz, hP, hK, hD0, hE⟩ := hv
  have hx := B.exec
  have hb := B.bytes
  have hr := B.returns
  have hw : ∀ w ∈ wsL_law, w.before _ s = true := fun w h => atoms_spec (ws := wB yX9_cutOver cX9_cutOver 5 (some .int)) B.pre w (List.mem_cons_of_mem _ h)
  have hown : s.vm.findClass RX9 = some m.cls := findClass_of_methodNamed B.named
  have hlocks := B.notSynchronized
  subst hsz
  have hD := hD0.self (sz := s.heap.size)
  generalize hAe : va_A (C9 k x u) s.heap.size = A at hD ⊢
  have hA : ∀ q : Nat, s.heap.size ≤ q → A q := fun q h => by rw [← hAe]; exact Or.inr h
  have hS : va_S A s.heap s.heap [] := va_S.rf
  have hl := lv_entry ([.ref x, .int p0, .int p1, .int p2]) (n := 5) (Nat.le_of_ble_eq_true rfl)
  rw [lg_entry_eq]
  generalize (lg_sl ([.ref x, .int p0, .int p1, .int p2]) ++ List.replicate (5 - (lg_sl ([.ref x, .int p0, .int p1, .int p2])).length) Slot.unset).toArray = ls at hl ⊢
  have hl : lv_has ls 5 [(0, .ref x), (1, .int p0), (2, .int p1), (3, .int p2)] := hl
  refine lv_aload_n hx hb dX9_cutOver_0 rfl (lv_at hl 0 rfl) ?_
  refine lv_iload_n hx hb dX9_cutOver_1 rfl (lv_at hl 1 rfl) ?_
  refine x_i (wr := ([] : va_W)) (va_runV (As := [.int p0]) (rest := []) ⟨hx, hb, hml, hown, hw⟩ (kX9_isLog l D k x u p0 s.heap.size) (cwV 1 hw (gV wd_872 wd_873 wd_874 wd_2 wd_875) rfl rfl rfl (by decide +kernel) ⟨Nat.le_of_ble_eq_true rfl, Nat.le_of_ble_eq_true rfl⟩) (pre_V (ci := 9) (r := (RX9, TX9, 12)) hK hE hP hD [0, 1, 2, 3, 4, 5] (by decide) rfl rfl (q0 := 0) rfl) rfl rfl hl.1 rfl (lv_room (Nat.le_of_ble_eq_true rfl)) dX9_cutOver_2 ⟨Nat.le_of_ble_eq_true rfl, Nat.le_of_ble_eq_true rfl⟩) hP hD hS hA [0, 1, 2, 3, 4, 5] [] rfl rfl (by decide) (by decide) (fun r_3 u_1 H locs hp_2 hP hD hS => ?_)
  subst hp_2
  have hP : va_P D vwCl (C9 k x u) H := hP
  have hD : va_D A (C9 k x u) := hD
  refine lv_if_eq (tgt := 28) hx hb dX9_cutOver_5 (by decide) (fun _ => ?_) (fun h => absurd (by decide) h)
  refine lv_bipush (v := (-2)) hx hb dX9_cutOver_28 (by decide) ?_
  refine W.widen (k := 0) (n := 0) (Nat.le_of_ble_eq_true rfl) (Nat.le_of_ble_eq_true rfl) ?_
  have hP9 : va_P D vwCl ((fun _ => ([] : va_W)) ()) H := hP.sub [] rfl
  have hD9 : va_D A ((fun _ => ([] : va_W)) ()) := hD.sub [] (by decide) rfl
  exact W.iret (v := (-2)) hx hb hr (fun t ht hW => ⟨⟨(-2), (), rfl, rfl, by rw [ht]; exact hP9, hD9⟩, hS.F ht⟩) hS.2.2 dX9_cutOver_30

set_option maxHeartbeats 4000000 in
set_option maxRecDepth 100000 in
theorem kX9_undo (l : Launch) (D : va_G) (k : Nat → ClassId) (x : Nat) (u : Nat → Nat → Nat) (sz : Nat) : Met l yX9_undo (wB yX9_undo cX9_undo 6 (some .int)) ({ frames := 0, cells := 0, slots := 0, locals := 0 }) (va_Pc [.ref x] (PRE D k (C9 k x u) sz)) (va_Qi (S := Unit) (fun r _ => r = (-2)) (fun u t => PO D (va_A (C9 k x u) sz) ((fun _ => ([] : va_W)) u) t) (va_A (C9 k x u) sz)) 0 0 (va_A (C9 k x u) sz) := by
  refine Met.ofW (cc := cX9_undo) (maxL := 6) (ret := (some .int)) (by decide) rfl ?_
  intro p e s m args below meth c s₁ B hml hv
  obtain ⟨rfl, hsz, hP, hK, hD0, hE⟩ := hv
  have hx := B.exec
  have hb := B.bytes
  have hr := B.returns
  have hw : ∀ w ∈ wsL_law, w.before _ s = true := fun w h => atoms_spec (ws := wB yX9_undo cX9_undo 6 (some .int)) B.pre w (List.mem_cons_of_mem _ h)
  have hown : s.vm.findClass RX9 = some m.cls := findClass_of_methodNamed B.named
  have hlocks := B.notSynchronized
  subst hsz
  have hD := hD0.self (sz := s.heap.size)
  generalize hAe : va_A (C9 k x u) s.heap.size = A at hD ⊢
  have hA : ∀ q : Nat, s.heap.size ≤ q → A q := fun q h => by rw [← hAe]; exact Or.inr h
  have hS : va_S A s.heap s.heap [] := va_S.rf
  have hl := lv_entry ([.ref x]) (n := 6) (Nat.le_of_ble_eq_true rfl)
  rw [lg_entry_eq]
  generalize (lg_sl ([.ref x]) ++ List.replicate (6 - (lg_sl ([.ref x])).length) Slot.unset).toArray = ls at hl ⊢
  have hl : lv_has ls 6 [(0, .ref x)] := hl
  refine lv_aload_n hx hb dX9_undo_0 rfl (lv_at hl 0 rfl) ?_
  refine va_get (D := D) (ci := 9) (v := .ref (u 0 4)) (C := RX9) (T := TX9) (N := 12) hx hb hw inlX9 hown hK hP 0 rfl rfl 5 (by decide) (hw _ wd_34) (fun _ h9 => h9) rfl dX9_undo_1 ?_
  refine va_get (D := D) (ci := 8) (v := .ref (u 5 10)) (C := RX8) (T := TX8) (N := 9) hx hb hw inlX8 hown hK hP 1 rfl rfl 2 (by decide) (hw _ wd_231) (fun _ h9 => h9) rfl dX9_undo_4 ?_
  refine lv_astore_n (lv' := [(1, .ref (u 5 10)), (0, .ref x)]) hx hb dX9_undo_7 rfl hl (by decide) rfl (fun ls hl => ?_)
  refine lv_aload_n hx hb dX9_undo_8 rfl (lv_at hl 0 rfl) ?_
  refine va_get (D := D) (ci := 0) (v := .int 0) (C := RX0) (T := TX0) (N := 17) hx hb hw inlX0 hown hK hP 4 rfl rfl 11 (by decide) (hw _ wd_958) (fun _ h9 => h9) rfl dX9_undo_9 ?_
  refine lv_iconst (v := 1) hx hb dX9_undo_12 (by decide) ?_
  refine lv_isub hx hb dX9_undo_13 ?_
  refine x_top (v := (-1)) (by decide) ?_
  refine lv_istore_n (lv' := [(2, .int (-1)), (1, .ref (u 5 10)), (0, .ref x)]) hx hb dX9_undo_14 rfl hl (by decide) rfl (fun ls hl => ?_)
  refine lv_iload_n hx hb dX9_undo_15 rfl (lv_at hl 0 rfl) ?_
  refine lv_if_ge (tgt := 22) hx hb dX9_undo_16 (by decide) (fun h => absurd h (by decide)) (fun _ => ?_)
  refine lv_bipush (v := (-2)) hx hb dX9_undo_19 (by decide) ?_
  refine W.widen (k := 0) (n := 0) (Nat.le_of_ble_eq_true rfl) (Nat.le_of_ble_eq_true rfl) ?_
  have hP9 : va_P D vwCl ((fun _ => ([] : va_W)) ()) s.heap := hP.sub [] rfl
  have hD9 : va_D A ((fun _ => ([] : va_W)) ()) := hD.sub [] (by decide) rfl
  exact W.iret (v := (-2)) hx hb hr (fun t ht hW => ⟨⟨(-2), (), rfl, rfl, by rw [ht]; exact hP9, hD9⟩, hS.F ht⟩) hS.2.2 dX9_undo_21

set_option maxHeartbeats 4000000 in
set_option maxRecDepth 100000 in
theorem kX9_launch (l : Launch) (D : va_G) (k : Nat → ClassId) (x : Nat) (u : Nat → Nat → Nat) (p0 : Int32) (sz : Nat) : Met l yX9_launch (wB yX9_launch cX9_launch 3 (some .int)) ({ frames := 1, cells := 0, slots := 0, locals := 21 }) (va_Pc [.ref x, .int p0] (PRE D k (C9 k x u) sz)) (va_Qi (S := Unit) (fun r _ => r = (-2)) (fun u t => PO D (va_A (C9 k x u) sz) ((fun _ => ([] : va_W)) u) t) (va_A (C9 k x u) sz)) 0 0 (va_A (C9 k x u) sz) := by
  refine Met.ofW (cc := cX9_launch) (maxL := 3) (ret := (some .int)) (by decide) rfl ?_
  intro p e s m args below meth c s₁ B hml hv
  obtain ⟨rfl, hsz, hP, hK, hD0, hE⟩ := hv
  have hx := B.exec
  have hb := B.bytes
  have hr := B.returns
  have hw : ∀ w ∈ wsL_law, w.before _ s = true := fun w h => atoms_spec (ws := wB yX9_launch cX9_launch 3 (some .int)) B.pre w (List.mem_cons_of_mem _ h)
  have hown : s.vm.findClass RX9 = some m.cls := findClass_of_methodNamed B.named
  have hlocks := B.notSynchronized
  subst hsz
  have hD := hD0.self (sz := s.heap.size)
  generalize hAe : va_A (C9 k x u) s.heap.size = A at hD ⊢
  have hA : ∀ q : Nat, s.heap.size ≤ q → A q := fun q h => by rw [← hAe]; exact Or.inr h
  have hS : va_S A s.heap s.heap [] := va_S.rf
  have hl := lv_entry ([.ref x, .int p0]) (n := 3) (Nat.le_of_ble_eq_true rfl)
  rw [lg_entry_eq]
  generalize (lg_sl ([.ref x, .int p0]) ++ List.replicate (3 - (lg_sl ([.ref x, .int p0])).length) Slot.unset).toArray = ls at hl ⊢
  have hl : lv_has ls 3 [(0, .ref x), (1, .int p0)] := hl
  refine lv_aload_n hx hb dX9_launch_0 rfl (lv_at hl 0 rfl) ?_
  refine lv_iload_n hx hb dX9_launch_1 rfl (lv_at hl 1 rfl) ?_
  refine x_i (wr := ([] : va_W)) (va_runV (As := [.int p0]) (rest := []) ⟨hx, hb, hml, hown, hw⟩ (kX9_isLog l D k x u p0 s.heap.size) (cwV 1 hw (gV wd_872 wd_873 wd_874 wd_2 wd_875) rfl rfl rfl (by decide +kernel) ⟨Nat.le_of_ble_eq_true rfl, Nat.le_of_ble_eq_true rfl⟩) (pre_V (ci := 9) (r := (RX9, TX9, 12)) hK hE hP hD [0, 1, 2, 3, 4, 5] (by decide) rfl rfl (q0 := 0) rfl) rfl rfl hl.1 rfl (lv_room (Nat.le_of_ble_eq_true rfl)) dX9_launch_2 ⟨Nat.le_of_ble_eq_true rfl, Nat.le_of_ble_eq_true rfl⟩) hP hD hS hA [0, 1, 2, 3, 4, 5] [] rfl rfl (by decide) (by decide) (fun r_3 u_1 H locs hp_2 hP hD hS => ?_)
  subst hp_2
  have hP : va_P D vwCl (C9 k x u) H := hP
  have hD : va_D A (C9 k x u) := hD
  refine lv_if_eq (tgt := 22) hx hb dX9_launch_5 (by decide) (fun _ => ?_) (fun h => absurd (by decide) h)
  refine lv_bipush (v := (-2)) hx hb dX9_launch_22 (by decide) ?_
  refine W.widen (k := 0) (n := 0) (Nat.le_of_ble_eq_true rfl) (Nat.le_of_ble_eq_true rfl) ?_
  have hP9 : va_P D vwCl ((fun _ => ([] : va_W)) ()) H := hP.sub [] rfl
  have hD9 : va_D A ((fun _ => ([] : va_W)) ()) := hD.sub [] (by decide) rfl
  exact W.iret (v := (-2)) hx hb hr (fun t ht hW => ⟨⟨(-2), (), rfl, rfl, by rw [ht]; exact hP9, hD9⟩, hS.F ht⟩) hS.2.2 dX9_launch_24

set_option maxHeartbeats 4000000 in
set_option maxRecDepth 100000 in
theorem kX9_land (l : Launch) (D : va_G) (k : Nat → ClassId) (x : Nat) (u : Nat → Nat → Nat) (p0 : Int32) (p1 : Int32) (sz : Nat) : Met l yX9_land (wB yX9_land cX9_land 3 (some .boolean)) ({ frames := 1, cells := 0, slots := 0, locals := 21 }) (va_Pc [.ref x, .int p0, .int p1] (PRE D k (C9 k x u) sz)) (va_Qi (S := Unit) (fun r _ => r = 0) (fun u t => PO D (va_A (C9 k x u) sz) ((fun _ => ([] : va_W)) u) t) (va_A (C9 k x u) sz)) 0 0 (va_A (C9 k x u) sz) := by
  refine Met.ofW (cc := cX9_land) (maxL := 3) (ret := (some .boolean)) (by decide) rfl ?_
  intro p e s m args below meth c s₁ B hml hv
  obtain ⟨rfl, hsz, hP, hK, hD0, hE⟩ := hv
  have hx := B.exec
  have hb := B.bytes
  have hr := B.returns
  have hw : ∀ w ∈ wsL_law, w.before _ s = true := fun w h => atoms_spec (ws := wB yX9_land cX9_land 3 (some .boolean)) B.pre w (List.mem_cons_of_mem _ h)
  have hown : s.vm.findClass RX9 = some m.cls := findClass_of_methodNamed B.named
  have hlocks := B.notSynchronized
  subst hsz
  have hD := hD0.self (sz := s.heap.size)
  generalize hAe : va_A (C9 k x u) s.heap.size = A at hD ⊢
  have hA : ∀ q : Nat, s.heap.size ≤ q → A q := fun q h => by rw [← hAe]; exact Or.inr h
  have hS : va_S A s.heap s.heap [] := va_S.rf
  have hl := lv_entry ([.ref x, .int p0, .int p1]) (n := 3) (Nat.le_of_ble_eq_true rfl)
  rw [lg_entry_eq]
  generalize (lg_sl ([.ref x, .int p0, .int p1]) ++ List.replicate (3 - (lg_sl ([.ref x, .int p0, .int p1])).length) Slot.unset).toArray = ls at hl ⊢
  have hl : lv_has ls 3 [(0, .ref x), (1, .int p0), (2, .int p1)] := hl
  refine lv_aload_n hx hb dX9_land_0 rfl (lv_at hl 0 rfl) ?_
  refine lv_iload_n hx hb dX9_land_1 rfl (lv_at hl 1 rfl) ?_
  refine x_i (wr := ([] : va_W)) (va_runV (As := [.int p0]) (rest := []) ⟨hx, hb, hml, hown, hw⟩ (kX9_isLog l D k x u p0 s.heap.size) (cwV 1 hw (gV wd_872 wd_873 wd_874 wd_2 wd_875) rfl rfl rfl (by decide +kernel) ⟨Nat.le_of_ble_eq_true rfl, Nat.le_of_ble_eq_true rfl⟩) (pre_V (ci := 9) (r := (RX9, TX9, 12)) hK hE hP hD [0, 1, 2, 3, 4, 5] (by decide) rfl rfl (q0 := 0) rfl) rfl rfl hl.1 rfl (lv_room (Nat.le_of_ble_eq_true rfl)) dX9_land_2 ⟨Nat.le_of_ble_eq_true rfl, Nat.le_of_ble_eq_true rfl⟩) hP hD hS hA [0, 1, 2, 3, 4, 5] [] rfl rfl (by decide) (by decide) (fun r_3 u_1 H locs hp_2 hP hD hS => ?_)
  subst hp_2
  have hP : va_P D vwCl (C9 k x u) H := hP
  have hD : va_D A (C9 k x u) := hD
  refine lv_if_eq (tgt := 43) hx hb dX9_land_5 (by decide) (fun _ => ?_) (fun h => absurd (by decide) h)
  refine lv_iconst (v := 0) hx hb dX9_land_43 (by decide) ?_
  refine W.widen (k := 0) (n := 0) (Nat.le_of_ble_eq_true rfl) (Nat.le_of_ble_eq_true rfl) ?_
  have hP9 : va_P D vwCl ((fun _ => ([] : va_W)) ()) H := hP.sub [] rfl
  have hD9 : va_D A ((fun _ => ([] : va_W)) ()) := hD.sub [] (by decide) rfl
  exact W.zret (v := 0) (ty := .boolean) hx hb hr rfl (fun t ht hW => ⟨⟨0, (), rfl, rfl, by rw [ht]; exact hP9, hD9⟩, hS.F ht⟩) hS.2.2 dX9_land_44

set_option maxHeartbeats 4000000 in
set_option maxRecDepth 100000 in
theorem kX9_burn (l : Launch) (D : va_G) (k : Nat → ClassId) (x : Nat) (u : Nat → Nat → Nat) (p0 : Int32) (sz : Nat) : Met l yX9_burn (wB yX9_burn cX9_burn 3 (some .int)) ({ frames := 1, cells := 0, slots := 0, locals := 21 }) (va_Pc [.ref x, .int p0] (PRE D k (C9 k x u) sz)) (va_Qi (S := Unit) (fun r _ => r = (-2)) (fun u t => PO D (va_A (C9 k x u) sz) ((fun _ => ([] : va_W)) u) t) (va_A (C9 k x u) sz)) 0 0 (va_A (C9 k x u) sz) := by
  refine Met.ofW (cc := cX9_burn) (maxL := 3) (ret := (some .int)) (by decide) rfl ?_
  intro p e s m args below meth c s₁ B hml hv
  obtain ⟨rfl, hsz, hP, hK, hD0, hE⟩ := hv
  have hx := B.exec
  have hb := B.bytes
  have hr := B.returns
  have hw : ∀ w ∈ wsL_law, w.before _ s = true := fun w h => atoms_spec (ws := wB yX9_burn cX9_burn 3 (some .int)) B.pre w (List.mem_cons_of_mem _ h)
  have hown : s.vm.findClass RX9 = some m.cls := findClass_of_methodNamed B.named
  have hlocks := B.notSynchronized
  subst hsz
  have hD := hD0.self (sz := s.heap.size)
  generalize hAe : va_A (C9 k x u) s.heap.size = A at hD ⊢
  have hA : ∀ q : Nat, s.heap.size ≤ q → A q := fun q h => by rw [← hAe]; exact Or.inr h
  have hS : va_S A s.heap s.heap [] := va_S.rf
  have hl := lv_entry ([.ref x, .int p0]) (n := 3) (Nat.le_of_ble_eq_true rfl)
  rw [lg_entry_eq]
  generalize (lg_sl ([.ref x, .int p0]) ++ List.replicate (3 - (lg_sl ([.ref x, .int p0])).length) Slot.unset).toArray = ls at hl ⊢
  have hl : lv_has ls 3 [(0, .ref x), (1, .int p0)] := hl
  refine lv_aload_n hx hb dX9_burn_0 rfl (lv_at hl 0 rfl) ?_
  refine lv_iload_n hx hb dX9_burn_1 rfl (lv_at hl 1 rfl) ?_
  refine x_i (wr := ([] : va_W)) (va_runV (As := [.int p0]) (rest := []) ⟨hx, hb, hml, hown, hw⟩ (kX9_isLog l D k x u p0 s.heap.size) (cwV 1 hw (gV wd_872 wd_873 wd_874 wd_2 wd_875) rfl rfl rfl (by decide +kernel) ⟨Nat.le_of_ble_eq_true rfl, Nat.le_of_ble_eq_true rfl⟩) (pre_V (ci := 9) (r := (RX9, TX9, 12)) hK hE hP hD [0, 1, 2, 3, 4, 5] (by decide) rfl rfl (q0 := 0) rfl) rfl rfl hl.1 rfl (lv_room (Nat.le_of_ble_eq_true rfl)) dX9_burn_2 ⟨Nat.le_of_ble_eq_true rfl, Nat.le_of_ble_eq_true rfl⟩) hP hD hS hA [0, 1, 2, 3, 4, 5] [] rfl rfl (by decide) (by decide) (fun r_3 u_1 H locs hp_2 hP hD hS => ?_)
  subst hp_2
  have hP : va_P D vwCl (C9 k x u) H := hP
  have hD : va_D A (C9 k x u) := hD
  refine lv_if_eq (tgt := 22) hx hb dX9_burn_5 (by decide) (fun _ => ?_) (fun h => absurd (by decide) h)
  refine lv_bipush (v := (-2)) hx hb dX9_burn_22 (by decide) ?_
  refine W.widen (k := 0) (n := 0) (Nat.le_of_ble_eq_true rfl) (Nat.le_of_ble_eq_true rfl) ?_
  have hP9 : va_P D vwCl ((fun _ => ([] : va_W)) ()) H := hP.sub [] rfl
  have hD9 : va_D A ((fun _ => ([] : va_W)) ()) := hD.sub [] (by decide) rfl
  exact W.iret (v := (-2)) hx hb hr (fun t ht hW => ⟨⟨(-2), (), rfl, rfl, by rw [ht]; exact hP9, hD9⟩, hS.F ht⟩) hS.2.2 dX9_burn_24

set_option maxHeartbeats 4000000 in
set_option maxRecDepth 100000 in
theorem kX9_saw (l : Launch) (D : va_G) (k : Nat → ClassId) (x : Nat) (u : Nat → Nat → Nat) (p0 : Int32) (p1 : Int32) (sz : Nat) : Met l yX9_saw (wB yX9_saw cX9_saw 3 (some .int)) ({ frames := 1, cells := 0, slots := 0, locals := 21 }) (va_Pc [.ref x, .int p0, .int p1] (PRE D k (C9 k x u) sz)) (va_Qi (S := Unit) (fun r _ => r = (-2)) (fun u t => PO D (va_A (C9 k x u) sz) ((fun _ => ([] : va_W)) u) t) (va_A (C9 k x u) sz)) 0 0 (va_A (C9 k x u) sz) := by
  refine Met.ofW (cc := cX9_saw) (maxL := 3) (ret := (some .int)) (by decide) rfl ?_
  intro p e s m args below meth c s₁ B hml hv
  obtain ⟨rfl, hsz, hP, hK, hD0, hE⟩ := hv
  have hx := B.exec
  have hb := B.bytes
  have hr := B.returns
  have hw : ∀ w ∈ wsL_law, w.before _ s = true := fun w h => atoms_spec (ws := wB yX9_saw cX9_saw 3 (some .int)) B.pre w (List.mem_cons_of_mem _ h)
  have hown : s.vm.findClass RX9 = some m.cls := findClass_of_methodNamed B.named
  have hlocks := B.notSynchronized
  subst hsz
  have hD := hD0.self (sz := s.heap.size)
  generalize hAe : va_A (C9 k x u) s.heap.size = A at hD ⊢
  have hA : ∀ q : Nat, s.heap.size ≤ q → A q := fun q h => by rw [← hAe]; exact Or.inr h
  have hS : va_S A s.heap s.heap [] := va_S.rf
  have hl := lv_entry ([.ref x, .int p0, .int p1]) (n := 3) (Nat.le_of_ble_eq_true rfl)
  rw [lg_entry_eq]
  generalize (lg_sl ([.ref x, .int p0, .int p1]) ++ List.replicate (3 - (lg_sl ([.ref x, .int p0, .int p1])).length) Slot.unset).toArray = ls at hl ⊢
  have hl : lv_has ls 3 [(0, .ref x), (1, .int p0), (2, .int p1)] := hl
  refine lv_aload_n hx hb dX9_saw_0 rfl (lv_at hl 0 rfl) ?_
  refine lv_iload_n hx hb dX9_saw_1 rfl (lv_at hl 1 rfl) ?_
  refine x_i (wr := ([] : va_W)) (va_runV (As := [.int p0]) (rest := []) ⟨hx, hb, hml, hown, hw⟩ (kX9_isLog l D k x u p0 s.heap.size) (cwV 1 hw (gV wd_872 wd_873 wd_874 wd_2 wd_875) rfl rfl rfl (by decide +kernel) ⟨Nat.le_of_ble_eq_true rfl, Nat.le_of_ble_eq_true rfl⟩) (pre_V (ci := 9) (r := (RX9, TX9, 12)) hK hE hP hD [0, 1, 2, 3, 4, 5] (by decide) rfl rfl (q0 := 0) rfl) rfl rfl hl.1 rfl (lv_room (Nat.le_of_ble_eq_true rfl)) dX9_saw_2 ⟨Nat.le_of_ble_eq_true rfl, Nat.le_of_ble_eq_true rfl⟩) hP hD hS hA [0, 1, 2, 3, 4, 5] [] rfl rfl (by decide) (by decide) (fun r_3 u_1 H locs hp_2 hP hD hS => ?_)
  subst hp_2
  have hP : va_P D vwCl (C9 k x u) H := hP
  have hD : va_D A (C9 k x u) := hD
  refine lv_if_eq (tgt := 43) hx hb dX9_saw_5 (by decide) (fun _ => ?_) (fun h => absurd (by decide) h)
  refine lv_bipush (v := (-2)) hx hb dX9_saw_43 (by decide) ?_
  refine W.widen (k := 0) (n := 0) (Nat.le_of_ble_eq_true rfl) (Nat.le_of_ble_eq_true rfl) ?_
  have hP9 : va_P D vwCl ((fun _ => ([] : va_W)) ()) H := hP.sub [] rfl
  have hD9 : va_D A ((fun _ => ([] : va_W)) ()) := hD.sub [] (by decide) rfl
  exact W.iret (v := (-2)) hx hb hr (fun t ht hW => ⟨⟨(-2), (), rfl, rfl, by rw [ht]; exact hP9, hD9⟩, hS.F ht⟩) hS.2.2 dX9_saw_45

set_option maxHeartbeats 4000000 in
set_option maxRecDepth 100000 in
theorem kX9_ahead (l : Launch) (D : va_G) (k : Nat → ClassId) (x : Nat) (u : Nat → Nat → Nat) (p0 : Int32) (p1 : Int32) (sz : Nat) : Met l yX9_ahead (wB yX9_ahead cX9_ahead 6 (some .int)) ({ frames := 1, cells := 0, slots := 0, locals := 21 }) (va_Pc [.ref x, .int p0, .int p1] (PRE D k (C9 k x u) sz)) (va_Qi (S := Unit) (fun r _ => r = (-2)) (fun u t => PO D (va_A (C9 k x u) sz) ((fun _ => ([] : va_W)) u) t) (va_A (C9 k x u) sz)) 0 0 (va_A (C9 k x u) sz) := by
  refine Met.ofW (cc := cX9_ahead) (maxL := 6) (ret := (some .int)) (by decide) rfl ?_
  intro p e s m args below meth c s₁ B hml hv
  obtain ⟨rfl, hsz, hP, hK, hD0, hE⟩ := hv
  have hx := B.exec
  have hb := B.bytes
  have hr := B.returns
  have hw : ∀ w ∈ wsL_law, w.before _ s = true := fun w h => atoms_spec (ws := wB yX9_ahead cX9_ahead 6 (some .int)) B.pre w (List.mem_cons_of_mem _ h)
  have hown : s.vm.findClass RX9 = some m.cls := findClass_of_methodNamed B.named
  have hlocks := B.notSynchronized
  subst hsz
  have hD := hD0.self (sz := s.heap.size)
  generalize hAe : va_A (C9 k x u) s.heap.size = A at hD ⊢
  have hA : ∀ q : Nat, s.heap.size ≤ q → A q := fun q h => by rw [← hAe]; exact Or.inr h
  have hS : va_S A s.heap s.heap [] := va_S.rf
  have hl := lv_entry ([.ref x, .int p0, .int p1]) (n := 6) (Nat.le_of_ble_eq_true rfl)
  rw [lg_entry_eq]
  generalize (lg_sl ([.ref x, .int p0, .int p1]) ++ List.replicate (6 - (lg_sl ([.ref x, .int p0, .int p1])).length) Slot.unset).toArray = ls at hl ⊢
  have hl : lv_has ls 6 [(0, .ref x), (1, .int p0), (2, .int p1)] := hl
  refine lv_aload_n hx hb dX9_ahead_0 rfl (lv_at hl 0 rfl) ?_
  refine lv_iload_n hx hb dX9_ahead_1 rfl (lv_at hl 1 rfl) ?_
  refine x_i (wr := ([] : va_W)) (va_runV (As := [.int p0]) (rest := []) ⟨hx, hb, hml, hown, hw⟩ (kX9_isLog l D k x u p0 s.heap.size) (cwV 1 hw (gV wd_872 wd_873 wd_874 wd_2 wd_875) rfl rfl rfl (by decide +kernel) ⟨Nat.le_of_ble_eq_true rfl, Nat.le_of_ble_eq_true rfl⟩) (pre_V (ci := 9) (r := (RX9, TX9, 12)) hK hE hP hD [0, 1, 2, 3, 4, 5] (by decide) rfl rfl (q0 := 0) rfl) rfl rfl hl.1 rfl (lv_room (Nat.le_of_ble_eq_true rfl)) dX9_ahead_2 ⟨Nat.le_of_ble_eq_true rfl, Nat.le_of_ble_eq_true rfl⟩) hP hD hS hA [0, 1, 2, 3, 4, 5] [] rfl rfl (by decide) (by decide) (fun r_3 u_1 H locs hp_2 hP hD hS => ?_)
  subst hp_2
  have hP : va_P D vwCl (C9 k x u) H := hP
  have hD : va_D A (C9 k x u) := hD
  refine lv_if_eq (tgt := 16) hx hb dX9_ahead_5 (by decide) (fun _ => ?_) (fun h => absurd (by decide) h)
  refine lv_bipush (v := (-2)) hx hb dX9_ahead_16 (by decide) ?_
  refine W.widen (k := 0) (n := 0) (Nat.le_of_ble_eq_true rfl) (Nat.le_of_ble_eq_true rfl) ?_
  have hP9 : va_P D vwCl ((fun _ => ([] : va_W)) ()) H := hP.sub [] rfl
  have hD9 : va_D A ((fun _ => ([] : va_W)) ()) := hD.sub [] (by decide) rfl
  exact W.iret (v := (-2)) hx hb hr (fun t ht hW => ⟨⟨(-2), (), rfl, rfl, by rw [ht]; exact hP9, hD9⟩, hS.F ht⟩) hS.2.2 dX9_ahead_18

set_option maxHeartbeats 4000000 in
set_option maxRecDepth 100000 in
theorem kX9_dam (l : Launch) (D : va_G) (k : Nat → ClassId) (x : Nat) (u : Nat → Nat → Nat) (p0 : Int32) (sz : Nat) : Met l yX9_dam (wB yX9_dam cX9_dam 2 (some .int)) ({ frames := 1, cells := 0, slots := 0, locals := 21 }) (va_Pc [.ref x, .int p0] (PRE D k (C9 k x u) sz)) (va_Qi (S := Unit) (fun r _ => r = (-2)) (fun u t => PO D (va_A (C9 k x u) sz) ((fun _ => ([] : va_W)) u) t) (va_A (C9 k x u) sz)) 0 0 (va_A (C9 k x u) sz) := by
  refine Met.ofW (cc := cX9_dam) (maxL := 2) (ret := (some .int)) (by decide) rfl ?_
  intro p e s m args below meth c s₁ B hml hv
  obtain ⟨rfl, hsz, hP, hK, hD0, hE⟩ := hv
  have hx := B.exec
  have hb := B.bytes
  have hr := B.returns
  have hw : ∀ w ∈ wsL_law, w.before _ s = true := fun w h => atoms_spec (ws := wB yX9_dam cX9_dam 2 (some .int)) B.pre w (List.mem_cons_of_mem _ h)
  have hown : s.vm.findClass RX9 = some m.cls := findClass_of_methodNamed B.named
  have hlocks := B.notSynchronized
  subst hsz
  have hD := hD0.self (sz := s.heap.size)
  generalize hAe : va_A (C9 k x u) s.heap.size = A at hD ⊢
  have hA : ∀ q : Nat, s.heap.size ≤ q → A q := fun q h => by rw [← hAe]; exact Or.inr h
  have hS : va_S A s.heap s.heap [] := va_S.rf
  have hl := lv_entry ([.ref x, .int p0]) (n := 2) (Nat.le_of_ble_eq_true rfl)
  rw [lg_entry_eq]
  generalize (lg_sl ([.ref x, .int p0]) ++ List.replicate (2 - (lg_sl ([.ref x, .int p0])).length) Slot.unset).toArray = ls at hl ⊢
  have hl : lv_has ls 2 [(0, .ref x), (1, .int p0)] := hl
  refine lv_aload_n hx hb dX9_dam_0 rfl (lv_at hl 0 rfl) ?_
  refine lv_iload_n hx hb dX9_dam_1 rfl (lv_at hl 1 rfl) ?_
  refine x_i (wr := ([] : va_W)) (va_runV (As := [.int p0]) (rest := []) ⟨hx, hb, hml, hown, hw⟩ (kX9_isBend l D k x u p0 s.heap.size) (cwV 1 hw (gV wd_673 wd_674 wd_675 wd_2 wd_676) rfl rfl rfl (by decide +kernel) ⟨Nat.le_of_ble_eq_true rfl, Nat.le_of_ble_eq_true rfl⟩) (pre_V (ci := 9) (r := (RX9, TX9, 12)) hK hE hP hD [0, 1, 2, 3, 4, 5] (by decide) rfl rfl (q0 := 0) rfl) rfl rfl hl.1 rfl (lv_room (Nat.le_of_ble_eq_true rfl)) dX9_dam_2 ⟨Nat.le_of_ble_eq_true rfl, Nat.le_of_ble_eq_true rfl⟩) hP hD hS hA [0, 1, 2, 3, 4, 5] [] rfl rfl (by decide) (by decide) (fun r_3 u_1 H locs hp_2 hP hD hS => ?_)
  subst hp_2
  have hP : va_P D vwCl (C9 k x u) H := hP
  have hD : va_D A (C9 k x u) := hD
  refine lv_if_eq (tgt := 24) hx hb dX9_dam_5 (by decide) (fun _ => ?_) (fun h => absurd (by decide) h)
  refine lv_bipush (v := (-2)) hx hb dX9_dam_24 (by decide) ?_
  refine W.widen (k := 0) (n := 0) (Nat.le_of_ble_eq_true rfl) (Nat.le_of_ble_eq_true rfl) ?_
  have hP9 : va_P D vwCl ((fun _ => ([] : va_W)) ()) H := hP.sub [] rfl
  have hD9 : va_D A ((fun _ => ([] : va_W)) ()) := hD.sub [] (by decide) rfl
  exact W.iret (v := (-2)) hx hb hr (fun t ht hW => ⟨⟨(-2), (), rfl, rfl, by rw [ht]; exact hP9, hD9⟩, hS.F ht⟩) hS.2.2 dX9_dam_26

set_option maxHeartbeats 4000000 in
set_option maxRecDepth 100000 in
theorem kX9_appeal (l : Launch) (D : va_G) (k : Nat → ClassId) (x : Nat) (u : Nat → Nat → Nat) (p0 : Int32) (sz : Nat) : Met l yX9_appeal (wB yX9_appeal cX9_appeal 2 (some .int)) ({ frames := 1, cells := 0, slots := 0, locals := 21 }) (va_Pc [.ref x, .int p0] (PRE D k (C9 k x u) sz)) (va_Qi (S := Unit) (fun r _ => r = (-2)) (fun u t => PO D (va_A (C9 k x u) sz) ((fun _ => ([] : va_W)) u) t) (va_A (C9 k x u) sz)) 0 0 (va_A (C9 k x u) sz) := by
  refine Met.ofW (cc := cX9_appeal) (maxL := 2) (ret := (some .int)) (by decide) rfl ?_
  intro p e s m args below meth c s₁ B hml hv
  obtain ⟨rfl, hsz, hP, hK, hD0, hE⟩ := hv
  have hx := B.exec
  have hb := B.bytes
  have hr := B.returns
  have hw : ∀ w ∈ wsL_law, w.before _ s = true := fun w h => atoms_spec (ws := wB yX9_appeal cX9_appeal 2 (some .int)) B.pre w (List.mem_cons_of_mem _ h)
  have hown : s.vm.findClass RX9 = some m.cls := findClass_of_methodNamed B.named
  have hlocks := B.notSynchronized
  subst hsz
  have hD := hD0.self (sz := s.heap.size)
  generalize hAe : va_A (C9 k x u) s.heap.size = A at hD ⊢
  have hA : ∀ q : Nat, s.heap.size ≤ q → A q := fun q h => by rw [← hAe]; exact Or.inr h
  have hS : va_S A s.heap s.heap [] := va_S.rf
  have hl := lv_entry ([.ref x, .int p0]) (n := 2) (Nat.le_of_ble_eq_true rfl)
  rw [lg_entry_eq]
  generalize (lg_sl ([.ref x, .int p0]) ++ List.replicate (2 - (lg_sl ([.ref x, .int p0])).length) Slot.unset).toArray = ls at hl ⊢
  have hl : lv_has ls 2 [(0, .ref x), (1, .int p0)] := hl
  refine lv_aload_n hx hb dX9_appeal_0 rfl (lv_at hl 0 rfl) ?_
  refine lv_iload_n hx hb dX9_appeal_1 rfl (lv_at hl 1 rfl) ?_
  refine x_i (wr := ([] : va_W)) (va_runV (As := [.int p0]) (rest := []) ⟨hx, hb, hml, hown, hw⟩ (kX9_isBend l D k x u p0 s.heap.size) (cwV 1 hw (gV wd_673 wd_674 wd_675 wd_2 wd_676) rfl rfl rfl (by decide +kernel) ⟨Nat.le_of_ble_eq_true rfl, Nat.le_of_ble_eq_true rfl⟩) (pre_V (ci := 9) (r := (RX9, TX9, 12)) hK hE hP hD [0, 1, 2, 3, 4, 5] (by decide) rfl rfl (q0 := 0) rfl) rfl rfl hl.1 rfl (lv_room (Nat.le_of_ble_eq_true rfl)) dX9_appeal_2 ⟨Nat.le_of_ble_eq_true rfl, Nat.le_of_ble_eq_true rfl⟩) hP hD hS hA [0, 1, 2, 3, 4, 5] [] rfl rfl (by decide) (by decide) (fun r_3 u_1 H locs hp_2 hP hD hS => ?_)
  subst hp_2
  have hP : va_P D vwCl (C9 k x u) H := hP
  have hD : va_D A (C9 k x u) := hD
  refine lv_if_eq (tgt := 24) hx hb dX9_appeal_5 (by decide) (fun _ => ?_) (fun h => absurd (by decide) h)
  refine lv_bipush (v := (-2)) hx hb dX9_appeal_24 (by decide) ?_
  refine W.widen (k := 0) (n := 0) (Nat.le_of_ble_eq_true rfl) (Nat.le_of_ble_eq_true rfl) ?_
  have hP9 : va_P D vwCl ((fun _ => ([] : va_W)) ()) H := hP.sub [] rfl
  have hD9 : va_D A ((fun _ => ([] : va_W)) ()) := hD.sub [] (by decide) rfl
  exact W.iret (v := (-2)) hx hb hr (fun t ht hW => ⟨⟨(-2), (), rfl, rfl, by rw [ht]; exact hP9, hD9⟩, hS.F ht⟩) hS.2.2 dX9_appeal_26

set_option maxHeartbeats 4000000 in
set_option maxRecDepth 100000 in
theorem kX9_votes (l : Launch) (D : va_G) (k : Nat → ClassId) (x : Nat) (u : Nat → Nat → Nat) (p0 : Int32) (p1 : Int32) (sz : Nat) : Met l yX9_votes (wB yX9_votes cX9_votes 3 (some .int)) ({ frames := 1, cells := 0, slots := 0, locals := 21 }) (va_Pc [.ref x, .int p0, .int p1] (PRE D k (C9 k x u) sz)) (va_Qi (S := Unit) (fun r _ => r = (-1)) (fun u t => PO D (va_A (C9 k x u) sz) ((fun _ => ([] : va_W)) u) t) (va_A (C9 k x u) sz)) 0 0 (va_A (C9 k x u) sz) := by
  refine Met.ofW (cc := cX9_votes) (maxL := 3) (ret := (some .int)) (by decide) rfl ?_
  intro p e s m args below meth c s₁ B hml hv
  obtain ⟨rfl, hsz, hP, hK, hD0, hE⟩ := hv
  have hx := B.exec
  have hb := B.bytes
  have hr := B.returns
  have hw : ∀ w ∈ wsL_law, w.before _ s = true := fun w h => atoms_spec (ws := wB yX9_votes cX9_votes 3 (some .int)) B.pre w (List.mem_cons_of_mem _ h)
  have hown : s.vm.findClass RX9 = some m.cls := findClass_of_methodNamed B.named
  have hlocks := B.notSynchronized
  subst hsz
  have hD := hD0.self (sz := s.heap.size)
  generalize hAe : va_A (C9 k x u) s.heap.size = A at hD ⊢
  have hA : ∀ q : Nat, s.heap.size ≤ q → A q := fun q h => by rw [← hAe]; exact Or.inr h
  have hS : va_S A s.heap s.heap [] := va_S.rf
  have hl := lv_entry ([.ref x, .int p0, .int p1]) (n := 3) (Nat.le_of_ble_eq_true rfl)
  rw [lg_entry_eq]
  generalize (lg_sl ([.ref x, .int p0, .int p1]) ++ List.replicate (3 - (lg_sl ([.ref x, .int p0, .int p1])).length) Slot.unset).toArray = ls at hl ⊢
  have hl : lv_has ls 3 [(0, .ref x), (1, .int p0), (2, .int p1)] := hl
  refine lv_aload_n hx hb dX9_votes_0 rfl (lv_at hl 0 rfl) ?_
  refine lv_iload_n hx hb dX9_votes_1 rfl (lv_at hl 1 rfl) ?_
  refine x_i (wr := ([] : va_W)) (va_runV (As := [.int p0]) (rest := []) ⟨hx, hb, hml, hown, hw⟩ (kX9_isBend l D k x u p0 s.heap.size) (cwV 1 hw (gV wd_673 wd_674 wd_675 wd_2 wd_676) rfl rfl rfl (by decide +kernel) ⟨Nat.le_of_ble_eq_true rfl, Nat.le_of_ble_eq_true rfl⟩) (pre_V (ci := 9) (r := (RX9, TX9, 12)) hK hE hP hD [0, 1, 2, 3, 4, 5] (by decide) rfl rfl (q0 := 0) rfl) rfl rfl hl.1 rfl (lv_room (Nat.le_of_ble_eq_true rfl)) dX9_votes_2 ⟨Nat.le_of_ble_eq_true rfl, Nat.le_of_ble_eq_true rfl⟩) hP hD hS hA [0, 1, 2, 3, 4, 5] [] rfl rfl (by decide) (by decide) (fun r_3 u_1 H locs hp_2 hP hD hS => ?_)
  subst hp_2
  have hP : va_P D vwCl (C9 k x u) H := hP
  have hD : va_D A (C9 k x u) := hD
  refine lv_if_eq (tgt := 17) hx hb dX9_votes_5 (by decide) (fun _ => ?_) (fun h => absurd (by decide) h)
  refine lv_iconst (v := (-1)) hx hb dX9_votes_17 (by decide) ?_
  refine W.widen (k := 0) (n := 0) (Nat.le_of_ble_eq_true rfl) (Nat.le_of_ble_eq_true rfl) ?_
  have hP9 : va_P D vwCl ((fun _ => ([] : va_W)) ()) H := hP.sub [] rfl
  have hD9 : va_D A ((fun _ => ([] : va_W)) ()) := hD.sub [] (by decide) rfl
  exact W.iret (v := (-1)) hx hb hr (fun t ht hW => ⟨⟨(-1), (), rfl, rfl, by rw [ht]; exact hP9, hD9⟩, hS.F ht⟩) hS.2.2 dX9_votes_18

set_option maxHeartbeats 4000000 in
set_option maxRecDepth 100000 in
theorem kX9_flood (l : Launch) (D : va_G) (k : Nat → ClassId) (x : Nat) (u : Nat → Nat → Nat) (p0 : Int32) (sz : Nat) : Met l yX9_flood (wB yX9_flood cX9_flood 2 (some .int)) ({ frames := 1, cells := 0, slots := 0, locals := 20 }) (va_Pc [.ref x, .int p0] (PRE D k (C9 k x u) sz)) (va_Qi (S := Unit) (fun r _ => r = (-2)) (fun u t => PO D (va_A (C9 k x u) sz) ((fun _ => ([] : va_W)) u) t) (va_A (C9 k x u) sz)) 0 0 (va_A (C9 k x u) sz) := by
  refine Met.ofW (cc := cX9_flood) (maxL := 2) (ret := (some .int)) (by decide) rfl ?_
  intro p e s m args below meth c s₁ B hml hv
  obtain ⟨rfl, hsz, hP, hK, hD0, hE⟩ := hv
  have hx := B.exec
  have hb := B.bytes
  have hr := B.returns
  have hw : ∀ w ∈ wsL_law, w.before _ s = true := fun w h => atoms_spec (ws := wB yX9_flood cX9_flood 2 (some .int)) B.pre w (List.mem_cons_of_mem _ h)
  have hown : s.vm.findClass RX9 = some m.cls := findClass_of_methodNamed B.named
  have hlocks := B.notSynchronized
  subst hsz
  have hD := hD0.self (sz := s.heap.size)
  generalize hAe : va_A (C9 k x u) s.heap.size = A at hD ⊢
  have hA : ∀ q : Nat, s.heap.size ≤ q → A q := fun q h => by rw [← hAe]; exact Or.inr h
  have hS : va_S A s.heap s.heap [] := va_S.rf
  have hl := lv_entry ([.ref x, .int p0]) (n := 2) (Nat.le_of_ble_eq_true rfl)
  rw [lg_entry_eq]
  generalize (lg_sl ([.ref x, .int p0]) ++ List.replicate (2 - (lg_sl ([.ref x, .int p0])).length) Slot.unset).toArray = ls at hl ⊢
  have hl : lv_has ls 2 [(0, .ref x), (1, .int p0)] := hl
  refine lv_aload_n hx hb dX9_flood_0 rfl (lv_at hl 0 rfl) ?_
  refine x_i (wr := ([] : va_W)) (va_runV (As := []) (rest := []) ⟨hx, hb, hml, hown, hw⟩ (kX9_hasRiver l D k x u  s.heap.size) (cwV 0 hw (gV wd_612 wd_613 wd_614 wd_2 wd_615) rfl rfl rfl (by decide +kernel) ⟨Nat.le_of_ble_eq_true rfl, Nat.le_of_ble_eq_true rfl⟩) (pre_V (ci := 9) (r := (RX9, TX9, 12)) hK hE hP hD [0, 1, 2, 3, 4, 5] (by decide) rfl rfl (q0 := 0) rfl) rfl rfl hl.1 rfl (lv_room (Nat.le_of_ble_eq_true rfl)) dX9_flood_1 ⟨Nat.le_of_ble_eq_true rfl, Nat.le_of_ble_eq_true rfl⟩) hP hD hS hA [0, 1, 2, 3, 4, 5] [] rfl rfl (by decide) (by decide) (fun r_3 u_1 H locs hp_2 hP hD hS => ?_)
  subst hp_2
  have hP : va_P D vwCl (C9 k x u) H := hP
  have hD : va_D A (C9 k x u) := hD
  refine lv_if_eq (tgt := 17) hx hb dX9_flood_4 (by decide) (fun _ => ?_) (fun h => absurd (by decide) h)
  refine lv_bipush (v := (-2)) hx hb dX9_flood_17 (by decide) ?_
  refine W.widen (k := 0) (n := 0) (Nat.le_of_ble_eq_true rfl) (Nat.le_of_ble_eq_true rfl) ?_
  have hP9 : va_P D vwCl ((fun _ => ([] : va_W)) ()) H := hP.sub [] rfl
  have hD9 : va_D A ((fun _ => ([] : va_W)) ()) := hD.sub [] (by decide) rfl
  exact W.iret (v := (-2)) hx hb hr (fun t ht hW => ⟨⟨(-2), (), rfl, rfl, by rw [ht]; exact hP9, hD9⟩, hS.F ht⟩) hS.2.2 dX9_flood_19

set_option maxHeartbeats 4000000 in
set_option maxRecDepth 100000 in
theorem kX9_elected (l : Launch) (D : va_G) (k : Nat → ClassId) (x : Nat) (u : Nat → Nat → Nat) (p0 : Int32) (sz : Nat) : Met l yX9_elected (wB yX9_elected cX9_elected 2 (some .int)) ({ frames := 1, cells := 0, slots := 0, locals := 21 }) (va_Pc [.ref x, .int p0] (PRE D k (C9 k x u) sz)) (va_Qi (S := Unit) (fun r _ => r = (-1)) (fun u t => PO D (va_A (C9 k x u) sz) ((fun _ => ([] : va_W)) u) t) (va_A (C9 k x u) sz)) 0 0 (va_A (C9 k x u) sz) := by
  refine Met.ofW (cc := cX9_elected) (maxL := 2) (ret := (some .int)) (by decide) rfl ?_
  intro p e s m args below meth c s₁ B hml hv
  obtain ⟨rfl, hsz, hP, hK, hD0, hE⟩ := hv
  have hx := B.exec
  have hb := B.bytes
  have hr := B.returns
  have hw : ∀ w ∈ wsL_law, w.before _ s = true := fun w h => atoms_spec (ws := wB yX9_elected cX9_elected 2 (some .int)) B.pre w (List.mem_cons_of_mem _ h)
  have hown : s.vm.findClass RX9 = some m.cls := findClass_of_methodNamed B.named
  have hlocks := B.notSynchronized
  subst hsz
  have hD := hD0.self (sz := s.heap.size)
  generalize hAe : va_A (C9 k x u) s.heap.size = A at hD ⊢
  have hA : ∀ q : Nat, s.heap.size ≤ q → A q := fun q h => by rw [← hAe]; exact Or.inr h
  have hS : va_S A s.heap s.heap [] := va_S.rf
  have hl := lv_entry ([.ref x, .int p0]) (n := 2) (Nat.le_of_ble_eq_true rfl)
  rw [lg_entry_eq]
  generalize (lg_sl ([.ref x, .int p0]) ++ List.replicate (2 - (lg_sl ([.ref x, .int p0])).length) Slot.unset).toArray = ls at hl ⊢
  have hl : lv_has ls 2 [(0, .ref x), (1, .int p0)] := hl
  refine lv_aload_n hx hb dX9_elected_0 rfl (lv_at hl 0 rfl) ?_
  refine lv_iload_n hx hb dX9_elected_1 rfl (lv_at hl 1 rfl) ?_
  refine x_i (wr := ([] : va_W)) (va_runV (As := [.int p0]) (rest := []) ⟨hx, hb, hml, hown, hw⟩ (kX9_isLog l D k x u p0 s.heap.size) (cwV 1 hw (gV wd_872 wd_873 wd_874 wd_2 wd_875) rfl rfl rfl (by decide +kernel) ⟨Nat.le_of_ble_eq_true rfl, Nat.le_of_ble_eq_true rfl⟩) (pre_V (ci := 9) (r := (RX9, TX9, 12)) hK hE hP hD [0, 1, 2, 3, 4, 5] (by decide) rfl rfl (q0 := 0) rfl) rfl rfl hl.1 rfl (lv_room (Nat.le_of_ble_eq_true rfl)) dX9_elected_2 ⟨Nat.le_of_ble_eq_true rfl, Nat.le_of_ble_eq_true rfl⟩) hP hD hS hA [0, 1, 2, 3, 4, 5] [] rfl rfl (by decide) (by decide) (fun r_3 u_1 H locs hp_2 hP hD hS => ?_)
  subst hp_2
  have hP : va_P D vwCl (C9 k x u) H := hP
  have hD : va_D A (C9 k x u) := hD
  refine lv_if_ne (tgt := 10) hx hb dX9_elected_5 (by decide) (fun h => absurd (by decide) h) (fun _ => ?_)
  refine lv_iconst (v := (-1)) hx hb dX9_elected_8 (by decide) ?_
  refine W.widen (k := 0) (n := 0) (Nat.le_of_ble_eq_true rfl) (Nat.le_of_ble_eq_true rfl) ?_
  have hP9 : va_P D vwCl ((fun _ => ([] : va_W)) ()) H := hP.sub [] rfl
  have hD9 : va_D A ((fun _ => ([] : va_W)) ()) := hD.sub [] (by decide) rfl
  exact W.iret (v := (-1)) hx hb hr (fun t ht hW => ⟨⟨(-1), (), rfl, rfl, by rw [ht]; exact hP9, hD9⟩, hS.F ht⟩) hS.2.2 dX9_elected_9

set_option maxHeartbeats 4000000 in
set_option maxRecDepth 100000 in
theorem kX9_wedding (l : Launch) (D : va_G) (k : Nat → ClassId) (x : Nat) (u : Nat → Nat → Nat) (p0 : Int32) (sz : Nat) : Met l yX9_wedding (wB yX9_wedding cX9_wedding 4 (some .int)) ({ frames := 1, cells := 0, slots := 0, locals := 21 }) (va_Pc [.ref x, .int p0] (PRE D k (C9 k x u) sz)) (va_Qi (S := Unit) (fun r _ => r = (-2)) (fun u t => PO D (va_A (C9 k x u) sz) ((fun _ => ([] : va_W)) u) t) (va_A (C9 k x u) sz)) 0 0 (va_A (C9 k x u) sz) := by
  refine Met.ofW (cc := cX9_wedding) (maxL := 4) (ret := (some .int)) (by decide) rfl ?_
  intro p e s m args below meth c s₁ B hml hv
  obtain ⟨rfl, hsz, hP, hK, hD0, hE⟩ := hv
  have hx := B.exec
  have hb := B.bytes
  have hr := B.returns
  have hw : ∀ w ∈ wsL_law, w.before _ s = true := fun w h => atoms_spec (ws := wB yX9_wedding cX9_wedding 4 (some .int)) B.pre w (List.mem_cons_of_mem _ h)
  have hown : s.vm.findClass RX9 = some m.cls := findClass_of_methodNamed B.named
  have hlocks := B.notSynchronized
  subst hsz
  have hD := hD0.self (sz := s.heap.size)
  generalize hAe : va_A (C9 k x u) s.heap.size = A at hD ⊢
  have hA : ∀ q : Nat, s.heap.size ≤ q → A q := fun q h => by rw [← hAe]; exact Or.inr h
  have hS : va_S A s.heap s.heap [] := va_S.rf
  have hl := lv_entry ([.ref x, .int p0]) (n := 4) (Nat.le_of_ble_eq_true rfl)
  rw [lg_entry_eq]
  generalize (lg_sl ([.ref x, .int p0]) ++ List.replicate (4 - (lg_sl ([.ref x, .int p0])).length) Slot.unset).toArray = ls at hl ⊢
  have hl : lv_has ls 4 [(0, .ref x), (1, .int p0)] := hl
  refine lv_aload_n hx hb dX9_wedding_0 rfl (lv_at hl 0 rfl) ?_
  refine va_get (D := D) (ci := 9) (v := .ref (u 0 4)) (C := RX9) (T := TX9) (N := 12) hx hb hw inlX9 hown hK hP 0 rfl rfl 5 (by decide) (hw _ wd_34) (fun _ h9 => h9) rfl dX9_wedding_1 ?_
  refine va_get (D := D) (ci := 8) (v := .ref (u 5 10)) (C := RX8) (T := TX8) (N := 9) hx hb hw inlX8 hown hK hP 1 rfl rfl 2 (by decide) (hw _ wd_231) (fun _ h9 => h9) rfl dX9_wedding_4 ?_
  refine lv_astore_n (lv' := [(2, .ref (u 5 10)), (0, .ref x), (1, .int p0)]) hx hb dX9_wedding_7 rfl hl (by decide) rfl (fun ls hl => ?_)
  refine lv_aload_n hx hb dX9_wedding_8 rfl (lv_at hl 1 rfl) ?_
  refine lv_iload_n hx hb dX9_wedding_9 rfl (lv_at hl 2 rfl) ?_
  refine x_i (wr := ([] : va_W)) (va_runV (As := [.int p0]) (rest := []) ⟨hx, hb, hml, hown, hw⟩ (kX9_isVillage l D k x u p0 s.heap.size) (cwV 1 hw (gV wd_643 wd_644 wd_645 wd_2 wd_646) rfl rfl rfl (by decide +kernel) ⟨Nat.le_of_ble_eq_true rfl, Nat.le_of_ble_eq_true rfl⟩) (pre_V (ci := 9) (r := (RX9, TX9, 12)) hK hE hP hD [0, 1, 2, 3, 4, 5] (by decide) rfl rfl (q0 := 0) rfl) rfl rfl hl.1 rfl (lv_room (Nat.le_of_ble_eq_true rfl)) dX9_wedding_10 ⟨Nat.le_of_ble_eq_true rfl, Nat.le_of_ble_eq_true rfl⟩) hP hD hS hA [0, 1, 2, 3, 4, 5] [] rfl rfl (by decide) (by decide) (fun r_3 u_1 H locs hp_2 hP hD hS => ?_)
  subst hp_2
  have hP : va_P D vwCl (C9 k x u) H := hP
  have hD : va_D A (C9 k x u) := hD
  refine lv_if_eq (tgt := 25) hx hb dX9_wedding_13 (by decide) (fun _ => ?_) (fun h => absurd (by decide) h)
  refine lv_bipush (v := (-2)) hx hb dX9_wedding_25 (by decide) ?_
  refine W.widen (k := 0) (n := 0) (Nat.le_of_ble_eq_true rfl) (Nat.le_of_ble_eq_true rfl) ?_
  have hP9 : va_P D vwCl ((fun _ => ([] : va_W)) ()) H := hP.sub [] rfl
  have hD9 : va_D A ((fun _ => ([] : va_W)) ()) := hD.sub [] (by decide) rfl
  exact W.iret (v := (-2)) hx hb hr (fun t ht hW => ⟨⟨(-2), (), rfl, rfl, by rw [ht]; exact hP9, hD9⟩, hS.F ht⟩) hS.2.2 dX9_wedding_27

set_option maxHeartbeats 4000000 in
set_option maxRecDepth 100000 in
theorem kX9_winter (l : Launch) (D : va_G) (k : Nat → ClassId) (x : Nat) (u : Nat → Nat → Nat) (p0 : Int32) (sz : Nat) : Met l yX9_winter (wB yX9_winter cX9_winter 2 (some .int)) ({ frames := 1, cells := 0, slots := 0, locals := 20 }) (va_Pc [.ref x, .int p0] (PRE D k (C9 k x u) sz)) (va_Qi (S := Unit) (fun r _ => r = (-2)) (fun u t => PO D (va_A (C9 k x u) sz) ((fun _ => ([] : va_W)) u) t) (va_A (C9 k x u) sz)) 0 0 (va_A (C9 k x u) sz) := by
  refine Met.ofW (cc := cX9_winter) (maxL := 2) (ret := (some .int)) (by decide) rfl ?_
  intro p e s m args below meth c s₁ B hml hv
  obtain ⟨rfl, hsz, hP, hK, hD0, hE⟩ := hv
  have hx := B.exec
  have hb := B.bytes
  have hr := B.returns
  have hw : ∀ w ∈ wsL_law, w.before _ s = true := fun w h => atoms_spec (ws := wB yX9_winter cX9_winter 2 (some .int)) B.pre w (List.mem_cons_of_mem _ h)
  have hown : s.vm.findClass RX9 = some m.cls := findClass_of_methodNamed B.named
  have hlocks := B.notSynchronized
  subst hsz
  have hD := hD0.self (sz := s.heap.size)
  generalize hAe : va_A (C9 k x u) s.heap.size = A at hD ⊢
  have hA : ∀ q : Nat, s.heap.size ≤ q → A q := fun q h => by rw [← hAe]; exact Or.inr h
  have hS : va_S A s.heap s.heap [] := va_S.rf
  have hl := lv_entry ([.ref x, .int p0]) (n := 2) (Nat.le_of_ble_eq_true rfl)
  rw [lg_entry_eq]
  generalize (lg_sl ([.ref x, .int p0]) ++ List.replicate (2 - (lg_sl ([.ref x, .int p0])).length) Slot.unset).toArray = ls at hl ⊢
  have hl : lv_has ls 2 [(0, .ref x), (1, .int p0)] := hl
  refine lv_aload_n hx hb dX9_winter_0 rfl (lv_at hl 0 rfl) ?_
  refine x_i (wr := ([] : va_W)) (va_runV (As := []) (rest := []) ⟨hx, hb, hml, hown, hw⟩ (kX9_hasRiver l D k x u  s.heap.size) (cwV 0 hw (gV wd_612 wd_613 wd_614 wd_2 wd_615) rfl rfl rfl (by decide +kernel) ⟨Nat.le_of_ble_eq_true rfl, Nat.le_of_ble_eq_true rfl⟩) (pre_V (ci := 9) (r := (RX9, TX9, 12)) hK hE hP hD [0, 1, 2, 3, 4, 5] (by decide) rfl rfl (q0 := 0) rfl) rfl rfl hl.1 rfl (lv_room (Nat.le_of_ble_eq_true rfl)) dX9_winter_1 ⟨Nat.le_of_ble_eq_true rfl, Nat.le_of_ble_eq_true rfl⟩) hP hD hS hA [0, 1, 2, 3, 4, 5] [] rfl rfl (by decide) (by decide) (fun r_3 u_1 H locs hp_2 hP hD hS => ?_)
  subst hp_2
  have hP : va_P D vwCl (C9 k x u) H := hP
  have hD : va_D A (C9 k x u) := hD
  refine lv_if_eq (tgt := 18) hx hb dX9_winter_4 (by decide) (fun _ => ?_) (fun h => absurd (by decide) h)
  refine lv_bipush (v := (-2)) hx hb dX9_winter_18 (by decide) ?_
  refine W.widen (k := 0) (n := 0) (Nat.le_of_ble_eq_true rfl) (Nat.le_of_ble_eq_true rfl) ?_
  have hP9 : va_P D vwCl ((fun _ => ([] : va_W)) ()) H := hP.sub [] rfl
  have hD9 : va_D A ((fun _ => ([] : va_W)) ()) := hD.sub [] (by decide) rfl
  exact W.iret (v := (-2)) hx hb hr (fun t ht hW => ⟨⟨(-2), (), rfl, rfl, by rw [ht]; exact hP9, hD9⟩, hS.F ht⟩) hS.2.2 dX9_winter_20

set_option maxHeartbeats 4000000 in
set_option maxRecDepth 100000 in
theorem kX9_days (l : Launch) (D : va_G) (k : Nat → ClassId) (x : Nat) (u : Nat → Nat → Nat) (p0 : Int32) (sz : Nat) : Met l yX9_days (wB yX9_days cX9_days 3 (some .int)) ({ frames := 1, cells := 0, slots := 0, locals := 20 }) (va_Pc [.ref x, .int p0] (PRE D k (C9 k x u) sz)) (va_Qi (S := Unit) (fun r _ => r = (-2)) (fun u t => PO D (va_A (C9 k x u) sz) ((fun _ => ([] : va_W)) u) t) (va_A (C9 k x u) sz)) 0 0 (va_A (C9 k x u) sz) := by
  refine Met.ofW (cc := cX9_days) (maxL := 3) (ret := (some .int)) (by decide) rfl ?_
  intro p e s m args below meth c s₁ B hml hv
  obtain ⟨rfl, hsz, hP, hK, hD0, hE⟩ := hv
  have hx := B.exec
  have hb := B.bytes
  have hr := B.returns
  have hw : ∀ w ∈ wsL_law, w.before _ s = true := fun w h => atoms_spec (ws := wB yX9_days cX9_days 3 (some .int)) B.pre w (List.mem_cons_of_mem _ h)
  have hown : s.vm.findClass RX9 = some m.cls := findClass_of_methodNamed B.named
  have hlocks := B.notSynchronized
  subst hsz
  have hD := hD0.self (sz := s.heap.size)
  generalize hAe : va_A (C9 k x u) s.heap.size = A at hD ⊢
  have hA : ∀ q : Nat, s.heap.size ≤ q → A q := fun q h => by rw [← hAe]; exact Or.inr h
  have hS : va_S A s.heap s.heap [] := va_S.rf
  have hl := lv_entry ([.ref x, .int p0]) (n := 3) (Nat.le_of_ble_eq_true rfl)
  rw [lg_entry_eq]
  generalize (lg_sl ([.ref x, .int p0]) ++ List.replicate (3 - (lg_sl ([.ref x, .int p0])).length) Slot.unset).toArray = ls at hl ⊢
  have hl : lv_has ls 3 [(0, .ref x), (1, .int p0)] := hl
  refine lv_aload_n hx hb dX9_days_0 rfl (lv_at hl 0 rfl) ?_
  refine x_i (wr := ([] : va_W)) (va_runV (As := []) (rest := []) ⟨hx, hb, hml, hown, hw⟩ (kX9_hasRiver l D k x u  s.heap.size) (cwV 0 hw (gV wd_612 wd_613 wd_614 wd_2 wd_615) rfl rfl rfl (by decide +kernel) ⟨Nat.le_of_ble_eq_true rfl, Nat.le_of_ble_eq_true rfl⟩) (pre_V (ci := 9) (r := (RX9, TX9, 12)) hK hE hP hD [0, 1, 2, 3, 4, 5] (by decide) rfl rfl (q0 := 0) rfl) rfl rfl hl.1 rfl (lv_room (Nat.le_of_ble_eq_true rfl)) dX9_days_1 ⟨Nat.le_of_ble_eq_true rfl, Nat.le_of_ble_eq_true rfl⟩) hP hD hS hA [0, 1, 2, 3, 4, 5] [] rfl rfl (by decide) (by decide) (fun r_3 u_1 H locs hp_2 hP hD hS => ?_)
  subst hp_2
  have hP : va_P D vwCl (C9 k x u) H := hP
  have hD : va_D A (C9 k x u) := hD
  refine lv_if_eq (tgt := 36) hx hb dX9_days_4 (by decide) (fun _ => ?_) (fun h => absurd (by decide) h)
  refine lv_bipush (v := (-2)) hx hb dX9_days_36 (by decide) ?_
  refine W.widen (k := 0) (n := 0) (Nat.le_of_ble_eq_true rfl) (Nat.le_of_ble_eq_true rfl) ?_
  have hP9 : va_P D vwCl ((fun _ => ([] : va_W)) ()) H := hP.sub [] rfl
  have hD9 : va_D A ((fun _ => ([] : va_W)) ()) := hD.sub [] (by decide) rfl
  exact W.iret (v := (-2)) hx hb hr (fun t ht hW => ⟨⟨(-2), (), rfl, rfl, by rw [ht]; exact hP9, hD9⟩, hS.F ht⟩) hS.2.2 dX9_days_38

set_option maxHeartbeats 4000000 in
set_option maxRecDepth 100000 in
theorem kX9_floats (l : Launch) (D : va_G) (k : Nat → ClassId) (x : Nat) (u : Nat → Nat → Nat) (p0 : Int32) (p1 : Int32) (sz : Nat) : Met l yX9_floats (wB yX9_floats cX9_floats 4 (some .int)) ({ frames := 1, cells := 0, slots := 0, locals := 20 }) (va_Pc [.ref x, .int p0, .int p1] (PRE D k (C9 k x u) sz)) (va_Qi (S := Unit) (fun r _ => r = (-1)) (fun u t => PO D (va_A (C9 k x u) sz) ((fun _ => ([] : va_W)) u) t) (va_A (C9 k x u) sz)) 0 0 (va_A (C9 k x u) sz) := by
  refine Met.ofW (cc := cX9_floats) (maxL := 4) (ret := (some .int)) (by decide) rfl ?_
  intro p e s m args below meth c s₁ B hml hv
  obtain ⟨rfl, hsz, hP, hK, hD0, hE⟩ := hv
  have hx := B.exec
  have hb := B.bytes
  have hr := B.returns
  have hw : ∀ w ∈ wsL_law, w.before _ s = true := fun w h => atoms_spec (ws := wB yX9_floats cX9_floats 4 (some .int)) B.pre w (List.mem_cons_of_mem _ h)
  have hown : s.vm.findClass RX9 = some m.cls := findClass_of_methodNamed B.named
  have hlocks := B.notSynchronized
  subst hsz
  have hD := hD0.self (sz := s.heap.size)
  generalize hAe : va_A (C9 k x u) s.heap.size = A at hD ⊢
  have hA : ∀ q : Nat, s.heap.size ≤ q → A q := fun q h => by rw [← hAe]; exact Or.inr h
  have hS : va_S A s.heap s.heap [] := va_S.rf
  have hl := lv_entry ([.ref x, .int p0, .int p1]) (n := 4) (Nat.le_of_ble_eq_true rfl)
  rw [lg_entry_eq]
  generalize (lg_sl ([.ref x, .int p0, .int p1]) ++ List.replicate (4 - (lg_sl ([.ref x, .int p0, .int p1])).length) Slot.unset).toArray = ls at hl ⊢
  have hl : lv_has ls 4 [(0, .ref x), (1, .int p0), (2, .int p1)] := hl
  refine lv_aload_n hx hb dX9_floats_0 rfl (lv_at hl 0 rfl) ?_
  refine x_i (wr := ([] : va_W)) (va_runV (As := []) (rest := []) ⟨hx, hb, hml, hown, hw⟩ (kX9_hasRiver l D k x u  s.heap.size) (cwV 0 hw (gV wd_612 wd_613 wd_614 wd_2 wd_615) rfl rfl rfl (by decide +kernel) ⟨Nat.le_of_ble_eq_true rfl, Nat.le_of_ble_eq_true rfl⟩) (pre_V (ci := 9) (r := (RX9, TX9, 12)) hK hE hP hD [0, 1, 2, 3, 4, 5] (by decide) rfl rfl (q0 := 0) rfl) rfl rfl hl.1 rfl (lv_room (Nat.le_of_ble_eq_true rfl)) dX9_floats_1 ⟨Nat.le_of_ble_eq_true rfl, Nat.le_of_ble_eq_true rfl⟩) hP hD hS hA [0, 1, 2, 3, 4, 5] [] rfl rfl (by decide) (by decide) (fun r_3 u_1 H locs hp_2 hP hD hS => ?_)
  subst hp_2
  have hP : va_P D vwCl (C9 k x u) H := hP
  have hD : va_D A (C9 k x u) := hD
  refine lv_if_eq (tgt := 27) hx hb dX9_floats_4 (by decide) (fun _ => ?_) (fun h => absurd (by decide) h)
  refine lv_iconst (v := (-1)) hx hb dX9_floats_27 (by decide) ?_
  refine W.widen (k := 0) (n := 0) (Nat.le_of_ble_eq_true rfl) (Nat.le_of_ble_eq_true rfl) ?_
  have hP9 : va_P D vwCl ((fun _ => ([] : va_W)) ()) H := hP.sub [] rfl
  have hD9 : va_D A ((fun _ => ([] : va_W)) ()) := hD.sub [] (by decide) rfl
  exact W.iret (v := (-1)) hx hb hr (fun t ht hW => ⟨⟨(-1), (), rfl, rfl, by rw [ht]; exact hP9, hD9⟩, hS.F ht⟩) hS.2.2 dX9_floats_28

set_option maxHeartbeats 4000000 in
set_option maxRecDepth 100000 in
theorem kX9_letAhead (l : Launch) (D : va_G) (k : Nat → ClassId) (x : Nat) (u : Nat → Nat → Nat) (p0 : Int32) (p1 : Int32) (sz : Nat) : Met l yX9_letAhead (wB yX9_letAhead cX9_letAhead 8 (some .int)) ({ frames := 1, cells := 0, slots := 0, locals := 20 }) (va_Pc [.ref x, .int p0, .int p1] (PRE D k (C9 k x u) sz)) (va_Qi (S := Unit) (fun r _ => r = (-1)) (fun u t => PO D (va_A (C9 k x u) sz) ((fun _ => ([] : va_W)) u) t) (va_A (C9 k x u) sz)) 0 0 (va_A (C9 k x u) sz) := by
  refine Met.ofW (cc := cX9_letAhead) (maxL := 8) (ret := (some .int)) (by decide) rfl ?_
  intro p e s m args below meth c s₁ B hml hv
  obtain ⟨rfl, hsz, hP, hK, hD0, hE⟩ := hv
  have hx := B.exec
  have hb := B.bytes
  have hr := B.returns
  have hw : ∀ w ∈ wsL_law, w.before _ s = true := fun w h => atoms_spec (ws := wB yX9_letAhead cX9_letAhead 8 (some .int)) B.pre w (List.mem_cons_of_mem _ h)
  have hown : s.vm.findClass RX9 = some m.cls := findClass_of_methodNamed B.named
  have hlocks := B.notSynchronized
  subst hsz
  have hD := hD0.self (sz := s.heap.size)
  generalize hAe : va_A (C9 k x u) s.heap.size = A at hD ⊢
  have hA : ∀ q : Nat, s.heap.size ≤ q → A q := fun q h => by rw [← hAe]; exact Or.inr h
  have hS : va_S A s.heap s.heap [] := va_S.rf
  have hl := lv_entry ([.ref x, .int p0, .int p1]) (n := 8) (Nat.le_of_ble_eq_true rfl)
  rw [lg_entry_eq]
  generalize (lg_sl ([.ref x, .int p0, .int p1]) ++ List.replicate (8 - (lg_sl ([.ref x, .int p0, .int p1])).length) Slot.unset).toArray = ls at hl ⊢
  have hl : lv_has ls 8 [(0, .ref x), (1, .int p0), (2, .int p1)] := hl
  refine lv_aload_n hx hb dX9_letAhead_0 rfl (lv_at hl 0 rfl) ?_
  refine x_i (wr := ([] : va_W)) (va_runV (As := []) (rest := []) ⟨hx, hb, hml, hown, hw⟩ (kX9_hasRiver l D k x u  s.heap.size) (cwV 0 hw (gV wd_612 wd_613 wd_614 wd_2 wd_615) rfl rfl rfl (by decide +kernel) ⟨Nat.le_of_ble_eq_true rfl, Nat.le_of_ble_eq_true rfl⟩) (pre_V (ci := 9) (r := (RX9, TX9, 12)) hK hE hP hD [0, 1, 2, 3, 4, 5] (by decide) rfl rfl (q0 := 0) rfl) rfl rfl hl.1 rfl (lv_room (Nat.le_of_ble_eq_true rfl)) dX9_letAhead_1 ⟨Nat.le_of_ble_eq_true rfl, Nat.le_of_ble_eq_true rfl⟩) hP hD hS hA [0, 1, 2, 3, 4, 5] [] rfl rfl (by decide) (by decide) (fun r_3 u_1 H locs hp_2 hP hD hS => ?_)
  subst hp_2
  have hP : va_P D vwCl (C9 k x u) H := hP
  have hD : va_D A (C9 k x u) := hD
  refine lv_if_eq (tgt := 27) hx hb dX9_letAhead_4 (by decide) (fun _ => ?_) (fun h => absurd (by decide) h)
  refine lv_iconst (v := (-1)) hx hb dX9_letAhead_27 (by decide) ?_
  refine W.widen (k := 0) (n := 0) (Nat.le_of_ble_eq_true rfl) (Nat.le_of_ble_eq_true rfl) ?_
  have hP9 : va_P D vwCl ((fun _ => ([] : va_W)) ()) H := hP.sub [] rfl
  have hD9 : va_D A ((fun _ => ([] : va_W)) ()) := hD.sub [] (by decide) rfl
  exact W.iret (v := (-1)) hx hb hr (fun t ht hW => ⟨⟨(-1), (), rfl, rfl, by rw [ht]; exact hP9, hD9⟩, hS.F ht⟩) hS.2.2 dX9_letAhead_28

set_option maxHeartbeats 4000000 in
set_option maxRecDepth 100000 in
theorem kX9_kin (l : Launch) (D : va_G) (k : Nat → ClassId) (x : Nat) (u : Nat → Nat → Nat) (p0 : Int32) (p1 : Int32) (sz : Nat) : Met l yX9_kin (wB yX9_kin cX9_kin 5 (some .int)) ({ frames := 1, cells := 0, slots := 0, locals := 21 }) (va_Pc [.ref x, .int p0, .int p1] (PRE D k (C9 k x u) sz)) (va_Qi (S := Unit) (fun r _ => r = (-1)) (fun u t => PO D (va_A (C9 k x u) sz) ((fun _ => ([] : va_W)) u) t) (va_A (C9 k x u) sz)) 0 0 (va_A (C9 k x u) sz) := by
  refine Met.ofW (cc := cX9_kin) (maxL := 5) (ret := (some .int)) (by decide) rfl ?_
  intro p e s m args below meth c s₁ B hml hv
  obtain ⟨rfl, hsz, hP, hK, hD0, hE⟩ := hv
  have hx := B.exec
  have hb := B.bytes
  have hr := B.returns
  have hw : ∀ w ∈ wsL_law, w.before _ s = true := fun w h => atoms_spec (ws := wB yX9_kin cX9_kin 5 (some .int)) B.pre w (List.mem_cons_of_mem _ h)
  have hown : s.vm.findClass RX9 = some m.cls := findClass_of_methodNamed B.named
  have hlocks := B.notSynchronized
  subst hsz
  have hD := hD0.self (sz := s.heap.size)
  generalize hAe : va_A (C9 k x u) s.heap.size = A at hD ⊢
  have hA : ∀ q : Nat, s.heap.size ≤ q → A q := fun q h => by rw [← hAe]; exact Or.inr h
  have hS : va_S A s.heap s.heap [] := va_S.rf
  have hl := lv_entry ([.ref x, .int p0, .int p1]) (n := 5) (Nat.le_of_ble_eq_true rfl)
  rw [lg_entry_eq]
  generalize (lg_sl ([.ref x, .int p0, .int p1]) ++ List.replicate (5 - (lg_sl ([.ref x, .int p0, .int p1])).length) Slot.unset).toArray = ls at hl ⊢
  have hl : lv_has ls 5 [(0, .ref x), (1, .int p0), (2, .int p1)] := hl
  refine lv_aload_n hx hb dX9_kin_0 rfl (lv_at hl 0 rfl) ?_
  refine lv_iload_n hx hb dX9_kin_1 rfl (lv_at hl 1 rfl) ?_
  refine x_i (wr := ([] : va_W)) (va_runV (As := [.int p0]) (rest := []) ⟨hx, hb, hml, hown, hw⟩ (kX9_isLog l D k x u p0 s.heap.size) (cwV 1 hw (gV wd_872 wd_873 wd_874 wd_2 wd_875) rfl rfl rfl (by decide +kernel) ⟨Nat.le_of_ble_eq_true rfl, Nat.le_of_ble_eq_true rfl⟩) (pre_V (ci := 9) (r := (RX9, TX9, 12)) hK hE hP hD [0, 1, 2, 3, 4, 5] (by decide) rfl rfl (q0 := 0) rfl) rfl rfl hl.1 rfl (lv_room (Nat.le_of_ble_eq_true rfl)) dX9_kin_2 ⟨Nat.le_of_ble_eq_true rfl, Nat.le_of_ble_eq_true rfl⟩) hP hD hS hA [0, 1, 2, 3, 4, 5] [] rfl rfl (by decide) (by decide) (fun r_3 u_1 H locs hp_2 hP hD hS => ?_)
  subst hp_2
  have hP : va_P D vwCl (C9 k x u) H := hP
  have hD : va_D A (C9 k x u) := hD
  refine lv_if_eq (tgt := 16) hx hb dX9_kin_5 (by decide) (fun _ => ?_) (fun h => absurd (by decide) h)
  refine lv_iconst (v := (-1)) hx hb dX9_kin_16 (by decide) ?_
  refine W.widen (k := 0) (n := 0) (Nat.le_of_ble_eq_true rfl) (Nat.le_of_ble_eq_true rfl) ?_
  have hP9 : va_P D vwCl ((fun _ => ([] : va_W)) ()) H := hP.sub [] rfl
  have hD9 : va_D A ((fun _ => ([] : va_W)) ()) := hD.sub [] (by decide) rfl
  exact W.iret (v := (-1)) hx hb hr (fun t ht hW => ⟨⟨(-1), (), rfl, rfl, by rw [ht]; exact hP9, hD9⟩, hS.F ht⟩) hS.2.2 dX9_kin_17

set_option maxHeartbeats 4000000 in
set_option maxRecDepth 100000 in
theorem kX9_kinOf (l : Launch) (D : va_G) (k : Nat → ClassId) (x : Nat) (u : Nat → Nat → Nat) (p0 : Int32) (sz : Nat) : Met l yX9_kinOf (wB yX9_kinOf cX9_kinOf 4 (some .int)) ({ frames := 1, cells := 0, slots := 0, locals := 21 }) (va_Pc [.ref x, .int p0] (PRE D k (C9 k x u) sz)) (va_Qi (S := Unit) (fun r _ => r = (-1)) (fun u t => PO D (va_A (C9 k x u) sz) ((fun _ => ([] : va_W)) u) t) (va_A (C9 k x u) sz)) 0 0 (va_A (C9 k x u) sz) := by
  refine Met.ofW (cc := cX9_kinOf) (maxL := 4) (ret := (some .int)) (by decide) rfl ?_
  intro p e s m args below meth c s₁ B hml hv
  obtain ⟨rfl, hsz, hP, hK, hD0, hE⟩ := hv
  have hx := B.exec
  have hb := B.bytes
  have hr := B.returns
  have hw : ∀ w ∈ wsL_law, w.before _ s = true := fun w h => atoms_spec (ws := wB yX9_kinOf cX9_kinOf 4 (some .int)) B.pre w (List.mem_cons_of_mem _ h)
  have hown : s.vm.findClass RX9 = some m.cls := findClass_of_methodNamed B.named
  have hlocks := B.notSynchronized
  subst hsz
  have hD := hD0.self (sz := s.heap.size)
  generalize hAe : va_A (C9 k x u) s.heap.size = A at hD ⊢
  have hA : ∀ q : Nat, s.heap.size ≤ q → A q := fun q h => by rw [← hAe]; exact Or.inr h
  have hS : va_S A s.heap s.heap [] := va_S.rf
  have hl := lv_entry ([.ref x, .int p0]) (n := 4) (Nat.le_of_ble_eq_true rfl)
  rw [lg_entry_eq]
  generalize (lg_sl ([.ref x, .int p0]) ++ List.replicate (4 - (lg_sl ([.ref x, .int p0])).length) Slot.unset).toArray = ls at hl ⊢
  have hl : lv_has ls 4 [(0, .ref x), (1, .int p0)] := hl
  refine lv_aload_n hx hb dX9_kinOf_0 rfl (lv_at hl 0 rfl) ?_
  refine lv_iload_n hx hb dX9_kinOf_1 rfl (lv_at hl 1 rfl) ?_
  refine x_i (wr := ([] : va_W)) (va_runV (As := [.int p0]) (rest := []) ⟨hx, hb, hml, hown, hw⟩ (kX9_isLog l D k x u p0 s.heap.size) (cwV 1 hw (gV wd_872 wd_873 wd_874 wd_2 wd_875) rfl rfl rfl (by decide +kernel) ⟨Nat.le_of_ble_eq_true rfl, Nat.le_of_ble_eq_true rfl⟩) (pre_V (ci := 9) (r := (RX9, TX9, 12)) hK hE hP hD [0, 1, 2, 3, 4, 5] (by decide) rfl rfl (q0 := 0) rfl) rfl rfl hl.1 rfl (lv_room (Nat.le_of_ble_eq_true rfl)) dX9_kinOf_2 ⟨Nat.le_of_ble_eq_true rfl, Nat.le_of_ble_eq_true rfl⟩) hP hD hS hA [0, 1, 2, 3, 4, 5] [] rfl rfl (by decide) (by decide) (fun r_3 u_1 H locs hp_2 hP hD hS => ?_)
  subst hp_2
  have hP : va_P D vwCl (C9 k x u) H := hP
  have hD : va_D A (C9 k x u) := hD
  refine lv_if_ne (tgt := 10) hx hb dX9_kinOf_5 (by decide) (fun h => absurd (by decide) h) (fun _ => ?_)
  refine lv_iconst (v := (-1)) hx hb dX9_kinOf_8 (by decide) ?_
  refine W.widen (k := 0) (n := 0) (Nat.le_of_ble_eq_true rfl) (Nat.le_of_ble_eq_true rfl) ?_
  have hP9 : va_P D vwCl ((fun _ => ([] : va_W)) ()) H := hP.sub [] rfl
  have hD9 : va_D A ((fun _ => ([] : va_W)) ()) := hD.sub [] (by decide) rfl
  exact W.iret (v := (-1)) hx hb hr (fun t ht hW => ⟨⟨(-1), (), rfl, rfl, by rw [ht]; exact hP9, hD9⟩, hS.F ht⟩) hS.2.2 dX9_kinOf_9

set_option maxHeartbeats 4000000 in
set_option maxRecDepth 100000 in
theorem kX9_was (l : Launch) (D : va_G) (k : Nat → ClassId) (x : Nat) (u : Nat → Nat → Nat) (p0 : Int32) (p1 : Int32) (sz : Nat) : Met l yX9_was (wB yX9_was cX9_was 3 (some .int)) ({ frames := 1, cells := 0, slots := 0, locals := 21 }) (va_Pc [.ref x, .int p0, .int p1] (PRE D k (C9 k x u) sz)) (va_Qi (S := Unit) (fun r _ => r = (-2)) (fun u t => PO D (va_A (C9 k x u) sz) ((fun _ => ([] : va_W)) u) t) (va_A (C9 k x u) sz)) 0 0 (va_A (C9 k x u) sz) := by
  refine Met.ofW (cc := cX9_was) (maxL := 3) (ret := (some .int)) (by decide) rfl ?_
  intro p e s m args below meth c s₁ B hml hv
  obtain ⟨rfl, hsz, hP, hK, hD0, hE⟩ := hv
  have hx := B.exec
  have hb := B.bytes
  have hr := B.returns
  have hw : ∀ w ∈ wsL_law, w.before _ s = true := fun w h => atoms_spec (ws := wB yX9_was cX9_was 3 (some .int)) B.pre w (List.mem_cons_of_mem _ h)
  have hown : s.vm.findClass RX9 = some m.cls := findClass_of_methodNamed B.named
  have hlocks := B.notSynchronized
  subst hsz
  have hD := hD0.self (sz := s.heap.size)
  generalize hAe : va_A (C9 k x u) s.heap.size = A at hD ⊢
  have hA : ∀ q : Nat, s.heap.size ≤ q → A q := fun q h => by rw [← hAe]; exact Or.inr h
  have hS : va_S A s.heap s.heap [] := va_S.rf
  have hl := lv_entry ([.ref x, .int p0, .int p1]) (n := 3) (Nat.le_of_ble_eq_true rfl)
  rw [lg_entry_eq]
  generalize (lg_sl ([.ref x, .int p0, .int p1]) ++ List.replicate (3 - (lg_sl ([.ref x, .int p0, .int p1])).length) Slot.unset).toArray = ls at hl ⊢
  have hl : lv_has ls 3 [(0, .ref x), (1, .int p0), (2, .int p1)] := hl
  refine lv_aload_n hx hb dX9_was_0 rfl (lv_at hl 0 rfl) ?_
  refine lv_iload_n hx hb dX9_was_1 rfl (lv_at hl 1 rfl) ?_
  refine x_i (wr := ([] : va_W)) (va_runV (As := [.int p0]) (rest := []) ⟨hx, hb, hml, hown, hw⟩ (kX9_isLog l D k x u p0 s.heap.size) (cwV 1 hw (gV wd_872 wd_873 wd_874 wd_2 wd_875) rfl rfl rfl (by decide +kernel) ⟨Nat.le_of_ble_eq_true rfl, Nat.le_of_ble_eq_true rfl⟩) (pre_V (ci := 9) (r := (RX9, TX9, 12)) hK hE hP hD [0, 1, 2, 3, 4, 5] (by decide) rfl rfl (q0 := 0) rfl) rfl rfl hl.1 rfl (lv_room (Nat.le_of_ble_eq_true rfl)) dX9_was_2 ⟨Nat.le_of_ble_eq_true rfl, Nat.le_of_ble_eq_true rfl⟩) hP hD hS hA [0, 1, 2, 3, 4, 5] [] rfl rfl (by decide) (by decide) (fun r_3 u_1 H locs hp_2 hP hD hS => ?_)
  subst hp_2
  have hP : va_P D vwCl (C9 k x u) H := hP
  have hD : va_D A (C9 k x u) := hD
  refine lv_if_eq (tgt := 24) hx hb dX9_was_5 (by decide) (fun _ => ?_) (fun h => absurd (by decide) h)
  refine lv_bipush (v := (-2)) hx hb dX9_was_24 (by decide) ?_
  refine W.widen (k := 0) (n := 0) (Nat.le_of_ble_eq_true rfl) (Nat.le_of_ble_eq_true rfl) ?_
  have hP9 : va_P D vwCl ((fun _ => ([] : va_W)) ()) H := hP.sub [] rfl
  have hD9 : va_D A ((fun _ => ([] : va_W)) ()) := hD.sub [] (by decide) rfl
  exact W.iret (v := (-2)) hx hb hr (fun t ht hW => ⟨⟨(-2), (), rfl, rfl, by rw [ht]; exact hP9, hD9⟩, hS.F ht⟩) hS.2.2 dX9_was_26

set_option maxHeartbeats 4000000 in
set_option maxRecDepth 100000 in
theorem kX9_wereAt (l : Launch) (D : va_G) (k : Nat → ClassId) (x : Nat) (u : Nat → Nat → Nat) (p0 : Int32) (p1 : Int32) (p2 : Int32) (sz : Nat) : Met l yX9_wereAt (wB yX9_wereAt cX9_wereAt 4 (some .int)) ({ frames := 2, cells := 0, slots := 0, locals := 44 }) (va_Pc [.ref x, .int p0, .int p1, .int p2] (PRE D k (C9 k x u) sz)) (va_Qi (S := Unit) (fun r _ => r = (-1)) (fun u t => PO D (va_A (C9 k x u) sz) ((fun _ => ([] : va_W)) u) t) (va_A (C9 k x u) sz)) 0 0 (va_A (C9 k x u) sz) := by
  refine Met.ofW (cc := cX9_wereAt) (maxL := 4) (ret := (some .int)) (by decide) rfl ?_
  intro p e s m args below meth c s₁ B hml hv
  obtain ⟨rfl, hsz, hP, hK, hD0, hE⟩ := hv
  have hx := B.exec
  have hb := B.bytes
  have hr := B.returns
  have hw : ∀ w ∈ wsL_law, w.before _ s = true := fun w h => atoms_spec (ws := wB yX9_wereAt cX9_wereAt 4 (some .int)) B.pre w (List.mem_cons_of_mem _ h)
  have hown : s.vm.findClass RX9 = some m.cls := findClass_of_methodNamed B.named
  have hlocks := B.notSynchronized
  subst hsz
  have hD := hD0.self (sz := s.heap.size)
  generalize hAe : va_A (C9 k x u) s.heap.size = A at hD ⊢
  have hA : ∀ q : Nat, s.heap.size ≤ q → A q := fun q h => by rw [← hAe]; exact Or.inr h
  have hS : va_S A s.heap s.heap [] := va_S.rf
  have hl := lv_entry ([.ref x, .int p0, .int p1, .int p2]) (n := 4) (Nat.le_of_ble_eq_true rfl)
  rw [lg_entry_eq]
  generalize (lg_sl ([.ref x, .int p0, .int p1, .int p2]) ++ List.replicate (4 - (lg_sl ([.ref x, .int p0, .int p1, .int p2])).length) Slot.unset).toArray = ls at hl ⊢
  have hl : lv_has ls 4 [(0, .ref x), (1, .int p0), (2, .int p1), (3, .int p2)] := hl
  refine lv_aload_n hx hb dX9_wereAt_0 rfl (lv_at hl 0 rfl) ?_
  refine lv_iload_n hx hb dX9_wereAt_1 rfl (lv_at hl 1 rfl) ?_
  refine lv_iload_n hx hb dX9_wereAt_2 rfl (lv_at hl 2 rfl) ?_
  refine lv_iload_n hx hb dX9_wereAt_3 rfl (lv_at hl 3 rfl) ?_
  refine x_i (wr := ([] : va_W)) (va_runV (As := [.int p0, .int p1, .int p2]) (rest := []) ⟨hx, hb, hml, hown, hw⟩ (kX9_areKept l D k x u p0 p1 p2 s.heap.size) (cwV 3 hw (gV wd_1378 wd_1379 wd_1380 wd_2 wd_1381) rfl rfl rfl (by decide +kernel) ⟨Nat.le_of_ble_eq_true rfl, Nat.le_of_ble_eq_true rfl⟩) (pre_V (ci := 9) (r := (RX9, TX9, 12)) hK hE hP hD [0, 1, 2, 3, 4, 5] (by decide) rfl rfl (q0 := 0) rfl) rfl rfl hl.1 rfl (lv_room (Nat.le_of_ble_eq_true rfl)) dX9_wereAt_4 ⟨Nat.le_of_ble_eq_true rfl, Nat.le_of_ble_eq_true rfl⟩) hP hD hS hA [0, 1, 2, 3, 4, 5] [] rfl rfl (by decide) (by decide) (fun r_3 u_1 H locs hp_2 hP hD hS => ?_)
  subst hp_2
  have hP : va_P D vwCl (C9 k x u) H := hP
  have hD : va_D A (C9 k x u) := hD
  refine lv_if_ne (tgt := 12) hx hb dX9_wereAt_7 (by decide) (fun h => absurd (by decide) h) (fun _ => ?_)
  refine lv_iconst (v := (-1)) hx hb dX9_wereAt_10 (by decide) ?_
  refine W.widen (k := 0) (n := 0) (Nat.le_of_ble_eq_true rfl) (Nat.le_of_ble_eq_true rfl) ?_
  have hP9 : va_P D vwCl ((fun _ => ([] : va_W)) ()) H := hP.sub [] rfl
  have hD9 : va_D A ((fun _ => ([] : va_W)) ()) := hD.sub [] (by decide) rfl
  exact W.iret (v := (-1)) hx hb hr (fun t ht hW => ⟨⟨(-1), (), rfl, rfl, by rw [ht]; exact hP9, hD9⟩, hS.F ht⟩) hS.2.2 dX9_wereAt_11

set_option maxHeartbeats 4000000 in
set_option maxRecDepth 100000 in
theorem kX9_likely (l : Launch) (D : va_G) (k : Nat → ClassId) (x : Nat) (u : Nat → Nat → Nat) (p0 : Int32) (p1 : Int32) (p2 : Int32) (p3 : Int32) (p4 : Int32) (sz : Nat) : Met l yX9_likely (wB yX9_likely cX9_likely 11 (some .int)) ({ frames := 2, cells := 0, slots := 0, locals := 44 }) (va_Pc [.ref x, .int p0, .int p1, .int p2, .int p3, .int p4] (PRE D k (C9 k x u) sz)) (va_Qi (S := Unit) (fun r _ => r = (-1)) (fun u t => PO D (va_A (C9 k x u) sz) ((fun _ => ([] : va_W)) u) t) (va_A (C9 k x u) sz)) 0 0 (va_A (C9 k x u) sz) := by
  refine Met.ofW (cc := cX9_likely) (maxL := 11) (ret := (some .int)) (by decide) rfl ?_
  intro p e s m args below meth c s₁ B hml hv
  obtain ⟨rfl, hsz, hP, hK, hD0, hE⟩ := hv
  have hx := B.exec
  have hb := B.bytes
  have hr := B.returns
  have hw : ∀ w ∈ wsL_law, w.before _ s = true := fun w h => atoms_spec (ws := wB yX9_likely cX9_likely 11 (some .int)) B.pre w (List.mem_cons_of_mem _ h)
  have hown : s.vm.findClass RX9 = some m.cls := findClass_of_methodNamed B.named
  have hlocks := B.notSynchronized
  subst hsz
  have hD := hD0.self (sz := s.heap.size)
  generalize hAe : va_A (C9 k x u) s.heap.size = A at hD ⊢
  have hA : ∀ q : Nat, s.heap.size ≤ q → A q := fun q h => by rw [← hAe]; exact Or.inr h
  have hS : va_S A s.heap s.heap [] := va_S.rf
  have hl := lv_entry ([.ref x, .int p0, .int p1, .int p2, .int p3, .int p4]) (n := 11) (Nat.le_of_ble_eq_true rfl)
  rw [lg_entry_eq]
  generalize (lg_sl ([.ref x, .int p0, .int p1, .int p2, .int p3, .int p4]) ++ List.replicate (11 - (lg_sl ([.ref x, .int p0, .int p1, .int p2, .int p3, .int p4])).length) Slot.unset).toArray = ls at hl ⊢
  have hl : lv_has ls 11 [(0, .ref x), (1, .int p0), (2, .int p1), (3, .int p2), (4, .int p3), (5, .int p4)] := hl
  refine lv_aload_n hx hb dX9_likely_0 rfl (lv_at hl 0 rfl) ?_
  refine lv_iload_n hx hb dX9_likely_1 rfl (lv_at hl 1 rfl) ?_
  refine lv_iload_n hx hb dX9_likely_2 rfl (lv_at hl 2 rfl) ?_
  refine lv_iload_n hx hb dX9_likely_3 rfl (lv_at hl 3 rfl) ?_
  refine x_i (wr := ([] : va_W)) (va_runV (As := [.int p0, .int p1, .int p2]) (rest := []) ⟨hx, hb, hml, hown, hw⟩ (kX9_areKept l D k x u p0 p1 p2 s.heap.size) (cwV 3 hw (gV wd_1378 wd_1379 wd_1380 wd_2 wd_1381) rfl rfl rfl (by decide +kernel) ⟨Nat.le_of_ble_eq_true rfl, Nat.le_of_ble_eq_true rfl⟩) (pre_V (ci := 9) (r := (RX9, TX9, 12)) hK hE hP hD [0, 1, 2, 3, 4, 5] (by decide) rfl rfl (q0 := 0) rfl) rfl rfl hl.1 rfl (lv_room (Nat.le_of_ble_eq_true rfl)) dX9_likely_4 ⟨Nat.le_of_ble_eq_true rfl, Nat.le_of_ble_eq_true rfl⟩) hP hD hS hA [0, 1, 2, 3, 4, 5] [] rfl rfl (by decide) (by decide) (fun r_3 u_1 H locs hp_2 hP hD hS => ?_)
  subst hp_2
  have hP : va_P D vwCl (C9 k x u) H := hP
  have hD : va_D A (C9 k x u) := hD
  refine lv_if_eq (tgt := 30) hx hb dX9_likely_7 (by decide) (fun _ => ?_) (fun h => absurd (by decide) h)
  refine lv_iconst (v := (-1)) hx hb dX9_likely_30 (by decide) ?_
  refine W.widen (k := 0) (n := 0) (Nat.le_of_ble_eq_true rfl) (Nat.le_of_ble_eq_true rfl) ?_
  have hP9 : va_P D vwCl ((fun _ => ([] : va_W)) ()) H := hP.sub [] rfl
  have hD9 : va_D A ((fun _ => ([] : va_W)) ()) := hD.sub [] (by decide) rfl
  exact W.iret (v := (-1)) hx hb hr (fun t ht hW => ⟨⟨(-1), (), rfl, rfl, by rw [ht]; exact hP9, hD9⟩, hS.F ht⟩) hS.2.2 dX9_likely_31

set_option maxHeartbeats 4000000 in
set_option maxRecDepth 100000 in
theorem kX9_parted (l : Launch) (D : va_G) (k : Nat → ClassId) (x : Nat) (u : Nat → Nat → Nat) (p0 : Int32) (p1 : Int32) (p2 : Int32) (sz : Nat) : Met l yX9_parted (wB yX9_parted cX9_parted 10 (some .int)) ({ frames := 1, cells := 0, slots := 0, locals := 21 }) (va_Pc [.ref x, .int p0, .int p1, .int p2] (PRE D k (C9 k x u) sz)) (va_Qi (S := Unit) (fun r _ => r = (-1)) (fun u t => PO D (va_A (C9 k x u) sz) ((fun _ => ([] : va_W)) u) t) (va_A (C9 k x u) sz)) 0 0 (va_A (C9 k x u) sz) := by
  refine Met.ofW (cc := cX9_parted) (maxL := 10) (ret := (some .int)) (by decide) rfl ?_
  intro p e s m args below meth c s₁ B hml hv
  obtain ⟨rfl, hsz, hP, hK, hD0, hE⟩ := hv
  have hx := B.exec
  have hb := B.bytes
  have hr := B.returns
  have hw : ∀ w ∈ wsL_law, w.before _ s = true := fun w h => atoms_spec (ws := wB yX9_parted cX9_parted 10 (some .int)) B.pre w (List.mem_cons_of_mem _ h)
  have hown : s.vm.findClass RX9 = some m.cls := findClass_of_methodNamed B.named
  have hlocks := B.notSynchronized
  subst hsz
  have hD := hD0.self (sz := s.heap.size)
  generalize hAe : va_A (C9 k x u) s.heap.size = A at hD ⊢
  have hA : ∀ q : Nat, s.heap.size ≤ q → A q := fun q h => by rw [← hAe]; exact Or.inr h
  have hS : va_S A s.heap s.heap [] := va_S.rf
  have hl := lv_entry ([.ref x, .int p0, .int p1, .int p2]) (n := 10) (Nat.le_of_ble_eq_true rfl)
  rw [lg_entry_eq]
  generalize (lg_sl ([.ref x, .int p0, .int p1, .int p2]) ++ List.replicate (10 - (lg_sl ([.ref x, .int p0, .int p1, .int p2])).length) Slot.unset).toArray = ls at hl ⊢
  have hl : lv_has ls 10 [(0, .ref x), (1, .int p0), (2, .int p1), (3, .int p2)] := hl
  refine lv_aload_n hx hb dX9_parted_0 rfl (lv_at hl 0 rfl) ?_
  refine lv_iload_n hx hb dX9_parted_1 rfl (lv_at hl 1 rfl) ?_
  refine x_i (wr := ([] : va_W)) (va_runV (As := [.int p0]) (rest := []) ⟨hx, hb, hml, hown, hw⟩ (kX9_isLog l D k x u p0 s.heap.size) (cwV 1 hw (gV wd_872 wd_873 wd_874 wd_2 wd_875) rfl rfl rfl (by decide +kernel) ⟨Nat.le_of_ble_eq_true rfl, Nat.le_of_ble_eq_true rfl⟩) (pre_V (ci := 9) (r := (RX9, TX9, 12)) hK hE hP hD [0, 1, 2, 3, 4, 5] (by decide) rfl rfl (q0 := 0) rfl) rfl rfl hl.1 rfl (lv_room (Nat.le_of_ble_eq_true rfl)) dX9_parted_2 ⟨Nat.le_of_ble_eq_true rfl, Nat.le_of_ble_eq_true rfl⟩) hP hD hS hA [0, 1, 2, 3, 4, 5] [] rfl rfl (by decide) (by decide) (fun r_3 u_1 H locs hp_2 hP hD hS => ?_)
  subst hp_2
  have hP : va_P D vwCl (C9 k x u) H := hP
  have hD : va_D A (C9 k x u) := hD
  refine lv_if_eq (tgt := 27) hx hb dX9_parted_5 (by decide) (fun _ => ?_) (fun h => absurd (by decide) h)
  refine lv_iconst (v := (-1)) hx hb dX9_parted_27 (by decide) ?_
  refine W.widen (k := 0) (n := 0) (Nat.le_of_ble_eq_true rfl) (Nat.le_of_ble_eq_true rfl) ?_
  have hP9 : va_P D vwCl ((fun _ => ([] : va_W)) ()) H := hP.sub [] rfl
  have hD9 : va_D A ((fun _ => ([] : va_W)) ()) := hD.sub [] (by decide) rfl
  exact W.iret (v := (-1)) hx hb hr (fun t ht hW => ⟨⟨(-1), (), rfl, rfl, by rw [ht]; exact hP9, hD9⟩, hS.F ht⟩) hS.2.2 dX9_parted_28

set_option maxHeartbeats 4000000 in
set_option maxRecDepth 100000 in
theorem kX9_owes (l : Launch) (D : va_G) (k : Nat → ClassId) (x : Nat) (u : Nat → Nat → Nat) (p0 : Int32) (p1 : Int32) (sz : Nat) : Met l yX9_owes (wB yX9_owes cX9_owes 3 (some .int)) ({ frames := 1, cells := 0, slots := 0, locals := 21 }) (va_Pc [.ref x, .int p0, .int p1] (PRE D k (C9 k x u) sz)) (va_Qi (S := Unit) (fun r _ => r = (-1)) (fun u t => PO D (va_A (C9 k x u) sz) ((fun _ => ([] : va_W)) u) t) (va_A (C9 k x u) sz)) 0 0 (va_A (C9 k x u) sz) := by
  refine Met.ofW (cc := cX9_owes) (maxL := 3) (ret := (some .int)) (by decide) rfl ?_
  intro p e s m args below meth c s₁ B hml hv
  obtain ⟨rfl, hsz, hP, hK, hD0, hE⟩ := hv
  have hx := B.exec
  have hb := B.bytes
  have hr := B.returns
  have hw : ∀ w ∈ wsL_law, w.before _ s = true := fun w h => atoms_spec (ws := wB yX9_owes cX9_owes 3 (some .int)) B.pre w (List.mem_cons_of_mem _ h)
  have hown : s.vm.findClass RX9 = some m.cls := findClass_of_methodNamed B.named
  have hlocks := B.notSynchronized
  subst hsz
  have hD := hD0.self (sz := s.heap.size)
  generalize hAe : va_A (C9 k x u) s.heap.size = A at hD ⊢
  have hA : ∀ q : Nat, s.heap.size ≤ q → A q := fun q h => by rw [← hAe]; exact Or.inr h
  have hS : va_S A s.heap s.heap [] := va_S.rf
  have hl := lv_entry ([.ref x, .int p0, .int p1]) (n := 3) (Nat.le_of_ble_eq_true rfl)
  rw [lg_entry_eq]
  generalize (lg_sl ([.ref x, .int p0, .int p1]) ++ List.replicate (3 - (lg_sl ([.ref x, .int p0, .int p1])).length) Slot.unset).toArray = ls at hl ⊢
  have hl : lv_has ls 3 [(0, .ref x), (1, .int p0), (2, .int p1)] := hl
  refine lv_aload_n hx hb dX9_owes_0 rfl (lv_at hl 0 rfl) ?_
  refine lv_iload_n hx hb dX9_owes_1 rfl (lv_at hl 1 rfl) ?_
  refine x_i (wr := ([] : va_W)) (va_runV (As := [.int p0]) (rest := []) ⟨hx, hb, hml, hown, hw⟩ (kX9_isVillage l D k x u p0 s.heap.size) (cwV 1 hw (gV wd_643 wd_644 wd_645 wd_2 wd_646) rfl rfl rfl (by decide +kernel) ⟨Nat.le_of_ble_eq_true rfl, Nat.le_of_ble_eq_true rfl⟩) (pre_V (ci := 9) (r := (RX9, TX9, 12)) hK hE hP hD [0, 1, 2, 3, 4, 5] (by decide) rfl rfl (q0 := 0) rfl) rfl rfl hl.1 rfl (lv_room (Nat.le_of_ble_eq_true rfl)) dX9_owes_2 ⟨Nat.le_of_ble_eq_true rfl, Nat.le_of_ble_eq_true rfl⟩) hP hD hS hA [0, 1, 2, 3, 4, 5] [] rfl rfl (by decide) (by decide) (fun r_3 u_1 H locs hp_2 hP hD hS => ?_)
  subst hp_2
  have hP : va_P D vwCl (C9 k x u) H := hP
  have hD : va_D A (C9 k x u) := hD
  refine lv_if_eq (tgt := 21) hx hb dX9_owes_5 (by decide) (fun _ => ?_) (fun h => absurd (by decide) h)
  refine lv_iconst (v := (-1)) hx hb dX9_owes_21 (by decide) ?_
  refine W.widen (k := 0) (n := 0) (Nat.le_of_ble_eq_true rfl) (Nat.le_of_ble_eq_true rfl) ?_
  have hP9 : va_P D vwCl ((fun _ => ([] : va_W)) ()) H := hP.sub [] rfl
  have hD9 : va_D A ((fun _ => ([] : va_W)) ()) := hD.sub [] (by decide) rfl
  exact W.iret (v := (-1)) hx hb hr (fun t ht hW => ⟨⟨(-1), (), rfl, rfl, by rw [ht]; exact hP9, hD9⟩, hS.F ht⟩) hS.2.2 dX9_owes_22

set_option maxHeartbeats 4000000 in
set_option maxRecDepth 100000 in
theorem kX9_payments (l : Launch) (D : va_G) (k : Nat → ClassId) (x : Nat) (u : Nat → Nat → Nat) (sz : Nat) : Met l yX9_payments (wB yX9_payments cX9_payments 7 (some .int)) ({ frames := 1, cells := 0, slots := 0, locals := 20 }) (va_Pc [.ref x] (PRE D k (C9 k x u) sz)) (va_Qi (S := Unit) (fun r _ => r = (-1)) (fun u t => PO D (va_A (C9 k x u) sz) ((fun _ => ([] : va_W)) u) t) (va_A (C9 k x u) sz)) 0 0 (va_A (C9 k x u) sz) := by
  refine Met.ofW (cc := cX9_payments) (maxL := 7) (ret := (some .int)) (by decide) rfl ?_
  intro p e s m args below meth c s₁ B hml hv
  obtain ⟨rfl, hsz, hP, hK, hD0, hE⟩ := hv
  have hx := B.exec
  have hb := B.bytes
  have hr := B.returns
  have hw : ∀ w ∈ wsL_law, w.before _ s = true := fun w h => atoms_spec (ws := wB yX9_payments cX9_payments 7 (some .int)) B.pre w (List.mem_cons_of_mem _ h)
  have hown : s.vm.findClass RX9 = some m.cls := findClass_of_methodNamed B.named
  have hlocks := B.notSynchronized
  subst hsz
  have hD := hD0.self (sz := s.heap.size)
  generalize hAe : va_A (C9 k x u) s.heap.size = A at hD ⊢
  have hA : ∀ q : Nat, s.heap.size ≤ q → A q := fun q h => by rw [← hAe]; exact Or.inr h
  have hS : va_S A s.heap s.heap [] := va_S.rf
  have hl := lv_entry ([.ref x]) (n := 7) (Nat.le_of_ble_eq_true rfl)
  rw [lg_entry_eq]
  generalize (lg_sl ([.ref x]) ++ List.replicate (7 - (lg_sl ([.ref x])).length) Slot.unset).toArray = ls at hl ⊢
  have hl : lv_has ls 7 [(0, .ref x)] := hl
  refine lv_aload_n hx hb dX9_payments_0 rfl (lv_at hl 0 rfl) ?_
  refine x_i (wr := ([] : va_W)) (va_runV (As := []) (rest := []) ⟨hx, hb, hml, hown, hw⟩ (kX9_hasRiver l D k x u  s.heap.size) (cwV 0 hw (gV wd_612 wd_613 wd_614 wd_2 wd_615) rfl rfl rfl (by decide +kernel) ⟨Nat.le_of_ble_eq_true rfl, Nat.le_of_ble_eq_true rfl⟩) (pre_V (ci := 9) (r := (RX9, TX9, 12)) hK hE hP hD [0, 1, 2, 3, 4, 5] (by decide) rfl rfl (q0 := 0) rfl) rfl rfl hl.1 rfl (lv_room (Nat.le_of_ble_eq_true rfl)) dX9_payments_1 ⟨Nat.le_of_ble_eq_true rfl, Nat.le_of_ble_eq_true rfl⟩) hP hD hS hA [0, 1, 2, 3, 4, 5] [] rfl rfl (by decide) (by decide) (fun r_3 u_1 H locs hp_2 hP hD hS => ?_)
  subst hp_2
  have hP : va_P D vwCl (C9 k x u) H := hP
  have hD : va_D A (C9 k x u) := hD
  refine lv_if_ne (tgt := 9) hx hb dX9_payments_4 (by decide) (fun h => absurd (by decide) h) (fun _ => ?_)
  refine lv_iconst (v := (-1)) hx hb dX9_payments_7 (by decide) ?_
  refine W.widen (k := 0) (n := 0) (Nat.le_of_ble_eq_true rfl) (Nat.le_of_ble_eq_true rfl) ?_
  have hP9 : va_P D vwCl ((fun _ => ([] : va_W)) ()) H := hP.sub [] rfl
  have hD9 : va_D A ((fun _ => ([] : va_W)) ()) := hD.sub [] (by decide) rfl
  exact W.iret (v := (-1)) hx hb hr (fun t ht hW => ⟨⟨(-1), (), rfl, rfl, by rw [ht]; exact hP9, hD9⟩, hS.F ht⟩) hS.2.2 dX9_payments_8

set_option maxHeartbeats 4000000 in
set_option maxRecDepth 100000 in
theorem kX9_repaid (l : Launch) (D : va_G) (k : Nat → ClassId) (x : Nat) (u : Nat → Nat → Nat) (p0 : Int32) (p1 : Int32) (p2 : Int32) (sz : Nat) : Met l yX9_repaid (wB yX9_repaid cX9_repaid 11 (some .int)) ({ frames := 1, cells := 0, slots := 0, locals := 21 }) (va_Pc [.ref x, .int p0, .int p1, .int p2] (PRE D k (C9 k x u) sz)) (va_Qi (S := Unit) (fun r _ => r = (-1)) (fun u t => PO D (va_A (C9 k x u) sz) ((fun _ => ([] : va_W)) u) t) (va_A (C9 k x u) sz)) 0 0 (va_A (C9 k x u) sz) := by
  refine Met.ofW (cc := cX9_repaid) (maxL := 11) (ret := (some .int)) (by decide) rfl ?_
  intro p e s m args below meth c s₁ B hml hv
  obtain ⟨rfl, hsz, hP, hK, hD0, hE⟩ := hv
  have hx := B.exec
  have hb := B.bytes
  have hr := B.returns
  have hw : ∀ w ∈ wsL_law, w.before _ s = true := fun w h => atoms_spec (ws := wB yX9_repaid cX9_repaid 11 (some .int)) B.pre w (List.mem_cons_of_mem _ h)
  have hown : s.vm.findClass RX9 = some m.cls := findClass_of_methodNamed B.named
  have hlocks := B.notSynchronized
  subst hsz
  have hD := hD0.self (sz := s.heap.size)
  generalize hAe : va_A (C9 k x u) s.heap.size = A at hD ⊢
  have hA : ∀ q : Nat, s.heap.size ≤ q → A q := fun q h => by rw [← hAe]; exact Or.inr h
  have hS : va_S A s.heap s.heap [] := va_S.rf
  have hl := lv_entry ([.ref x, .int p0, .int p1, .int p2]) (n := 11) (Nat.le_of_ble_eq_true rfl)
  rw [lg_entry_eq]
  generalize (lg_sl ([.ref x, .int p0, .int p1, .int p2]) ++ List.replicate (11 - (lg_sl ([.ref x, .int p0, .int p1, .int p2])).length) Slot.unset).toArray = ls at hl ⊢
  have hl : lv_has ls 11 [(0, .ref x), (1, .int p0), (2, .int p1), (3, .int p2)] := hl
  refine lv_aload_n hx hb dX9_repaid_0 rfl (lv_at hl 0 rfl) ?_
  refine lv_iload_n hx hb dX9_repaid_1 rfl (lv_at hl 1 rfl) ?_
  refine x_i (wr := ([] : va_W)) (va_runV (As := [.int p0]) (rest := []) ⟨hx, hb, hml, hown, hw⟩ (kX9_isVillage l D k x u p0 s.heap.size) (cwV 1 hw (gV wd_643 wd_644 wd_645 wd_2 wd_646) rfl rfl rfl (by decide +kernel) ⟨Nat.le_of_ble_eq_true rfl, Nat.le_of_ble_eq_true rfl⟩) (pre_V (ci := 9) (r := (RX9, TX9, 12)) hK hE hP hD [0, 1, 2, 3, 4, 5] (by decide) rfl rfl (q0 := 0) rfl) rfl rfl hl.1 rfl (lv_room (Nat.le_of_ble_eq_true rfl)) dX9_repaid_2 ⟨Nat.le_of_ble_eq_true rfl, Nat.le_of_ble_eq_true rfl⟩) hP hD hS hA [0, 1, 2, 3, 4, 5] [] rfl rfl (by decide) (by decide) (fun r_3 u_1 H locs hp_2 hP hD hS => ?_)
  subst hp_2
  have hP : va_P D vwCl (C9 k x u) H := hP
  have hD : va_D A (C9 k x u) := hD
  refine lv_if_eq (tgt := 30) hx hb dX9_repaid_5 (by decide) (fun _ => ?_) (fun h => absurd (by decide) h)
  refine lv_iconst (v := (-1)) hx hb dX9_repaid_30 (by decide) ?_
  refine W.widen (k := 0) (n := 0) (Nat.le_of_ble_eq_true rfl) (Nat.le_of_ble_eq_true rfl) ?_
  have hP9 : va_P D vwCl ((fun _ => ([] : va_W)) ()) H := hP.sub [] rfl
  have hD9 : va_D A ((fun _ => ([] : va_W)) ()) := hD.sub [] (by decide) rfl
  exact W.iret (v := (-1)) hx hb hr (fun t ht hW => ⟨⟨(-1), (), rfl, rfl, by rw [ht]; exact hP9, hD9⟩, hS.F ht⟩) hS.2.2 dX9_repaid_31

set_option maxHeartbeats 4000000 in
set_option maxRecDepth 100000 in
theorem kX9_drawn (l : Launch) (D : va_G) (k : Nat → ClassId) (x : Nat) (u : Nat → Nat → Nat) (p0 : Int32) (p1 : Int32) (p2 : Int32) (p3 : Int32) (sz : Nat) : Met l yX9_drawn (wB yX9_drawn cX9_drawn 11 (some .int)) ({ frames := 1, cells := 0, slots := 0, locals := 20 }) (va_Pc [.ref x, .int p0, .int p1, .int p2, .int p3] (PRE D k (C9 k x u) sz)) (va_Qi (S := Unit) (fun r _ => r = (-1)) (fun u t => PO D (va_A (C9 k x u) sz) ((fun _ => ([] : va_W)) u) t) (va_A (C9 k x u) sz)) 0 0 (va_A (C9 k x u) sz) := by
  refine Met.ofW (cc := cX9_drawn) (maxL := 11) (ret := (some .int)) (by decide) rfl ?_
  intro p e s m args below meth c s₁ B hml hv
  obtain ⟨rfl, hsz, hP, hK, hD0, hE⟩ := hv
  have hx := B.exec
  have hb := B.bytes
  have hr := B.returns
  have hw : ∀ w ∈ wsL_law, w.before _ s = true := fun w h => atoms_spec (ws := wB yX9_drawn cX9_drawn 11 (some .int)) B.pre w (List.mem_cons_of_mem _ h)
  have hown : s.vm.findClass RX9 = some m.cls := findClass_of_methodNamed B.named
  have hlocks := B.notSynchronized
  subst hsz
  have hD := hD0.self (sz := s.heap.size)
  generalize hAe : va_A (C9 k x u) s.heap.size = A at hD ⊢
  have hA : ∀ q : Nat, s.heap.size ≤ q → A q := fun q h => by rw [← hAe]; exact Or.inr h
  have hS : va_S A s.heap s.heap [] := va_S.rf
  have hl := lv_entry ([.ref x, .int p0, .int p1, .int p2, .int p3]) (n := 11) (Nat.le_of_ble_eq_true rfl)
  rw [lg_entry_eq]
  generalize (lg_sl ([.ref x, .int p0, .int p1, .int p2, .int p3]) ++ List.replicate (11 - (lg_sl ([.ref x, .int p0, .int p1, .int p2, .int p3])).length) Slot.unset).toArray = ls at hl ⊢
  have hl : lv_has ls 11 [(0, .ref x), (1, .int p0), (2, .int p1), (3, .int p2), (4, .int p3)] := hl
  refine lv_aload_n hx hb dX9_drawn_0 rfl (lv_at hl 0 rfl) ?_
  refine x_i (wr := ([] : va_W)) (va_runV (As := []) (rest := []) ⟨hx, hb, hml, hown, hw⟩ (kX9_hasRiver l D k x u  s.heap.size) (cwV 0 hw (gV wd_612 wd_613 wd_614 wd_2 wd_615) rfl rfl rfl (by decide +kernel) ⟨Nat.le_of_ble_eq_true rfl, Nat.le_of_ble_eq_true rfl⟩) (pre_V (ci := 9) (r := (RX9, TX9, 12)) hK hE hP hD [0, 1, 2, 3, 4, 5] (by decide) rfl rfl (q0 := 0) rfl) rfl rfl hl.1 rfl (lv_room (Nat.le_of_ble_eq_true rfl)) dX9_drawn_1 ⟨Nat.le_of_ble_eq_true rfl, Nat.le_of_ble_eq_true rfl⟩) hP hD hS hA [0, 1, 2, 3, 4, 5] [] rfl rfl (by decide) (by decide) (fun r_3 u_1 H locs hp_2 hP hD hS => ?_)
  subst hp_2
  have hP : va_P D vwCl (C9 k x u) H := hP
  have hD : va_D A (C9 k x u) := hD
  refine lv_if_eq (tgt := 50) hx hb dX9_drawn_4 (by decide) (fun _ => ?_) (fun h => absurd (by decide) h)
  refine lv_iconst (v := (-1)) hx hb dX9_drawn_50 (by decide) ?_
  refine W.widen (k := 0) (n := 0) (Nat.le_of_ble_eq_true rfl) (Nat.le_of_ble_eq_true rfl) ?_
  have hP9 : va_P D vwCl ((fun _ => ([] : va_W)) ()) H := hP.sub [] rfl
  have hD9 : va_D A ((fun _ => ([] : va_W)) ()) := hD.sub [] (by decide) rfl
  exact W.iret (v := (-1)) hx hb hr (fun t ht hW => ⟨⟨(-1), (), rfl, rfl, by rw [ht]; exact hP9, hD9⟩, hS.F ht⟩) hS.2.2 dX9_drawn_51
