theorem dvX10 : ∀ j, j < 80 → defaultValue (tyX10 j) = vp_V [.int 0, .null, .null, .null, .null, .null, .null, .null, .null, .null, .null, .null, .null, .null, .null, .null, .null, .null, .null, .null, .null, .null, .null, .null, .null, .null, .null, .null, .null, .null, .null, .null, .null, .null, .null, .null, .null, .int 0, .int 0, .int 0, .int 0, .int 0, .int 0, .int 0, .int 0, .int 0, .int 0, .int 0, .null, .null, .null, .null, .null, .null, .null, .null, .null, .null, .null, .null, .null, .int 0, .int 0, .int 0, .int 0, .int 0, .int 0, .int 0, .null, .null, .null, .null, .null, .int 0, .int 0, .null, .null, .null, .int 0, .int 0] j := by decide +kernel
set_option maxHeartbeats 4000000 in
set_option maxRecDepth 100000 in
theorem law_in {p : Program} {l : Launch} {e : Env} {s : State} {m : MethodId} {below : List Frame} {meth : Method} {c : Code} {D : va_G} {k : Nat → ClassId} {sd : Nat → Nat} {A : Nat → Prop} {b : Nat} {f : Nat → Int32} {L : Nat} {x y : Nat} {u : Nat → Nat → Nat} {v : Nat → Nat} {H : Heap} {locs : List Loc} {ls : Array Slot} (hL : L ≤ 3072)
    (hx : p.tables.exec = Jvm.exec) (hb : c.code = code) (hr : meth.sig.returnType = ret) (hml : c.maxLocals = 4) (hown : s.vm.findClass RL = some m.cls) (hw : ∀ w ∈ wsB, w.before #[Value.ref b] s = true) (hXs : va_X b L f s s.heap) (hbl : b < s.heap.size) (hlocks : meth.locks = false) (hK : va_K D vwCl (TY k) s) (hE : EX s) (hX : SX sd A s s.heap) (hA : ∀ q : Nat, s.heap.size ≤ q → A q) (hAr : ∀ q : Nat, A q → s.heap.size ≤ q) (hbA : ¬ A b)
    (hP : va_P D vwCl (WL k x u y v) H) (hD : va_D A (WL k x u y v)) (hS : va_S A s.heap H locs) (hl : lv_has ls 4 [(0, .ref b), (1, .ref x), (2, .ref y), (3, .int 0)]) : W p l e room_1 s m #[Value.ref b] below meth c H locs 287 18933 (lw_Z below #[Value.ref b] s) (F0 m 18 ls []) := by
  have hAA : AA (adF x u y v) s.heap.size = A := by
    funext q
    apply propext
    constructor
    · intro h
      rcases h with ⟨c, hc, rfl⟩ | h
      · exact adF_in hD c hc
      · exact hA q h
    · intro h
      exact Or.inr (hAr q h)
  have hO : OkL (l, D, k, sd, adF x u y v) (p, e, room_1, s, m, #[Value.ref b], below, meth, c) b L f := by
    refine ⟨hx, hb, hml, hown, hw, hK, hE, ?_, adF_inj hD, hlocks, hXs, hbl, ?_, ?_, hr, hL⟩
    · show SX sd (AA (adF x u y v) s.heap.size) s s.heap
      rw [hAA]; exact hX
    · show ¬ AA (adF x u y v) s.heap.size b
      rw [hAA]; exact hbA
    · show ∀ q, AA (adF x u y v) s.heap.size q → s.heap.size ≤ q
      rw [hAA]; exact hAr
  have g := law_loop hO _ 0 M0 inv0 relc0 (by decide) (by decide) rfl H locs ls (hp_start hP) (by
    show va_S (AA (adF x u y v) s.heap.size) s.heap H locs
    rw [hAA]; exact hS) hl
  exact g
set_option maxHeartbeats 4000000 in
set_option maxRecDepth 100000 in
theorem whole_start {p : Program} {e : Env} {s : State} {m : MethodId} {below : List Frame} {meth : Method} {c : Code} (l : Launch) (hflags : l.flags = flags0) {b L : Nat} {xs : Nat → Int32} (hL : L ≤ 3072) (C0 : lw_At p s m meth c b L xs) : W p l e room_1 s m #[Value.ref b] below meth c s.heap [] 0 0 (lw_Z below #[Value.ref b] s) (entryFrame m ([Value.ref b] : List Value).toArray 4) := by
  obtain ⟨hx, hb, hr, hml, hown, hts, hXs, hbl, hlocks, hgv⟩ := C0
  have hw : ∀ w ∈ wsB, w.before #[Value.ref b] s = true := fun w h => hts w (wB_in w h)
  obtain ⟨D, k, sd, hK, hE, hX⟩ := start_facts hts hgv
  obtain ⟨A, hAe⟩ : ∃ A : Nat → Prop, A = fun q : Nat => s.heap.size ≤ q := ⟨_, rfl⟩
  rw [← hAe] at hX
  have hA : ∀ q : Nat, s.heap.size ≤ q → A q := fun q h => by rw [hAe]; exact h
  have hAr : ∀ q : Nat, A q → s.heap.size ≤ q := fun q h => by rw [hAe] at h; exact h
  have hbA : ¬ A b := fun h => Nat.not_le.mpr hbl (hAr b h)
  have hS : va_S A s.heap s.heap [] := va_S.rf
  have hP : va_P D vwCl ([] : va_W) s.heap := fun k q h => by simp at h
  have hD : va_D A ([] : va_W) := ⟨fun i j p q h => by simp at h, fun k q h => by simp at h⟩
  have hl := lv_entry ([.ref b]) (n := 4) (Nat.le_of_ble_eq_true rfl)
  rw [lg_entry_eq]
  generalize (lg_sl ([.ref b]) ++ List.replicate (4 - (lg_sl ([.ref b])).length) Slot.unset).toArray = ls at hl ⊢
  have hl : lv_has ls 4 [(0, .ref b)] := hl
  refine va_new (ci := 9) (fs := [.null, .null, .null, .null, .int 0, .null, .null, .null, .null, .null, .null, .null]) (C := RX9) (T := TX9) (N := 12) hx hb hw inlX9 tyX9 tyX9_ok hown (hw _ wd_20) (hw _ wd_21) (hw _ wd_1) hK hP hD hS hA rfl (fun j hj => by rcases (show j = 0 ∨ j = 1 ∨ j = 2 ∨ j = 3 ∨ j = 4 ∨ j = 5 ∨ j = 6 ∨ j = 7 ∨ j = 8 ∨ j = 9 ∨ j = 10 ∨ j = 11 by omega) with rfl | rfl | rfl | rfl | rfl | rfl | rfl | rfl | rfl | rfl | rfl | rfl <;> rfl) (Nat.le_of_ble_eq_true rfl) (Nat.le_of_ble_eq_true rfl) dL_law_0 (fun q_1 H hP hD hS => ?_)
  refine W.widen (k := 1) (n := 12) (Nat.le_of_ble_eq_true rfl) (Nat.le_of_ble_eq_true rfl) ?_
  refine lv_dup hx hb dL_law_3 rfl ?_
  refine x_vL (va_runI (As := []) (rest := [.ref q_1]) ⟨hx, hb, hml, hown, hw⟩ (kX9_init l D k sd q_1 H.size) (cwI 0 hw (gM wd_24) rfl rfl rfl (hw _ wd_1) (hw _ wd_22) (hw _ wd_23) rfl (by decide +kernel) ⟨Nat.le_of_ble_eq_true rfl, Nat.le_of_ble_eq_true rfl⟩) (pre_SL hK hE hX hP hD hS hA) rfl rfl hl.1 rfl (lv_room (Nat.le_of_ble_eq_true rfl)) dL_law_4 ⟨Nat.le_of_ble_eq_true rfl, Nat.le_of_ble_eq_true rfl⟩) hP hD hS hA (fun u_2 H locs hp_3 hP hD hS => ?_)
  refine W.widen (k := 229) (n := 8351) (Nat.le_of_ble_eq_true rfl) (Nat.le_of_ble_eq_true rfl) ?_
  refine lv_astore_n (lv' := [(1, .ref q_1), (0, .ref b)]) hx hb dL_law_7 rfl hl (by decide) rfl (fun ls hl => ?_)
  refine va_new (ci := 10) (fs := [.int 0, .null, .null, .null, .null, .null, .null, .null, .null, .null, .null, .null, .null, .null, .null, .null, .null, .null, .null, .null, .null, .null, .null, .null, .null, .null, .null, .null, .null, .null, .null, .null, .null, .null, .null, .null, .null, .int 0, .int 0, .int 0, .int 0, .int 0, .int 0, .int 0, .int 0, .int 0, .int 0, .int 0, .null, .null, .null, .null, .null, .null, .null, .null, .null, .null, .null, .null, .null, .int 0, .int 0, .int 0, .int 0, .int 0, .int 0, .int 0, .null, .null, .null, .null, .null, .int 0, .int 0, .null, .null, .null, .int 0, .int 0]) (C := RX10) (T := TX10) (N := 80) hx hb hw inlX10 tyX10 tyX10_ok hown (hw _ wd_1130) (hw _ wd_1131) (hw _ wd_11) hK hP hD hS hA rfl (fun j hj => dvX10 j hj) (Nat.le_of_ble_eq_true rfl) (Nat.le_of_ble_eq_true rfl) dL_law_8 (fun q_5 H hP hD hS => ?_)
  refine W.widen (k := 230) (n := 8431) (Nat.le_of_ble_eq_true rfl) (Nat.le_of_ble_eq_true rfl) ?_
  refine lv_dup hx hb dL_law_11 rfl ?_
  refine x_vL (va_runI (As := []) (rest := [.ref q_5]) ⟨hx, hb, hml, hown, hw⟩ (kX10_init l D k sd q_5 H.size) (cwI 0 hw (gM wd_1134) rfl rfl rfl (hw _ wd_11) (hw _ wd_1132) (hw _ wd_1133) rfl (by decide +kernel) ⟨Nat.le_of_ble_eq_true rfl, Nat.le_of_ble_eq_true rfl⟩) (pre_SL hK hE hX hP hD hS hA) rfl rfl hl.1 rfl (lv_room (Nat.le_of_ble_eq_true rfl)) dL_law_12 ⟨Nat.le_of_ble_eq_true rfl, Nat.le_of_ble_eq_true rfl⟩) hP hD hS hA (fun u_6 H locs hp_7 hP hD hS => ?_)
  refine W.widen (k := 287) (n := 18933) (Nat.le_of_ble_eq_true rfl) (Nat.le_of_ble_eq_true rfl) ?_
  refine lv_astore_n (lv' := [(2, .ref q_5), (1, .ref q_1), (0, .ref b)]) hx hb dL_law_15 rfl hl (by decide) rfl (fun ls hl => ?_)
  refine lv_iconst (v := 0) hx hb dL_law_16 (by decide) ?_
  refine lv_istore_n (lv' := [(3, .int 0), (2, .ref q_5), (1, .ref q_1), (0, .ref b)]) hx hb dL_law_17 rfl hl (by decide) rfl (fun ls hl => ?_)
  have hP : va_P D vwCl (WL k q_1 u_2 q_5 u_6) H := by rw [← WL_eq]; exact hP
  have hD : va_D A (WL k q_1 u_2 q_5 u_6) := by rw [← WL_eq]; exact hD
  have hl : lv_has ls 4 [(0, .ref b), (1, .ref q_1), (2, .ref q_5), (3, .int 0)] := lv_sub hl [3, 2, 1, 0] rfl
  exact law_in hL hx hb hr hml hown hw hXs hbl hlocks hK hE hX hA hAr hbA hP hD hS hl
