abbrev qctX10_isRiver3 (M : zM)  (z : Int) (M' : zM) : Prop := M = M' ∧ 0 ≤ z ∧ z ≤ 1 ∧ ((z = 1 ∧ 0 < M (229 + 1) 0) ∨ (z = 0 ∧ M (229 + 1) 0 ≤ 0))
set_option maxHeartbeats 4000000 in
set_option maxRecDepth 100000 in
theorem ctX10_isRiver3 (Γ : Gam) (M : zM)   : CtI Γ yX10_isRiver cX10_isRiver 1 (some .boolean) 0 0 [aR Γ 229] M (qctX10_isRiver3 M) := by
  refine met_i (by decide) (Nat.le_of_ble_eq_true rfl) (fun x hx hr => ?_)
  show G Γ x 1 (QI Γ x (qctX10_isRiver3 M)) M 0 [(0, aR Γ 229)] []
  refine g_aload_n (n := 1) hx 0 (dq tX10_isRiver 0 rfl) rfl rfl ?_
  refine g_getR (n := 4) hx glX10_9 (sX10_1 (by decide)) (dq tX10_isRiver 1 rfl) rfl ?_
  refine g_iconst (n := 5) hx (dq tX10_isRiver 2 rfl) rfl ?_
  refine g_ialdX (n := 6) (q := 0) hx (aX10_1 (b := 229) (by decide)) (dq tX10_isRiver 3 rfl) rfl (by decide) (by decide) (by decide) rfl (fun h_1l h_1u => ?_)
  have h_1l : 0 ≤ M (229 + 1) 0 := h_1l
  have h_1u : M (229 + 1) 0 ≤ 9 := h_1u
  refine g_if_le (n := 9) (t := 13) hx (dq tX10_isRiver 4 rfl) (by decide) rfl (zrI h_1l h_1u (by decide) (by decide)) (fun c_2 => ?_) (fun c_2 => ?_)
  · refine g_iconst (n := 14) hx (dq tX10_isRiver 7 rfl) rfl ?_
    exact g_zret hx hr (dq tX10_isRiver 8 rfl) (by omega) ⟨rfl, (by omega), (by omega), (by omega)⟩
  · refine g_iconst (n := 10) hx (dq tX10_isRiver 5 rfl) rfl ?_
    refine g_goto (n := 14) hx (dq tX10_isRiver 6 rfl) (by decide) ?_
    exact g_zret hx hr (dq tX10_isRiver 8 rfl) (by omega) ⟨rfl, (by omega), (by omega), (by omega)⟩

abbrev qctX10_isVillage3 (M : zM) (v : Int) (z : Int) (M' : zM) : Prop := M = M' ∧ 0 ≤ z ∧ z ≤ 1 ∧ ((z = 1 ∧ 0 ≤ v ∧ v ≤ 5 ∧ v < M (229 + 1) 1) ∨ (z = 0 ∧ (v < 0 ∨ M (229 + 1) 1 ≤ v)))
set_option maxHeartbeats 4000000 in
set_option maxRecDepth 100000 in
theorem ctX10_isVillage3 (Γ : Gam) (M : zM) (v : Int) (hvl : (-2147483648) ≤ v) (hvu : v ≤ 2147483647)  : CtI Γ yX10_isVillage cX10_isVillage 2 (some .boolean) 1 25 [aR Γ 229, vI v] M (qctX10_isVillage3 M v) := by
  refine met_i (by decide) (Nat.le_of_ble_eq_true rfl) (fun x hx hr => ?_)
  show G Γ x 2 (QI Γ x (qctX10_isVillage3 M v)) M 0 [(0, aR Γ 229), (1, vI v)] []
  refine g_iload_n (n := 1) hx 1 (dq tX10_isVillage 0 rfl) rfl rfl ?_
  refine g_i2l (n := 2) hx (dq tX10_isVillage 1 rfl) rfl (zrI hvl hvu (by decide) (by decide)) ?_
  refine g_lconst (n := 3) (z := 0) hx (dq tX10_isVillage 2 rfl) rfl (by decide) ?_
  refine g_aload_n (n := 4) hx 0 (dq tX10_isVillage 3 rfl) rfl rfl ?_
  refine g_getR (n := 7) hx glX10_9 (sX10_1 (by decide)) (dq tX10_isVillage 4 rfl) rfl ?_
  refine g_iconst (n := 8) hx (dq tX10_isVillage 5 rfl) rfl ?_
  refine g_ialdX (n := 9) (q := 1) hx (aX10_1 (b := 229) (by decide)) (dq tX10_isVillage 6 rfl) rfl (by decide) (by decide) (by decide) rfl (fun h_1l h_1u => ?_)
  have h_1l : 0 ≤ M (229 + 1) 1 := h_1l
  have h_1u : M (229 + 1) 1 ≤ 6 := h_1u
  refine g_iconst (n := 10) hx (dq tX10_isVillage 7 rfl) rfl ?_
  refine g_isub (n := 11) hx (dq tX10_isVillage 8 rfl) rfl ?_
  refine g_i2l (n := 12) hx (dq tX10_isVillage 9 rfl) rfl ⟨by omega, by omega⟩ ?_
  refine g_callSi (n := 15) (As := [vL v, vL 0, vL ((M (229 + 1) 1) - 1)]) (rest := []) hx (ctX10_in Γ M v (by omega) (by omega) 0 (by omega) (by omega) ((M (229 + 1) 1) - 1) (by omega) (by omega)) mlX10_191 (dq tX10_isVillage 10 rfl) rfl (Nat.le_of_ble_eq_true rfl) (Nat.le_of_ble_eq_true rfl) (Nat.le_of_ble_eq_true rfl) rfl (fun z_2 M_3 h_4 p_5 => ?_)
  obtain ⟨rfl, b_7, h_8⟩ := p_5
  exact g_zret hx hr (dq tX10_isVillage 11 rfl) (by omega) ⟨rfl, (by omega), (by omega), (by omega)⟩

abbrev qctX10_isLog3 (M : zM) (l : Int) (z : Int) (M' : zM) : Prop := M = M' ∧ 0 ≤ z ∧ z ≤ 1 ∧ ((z = 1 ∧ 0 ≤ l ∧ l ≤ 11 ∧ l < M (229 + 1) 3) ∨ (z = 0 ∧ (l < 0 ∨ M (229 + 1) 3 ≤ l)))
set_option maxHeartbeats 4000000 in
set_option maxRecDepth 100000 in
theorem ctX10_isLog3 (Γ : Gam) (M : zM) (l : Int) (hll : (-2147483648) ≤ l) (hlu : l ≤ 2147483647)  : CtI Γ yX10_isLog cX10_isLog 2 (some .boolean) 1 25 [aR Γ 229, vI l] M (qctX10_isLog3 M l) := by
  refine met_i (by decide) (Nat.le_of_ble_eq_true rfl) (fun x hx hr => ?_)
  show G Γ x 2 (QI Γ x (qctX10_isLog3 M l)) M 0 [(0, aR Γ 229), (1, vI l)] []
  refine g_iload_n (n := 1) hx 1 (dq tX10_isLog 0 rfl) rfl rfl ?_
  refine g_i2l (n := 2) hx (dq tX10_isLog 1 rfl) rfl (zrI hll hlu (by decide) (by decide)) ?_
  refine g_lconst (n := 3) (z := 0) hx (dq tX10_isLog 2 rfl) rfl (by decide) ?_
  refine g_aload_n (n := 4) hx 0 (dq tX10_isLog 3 rfl) rfl rfl ?_
  refine g_getR (n := 7) hx glX10_9 (sX10_1 (by decide)) (dq tX10_isLog 4 rfl) rfl ?_
  refine g_iconst (n := 8) hx (dq tX10_isLog 5 rfl) rfl ?_
  refine g_ialdX (n := 9) (q := 3) hx (aX10_1 (b := 229) (by decide)) (dq tX10_isLog 6 rfl) rfl (by decide) (by decide) (by decide) rfl (fun h_1l h_1u => ?_)
  have h_1l : 0 ≤ M (229 + 1) 3 := h_1l
  have h_1u : M (229 + 1) 3 ≤ 12 := h_1u
  refine g_iconst (n := 10) hx (dq tX10_isLog 7 rfl) rfl ?_
  refine g_isub (n := 11) hx (dq tX10_isLog 8 rfl) rfl ?_
  refine g_i2l (n := 12) hx (dq tX10_isLog 9 rfl) rfl ⟨by omega, by omega⟩ ?_
  refine g_callSi (n := 15) (As := [vL l, vL 0, vL ((M (229 + 1) 3) - 1)]) (rest := []) hx (ctX10_in Γ M l (by omega) (by omega) 0 (by omega) (by omega) ((M (229 + 1) 3) - 1) (by omega) (by omega)) mlX10_191 (dq tX10_isLog 10 rfl) rfl (Nat.le_of_ble_eq_true rfl) (Nat.le_of_ble_eq_true rfl) (Nat.le_of_ble_eq_true rfl) rfl (fun z_2 M_3 h_4 p_5 => ?_)
  obtain ⟨rfl, b_7, h_8⟩ := p_5
  exact g_zret hx hr (dq tX10_isLog 11 rfl) (by omega) ⟨rfl, (by omega), (by omega), (by omega)⟩

abbrev qctX10_isRuleOrNone3 (M : zM) (r : Int) (z : Int) (M' : zM) : Prop := M = M' ∧ 0 ≤ z ∧ z ≤ 1 ∧ ((z = 1 ∧ -1 ≤ r ∧ r ≤ 5 ∧ r < M 229 41) ∨ (z = 0 ∧ (r < -1 ∨ M 229 41 ≤ r)))
set_option maxHeartbeats 4000000 in
set_option maxRecDepth 100000 in
theorem ctX10_isRuleOrNone3 (Γ : Gam) (M : zM) (r : Int) (hrl : (-2147483648) ≤ r) (hru : r ≤ 2147483647)  : CtI Γ yX10_isRuleOrNone cX10_isRuleOrNone 2 (some .boolean) 1 25 [aR Γ 229, vI r] M (qctX10_isRuleOrNone3 M r) := by
  refine met_i (by decide) (Nat.le_of_ble_eq_true rfl) (fun x hx hr => ?_)
  show G Γ x 2 (QI Γ x (qctX10_isRuleOrNone3 M r)) M 0 [(0, aR Γ 229), (1, vI r)] []
  refine g_iload_n (n := 1) hx 1 (dq tX10_isRuleOrNone 0 rfl) rfl rfl ?_
  refine g_i2l (n := 2) hx (dq tX10_isRuleOrNone 1 rfl) rfl (zrI hrl hru (by decide) (by decide)) ?_
  refine g_ldc2 (n := 5) (z := (-1)) hx wd_1562 (by decide) (dq tX10_isRuleOrNone 2 rfl) rfl ?_
  refine g_aload_n (n := 6) hx 0 (dq tX10_isRuleOrNone 3 rfl) rfl rfl ?_
  refine g_getI (n := 9) hx glX10_405 (sX10_41 (by decide)) (dq tX10_isRuleOrNone 4 rfl) rfl (fun h_1l h_1u => ?_)
  refine g_iconst (n := 10) hx (dq tX10_isRuleOrNone 5 rfl) rfl ?_
  refine g_isub (n := 11) hx (dq tX10_isRuleOrNone 6 rfl) rfl ?_
  refine g_i2l (n := 12) hx (dq tX10_isRuleOrNone 7 rfl) rfl ⟨by omega, by omega⟩ ?_
  refine g_callSi (n := 15) (As := [vL r, vL (-1), vL ((M 229 41) - 1)]) (rest := []) hx (ctX10_in Γ M r (by omega) (by omega) (-1) (by omega) (by omega) ((M 229 41) - 1) (by omega) (by omega)) mlX10_191 (dq tX10_isRuleOrNone 8 rfl) rfl (Nat.le_of_ble_eq_true rfl) (Nat.le_of_ble_eq_true rfl) (Nat.le_of_ble_eq_true rfl) rfl (fun z_2 M_3 h_4 p_5 => ?_)
  obtain ⟨rfl, b_7, h_8⟩ := p_5
  exact g_zret hx hr (dq tX10_isRuleOrNone 9 rfl) (by omega) ⟨rfl, (by omega), (by omega), (by omega)⟩

abbrev qctX10_force3 (M : zM) (r : Int) (z : Int) (M' : zM) : Prop := (∀ u_ v_, (u_ ≠ 229 + 1 ∨ v_ ≠ 15) → M' u_ v_ = M u_ v_) ∧ Gm M' ∧ Rl M' ∧ On M' ∧ ((0 < M (229 + 1) 0 ∧ -1 ≤ r ∧ r < M 229 41 ∧ z = M (229 + 1) 15 ∧ M' (229 + 1) 15 = r) ∨ (¬ (0 < M (229 + 1) 0 ∧ -1 ≤ r ∧ r < M 229 41) ∧ z = -2 ∧ M' (229 + 1) 15 = M (229 + 1) 15))
set_option maxHeartbeats 4000000 in
set_option maxRecDepth 100000 in
theorem ctX10_force3 (Γ : Gam) (M : zM) (r : Int) (hrl : (-2147483648) ≤ r) (hru : r ≤ 2147483647) (gm : Gm M) (rl : Rl M) (on : On M) : CtI Γ yX10_force cX10_force 3 (some .int) 2 46 [aR Γ 229, vI r] M (qctX10_force3 M r) := by
  refine met_i (by decide) (Nat.le_of_ble_eq_true rfl) (fun x hx hr => ?_)
  show G Γ x 3 (QI Γ x (qctX10_force3 M r)) M 0 [(0, aR Γ 229), (1, vI r)] []
  refine g_aload_n (n := 1) hx 0 (dq tX10_force 0 rfl) rfl rfl ?_
  refine g_callVi (n := 4) (As := []) (rest := []) hx (ctX10_isRiver3 Γ M ) mlX10_413 (obX10 (by decide)) (dq tX10_force 1 rfl) rfl (Nat.le_of_ble_eq_true rfl) (Nat.le_of_ble_eq_true rfl) (Nat.le_of_ble_eq_true rfl) rfl (fun z_1 M_2 h_3 p_4 => ?_)
  obtain ⟨rfl, h_6, h_7, h_8⟩ := p_4
  refine g_if_eq (n := 7) (t := 15) hx (dq tX10_force 2 rfl) (by decide) rfl h_3 (fun c_9 => ?_) (fun c_9 => ?_)
  · refine g_bipush (n := 17) hx (dq tX10_force 7 rfl) rfl (by decide) ?_
    exact g_iret hx hr (dq tX10_force 8 rfl) ⟨by decide, by decide⟩ ⟨(fun _ _ _ => rfl), gm, rl, on, (by omega)⟩
  · refine g_aload_n (n := 8) hx 0 (dq tX10_force 3 rfl) rfl rfl ?_
    refine g_iload_n (n := 9) hx 1 (dq tX10_force 4 rfl) rfl rfl ?_
    refine g_callVi (n := 12) (As := [vI r]) (rest := []) hx (ctX10_isRuleOrNone3 Γ M r (by omega) (by omega)) mlX10_416 (obX10 (by decide)) (dq tX10_force 5 rfl) rfl (Nat.le_of_ble_eq_true rfl) (Nat.le_of_ble_eq_true rfl) (Nat.le_of_ble_eq_true rfl) rfl (fun z_10 M_11 h_12 p_13 => ?_)
    obtain ⟨rfl, h_15, h_16, h_17⟩ := p_13
    refine g_if_ne (n := 15) (t := 18) hx (dq tX10_force 6 rfl) (by decide) rfl h_12 (fun c_18 => ?_) (fun c_18 => ?_)
    · refine g_aload_n (n := 19) hx 0 (dq tX10_force 9 rfl) rfl rfl ?_
      refine g_getR (n := 22) hx glX10_9 (sX10_1 (by decide)) (dq tX10_force 10 rfl) rfl ?_
      refine g_bipush (n := 24) hx (dq tX10_force 11 rfl) rfl (by decide) ?_
      refine g_ialdX (n := 25) (q := 15) hx (aX10_1 (b := 229) (by decide)) (dq tX10_force 12 rfl) rfl (by decide) (by decide) (by decide) rfl (fun h_19l h_19u => ?_)
      have h_19l : (-1) ≤ M (229 + 1) 15 := h_19l
      have h_19u : M (229 + 1) 15 ≤ 5 := h_19u
      refine g_istore_n (n := 26) (lv' := [(2, vI (M (229 + 1) 15)), (0, aR Γ 229), (1, vI r)]) hx (dq tX10_force 13 rfl) (by decide) rfl rfl ?_
      refine g_aload_n (n := 27) hx 1 (dq tX10_force 14 rfl) rfl rfl ?_
      refine g_getR (n := 30) hx glX10_9 (sX10_1 (by decide)) (dq tX10_force 15 rfl) rfl ?_
      refine g_bipush (n := 32) hx (dq tX10_force 16 rfl) rfl (by decide) ?_
      refine g_iload_n (n := 33) hx 2 (dq tX10_force 17 rfl) rfl rfl ?_
      refine g_iastX (n := 34) (q := 15) hx (aX10_1 (b := 229) (by decide)) (dq tX10_force 18 rfl) rfl (by decide) (by decide) (by decide) rfl (show (-1) ≤ r by omega) (show r ≤ 5 by omega) (fun M_20 m_21e m_21 => ?_)
      have g_22 : Gm M_20 := Gm.frame gm (fun c j hcj => m_21 c j (by omega))
      have g_23 : On M_20 := On.frame on (fun c j hcj => m_21 c j (by omega))
      have g_24 : Rl M_20 := Rl.set rl (by rw [m_21 (229 + 1) 5 (by omega), m_21 (229 + 1) 6 (by omega)]; exact rl.1) (by rw [m_21 (229 + 1) 6 (by omega)]; exact Rl.lawr rl) (by have w1 := m_21e; omega) (fun v9 hv => by rw [m_21 (229 + 1) 1 (by omega)] at hv; rw [m_21 (229 + 6) v9 (by omega)]; exact Rl.bound rl v9 hv) (fun c j hcj => m_21 c j (by omega))
      refine g_iload_n (n := 35) hx 0 (dq tX10_force 19 rfl) rfl rfl ?_
      have e_25 : M_20 (229 + 1) 1 = M (229 + 1) 1 := (m_21 (229 + 1) 1 (by omega))
      have e_26 : M_20 (229 + 1) 3 = M (229 + 1) 3 := (m_21 (229 + 1) 3 (by omega))
      exact g_iret hx hr (dq tX10_force 20 rfl) (zrI h_19l h_19u (by decide) (by decide)) ⟨(fun u_ v_ huv_ => (m_21 u_ v_ (by omega))), g_22, g_24, g_23, (by omega)⟩
    · refine g_bipush (n := 17) hx (dq tX10_force 7 rfl) rfl (by decide) ?_
      exact g_iret hx hr (dq tX10_force 8 rfl) ⟨by decide, by decide⟩ ⟨(fun _ _ _ => rfl), gm, rl, on, (by omega)⟩

abbrev qctX10_bind3 (M : zM) (v : Int) (r : Int) (z : Int) (M' : zM) : Prop := (∀ u_ v_, u_ ≠ 229 + 6 → M' u_ v_ = M u_ v_) ∧ Gm M' ∧ Rl M' ∧ On M' ∧ ((0 ≤ v ∧ v < M (229 + 1) 1 ∧ -1 ≤ r ∧ r < M 229 41 ∧ z = M (229 + 6) v.toNat ∧ M' (229 + 6) v.toNat = r) ∨ (¬ (0 ≤ v ∧ v < M (229 + 1) 1 ∧ -1 ≤ r ∧ r < M 229 41) ∧ z = -2 ∧ M' (229 + 6) v.toNat = M (229 + 6) v.toNat)) ∧ (∀ j : Nat, j ≠ v.toNat → M' (229 + 6) j = M (229 + 6) j)
set_option maxHeartbeats 4000000 in
set_option maxRecDepth 100000 in
theorem ctX10_bind3 (Γ : Gam) (M : zM) (v : Int) (hvl : (-2147483648) ≤ v) (hvu : v ≤ 2147483647) (r : Int) (hrl : (-2147483648) ≤ r) (hru : r ≤ 2147483647) (gm : Gm M) (rl : Rl M) (on : On M) : CtI Γ yX10_bind cX10_bind 4 (some .int) 2 46 [aR Γ 229, vI v, vI r] M (qctX10_bind3 M v r) := by
  refine met_i (by decide) (Nat.le_of_ble_eq_true rfl) (fun x hx hr => ?_)
  show G Γ x 4 (QI Γ x (qctX10_bind3 M v r)) M 0 [(0, aR Γ 229), (1, vI v), (2, vI r)] []
  refine g_aload_n (n := 1) hx 0 (dq tX10_bind 0 rfl) rfl rfl ?_
  refine g_iload_n (n := 2) hx 1 (dq tX10_bind 1 rfl) rfl rfl ?_
  refine g_callVi (n := 5) (As := [vI v]) (rest := []) hx (ctX10_isVillage3 Γ M v (by omega) (by omega)) mlX10_419 (obX10 (by decide)) (dq tX10_bind 2 rfl) rfl (Nat.le_of_ble_eq_true rfl) (Nat.le_of_ble_eq_true rfl) (Nat.le_of_ble_eq_true rfl) rfl (fun z_1 M_2 h_3 p_4 => ?_)
  obtain ⟨rfl, h_6, h_7, h_8⟩ := p_4
  refine g_if_eq (n := 8) (t := 16) hx (dq tX10_bind 3 rfl) (by decide) rfl h_3 (fun c_9 => ?_) (fun c_9 => ?_)
  · refine g_bipush (n := 18) hx (dq tX10_bind 8 rfl) rfl (by decide) ?_
    exact g_iret hx hr (dq tX10_bind 9 rfl) ⟨by decide, by decide⟩ ⟨(fun _ _ _ => rfl), gm, rl, on, (by omega), (fun _ _ => rfl)⟩
  · refine g_aload_n (n := 9) hx 0 (dq tX10_bind 4 rfl) rfl rfl ?_
    refine g_iload_n (n := 10) hx 2 (dq tX10_bind 5 rfl) rfl rfl ?_
    refine g_callVi (n := 13) (As := [vI r]) (rest := []) hx (ctX10_isRuleOrNone3 Γ M r (by omega) (by omega)) mlX10_416 (obX10 (by decide)) (dq tX10_bind 6 rfl) rfl (Nat.le_of_ble_eq_true rfl) (Nat.le_of_ble_eq_true rfl) (Nat.le_of_ble_eq_true rfl) rfl (fun z_10 M_11 h_12 p_13 => ?_)
    obtain ⟨rfl, h_15, h_16, h_17⟩ := p_13
    refine g_if_ne (n := 16) (t := 19) hx (dq tX10_bind 7 rfl) (by decide) rfl h_12 (fun c_18 => ?_) (fun c_18 => ?_)
    · refine g_aload_n (n := 20) hx 0 (dq tX10_bind 10 rfl) rfl rfl ?_
      refine g_getR (n := 23) hx glX10_25 (sX10_6 (by decide)) (dq tX10_bind 11 rfl) rfl ?_
      refine g_iload_n (n := 24) hx 1 (dq tX10_bind 12 rfl) rfl rfl ?_
      refine g_iald (n := 25) (q := v.toNat) hx (aX10_6 (b := 229) (by decide)) (dq tX10_bind 13 rfl) rfl (by omega) (by omega) (by omega) rfl (fun h_19l h_19u => ?_)
      refine g_istore_n (n := 26) (lv' := [(3, vI (M (229 + 6) v.toNat)), (0, aR Γ 229), (1, vI v), (2, vI r)]) hx (dq tX10_bind 14 rfl) (by decide) rfl rfl ?_
      refine g_aload_n (n := 27) hx 1 (dq tX10_bind 15 rfl) rfl rfl ?_
      refine g_getR (n := 30) hx glX10_25 (sX10_6 (by decide)) (dq tX10_bind 16 rfl) rfl ?_
      refine g_iload_n (n := 31) hx 2 (dq tX10_bind 17 rfl) rfl rfl ?_
      refine g_iload_n (n := 32) hx 3 (dq tX10_bind 18 rfl) rfl rfl ?_
      refine g_iast (n := 33) (q := v.toNat) hx (aX10_6 (b := 229) (by decide)) (dq tX10_bind 19 rfl) rfl (by omega) (by omega) (by omega) rfl (by omega) (by omega) (fun M_20 m_21e m_21 => ?_)
      have g_22 : Gm M_20 := Gm.frame gm (fun c j hcj => m_21 c j (by omega))
      have g_23 : On M_20 := On.frame on (fun c j hcj => m_21 c j (by omega))
      have g_24 : Rl M_20 := Rl.set rl (by rw [m_21 (229 + 1) 5 (by omega), m_21 (229 + 1) 6 (by omega)]; exact rl.1) (by rw [m_21 (229 + 1) 6 (by omega)]; exact Rl.lawr rl) (by rw [m_21 (229 + 1) 15 (by omega)]; exact Rl.force rl) (fun v9 hv => by
          rw [m_21 (229 + 1) 1 (by omega)] at hv
          by_cases z : v9 = v.toNat
          · rw [z]; have w1 := m_21e; omega
          · rw [m_21 (229 + 6) v9 (by omega)]; exact Rl.bound rl v9 hv) (fun c j hcj => m_21 c j (by omega))
      refine g_iload_n (n := 34) hx 0 (dq tX10_bind 20 rfl) rfl rfl ?_
      have e_25 : M_20 (229 + 1) 1 = M (229 + 1) 1 := (m_21 (229 + 1) 1 (by omega))
      have e_26 : M_20 (229 + 1) 3 = M (229 + 1) 3 := (m_21 (229 + 1) 3 (by omega))
      exact g_iret hx hr (dq tX10_bind 21 rfl) (zrI h_19l h_19u (by decide) (by decide)) ⟨(fun u_ v_ huv_ => (m_21 u_ v_ (by omega))), g_22, g_24, g_23, (by omega), (fun j hj => (m_21 (229 + 6) j (by omega)))⟩
    · refine g_bipush (n := 18) hx (dq tX10_bind 8 rfl) rfl (by decide) ?_
      exact g_iret hx hr (dq tX10_bind 9 rfl) ⟨by decide, by decide⟩ ⟨(fun _ _ _ => rfl), gm, rl, on, (by omega), (fun _ _ => rfl)⟩

abbrev qctX10_law3 (M : zM) (w : Int) (r : Int) (z : Int) (M' : zM) : Prop := (∀ u_ v_, (u_ ≠ 229 + 1 ∨ v_ ≠ 5) ∧ (u_ ≠ 229 + 1 ∨ v_ ≠ 6) → M' u_ v_ = M u_ v_) ∧ Gm M' ∧ Rl M' ∧ On M' ∧ ((0 < M (229 + 1) 0 ∧ 0 ≤ w ∧ w ≤ 3 ∧ (w = 3 → (0 ≤ r ∧ r < M 229 41)) ∧ z = M (229 + 1) 5 ∧ M' (229 + 1) 5 = w) ∨ (¬ (0 < M (229 + 1) 0 ∧ 0 ≤ w ∧ w ≤ 3 ∧ (w = 3 → (0 ≤ r ∧ r < M 229 41))) ∧ z = -2 ∧ M' (229 + 1) 5 = M (229 + 1) 5))
set_option maxHeartbeats 4000000 in
set_option maxRecDepth 100000 in
theorem ctX10_law3 (Γ : Gam) (M : zM) (w : Int) (hwl : (-2147483648) ≤ w) (hwu : w ≤ 2147483647) (r : Int) (hrl : (-2147483648) ≤ r) (hru : r ≤ 2147483647) (gm : Gm M) (rl : Rl M) (on : On M) : CtI Γ yX10_law cX10_law 4 (some .int) 1 25 [aR Γ 229, vI w, vI r] M (qctX10_law3 M w r) := by
  refine met_i (by decide) (Nat.le_of_ble_eq_true rfl) (fun x hx hr => ?_)
  show G Γ x 4 (QI Γ x (qctX10_law3 M w r)) M 0 [(0, aR Γ 229), (1, vI w), (2, vI r)] []
  refine g_iv (fun hI0 => ?_)
  have hI_37 : (0 : Int) ≤ M 229 37 ∧ M 229 37 ≤ 400 := hI0 229 37
  have hI_38 : (0 : Int) ≤ M 229 38 ∧ M 229 38 ≤ 402 := hI0 229 38
  have hI_45 : (0 : Int) ≤ M 229 45 ∧ M 229 45 ≤ 402 := hI0 229 45
  have hI_42 : (0 : Int) ≤ M 229 42 ∧ M 229 42 ≤ 300 := hI0 229 42
  have hI_39 : (0 : Int) ≤ M 229 39 ∧ M 229 39 ≤ 100000 := hI0 229 39
  have hI_40 : (0 : Int) ≤ M 229 40 ∧ M 229 40 ≤ 5 := hI0 229 40
  have hI_41 : (0 : Int) ≤ M 229 41 ∧ M 229 41 ≤ 6 := hI0 229 41
  clear hI0
  refine g_aload_n (n := 1) hx 0 (dq tX10_law 0 rfl) rfl rfl ?_
  refine g_callVi (n := 4) (As := []) (rest := []) hx (ctX10_isRiver3 Γ M ) mlX10_413 (obX10 (by decide)) (dq tX10_law 1 rfl) rfl (Nat.le_of_ble_eq_true rfl) (Nat.le_of_ble_eq_true rfl) (Nat.le_of_ble_eq_true rfl) rfl (fun z_1 M_2 h_3 p_4 => ?_)
  obtain ⟨rfl, h_6, h_7, h_8⟩ := p_4
  refine g_if_eq (n := 7) (t := 40) hx (dq tX10_law 2 rfl) (by decide) rfl h_3 (fun c_9 => ?_) (fun c_9 => ?_)
  · refine g_bipush (n := 42) hx (dq tX10_law 22 rfl) rfl (by decide) ?_
    exact g_iret hx hr (dq tX10_law 23 rfl) ⟨by decide, by decide⟩ ⟨(fun _ _ _ => rfl), gm, rl, on, (by omega)⟩
  · refine g_iload_n (n := 8) hx 1 (dq tX10_law 3 rfl) rfl rfl ?_
    refine g_i2l (n := 9) hx (dq tX10_law 4 rfl) rfl (zrI hwl hwu (by decide) (by decide)) ?_
    refine g_lconst (n := 10) (z := 0) hx (dq tX10_law 5 rfl) rfl (by decide) ?_
    refine g_ldc2 (n := 13) (z := 3) hx wd_1575 (by decide) (dq tX10_law 6 rfl) rfl ?_
    refine g_callSi (n := 16) (As := [vL w, vL 0, vL 3]) (rest := []) hx (ctX10_in Γ M w (by omega) (by omega) 0 (by omega) (by omega) 3 (by omega) (by omega)) mlX10_191 (dq tX10_law 7 rfl) rfl (Nat.le_of_ble_eq_true rfl) (Nat.le_of_ble_eq_true rfl) (Nat.le_of_ble_eq_true rfl) rfl (fun z_10 M_11 h_12 p_13 => ?_)
    obtain ⟨rfl, b_15, h_16⟩ := p_13
    refine g_if_eq (n := 19) (t := 40) hx (dq tX10_law 8 rfl) (by decide) rfl h_12 (fun c_19 => ?_) (fun c_19 => ?_)
    · clear b_15
      refine g_bipush (n := 42) hx (dq tX10_law 22 rfl) rfl (by decide) ?_
      exact g_iret hx hr (dq tX10_law 23 rfl) ⟨by decide, by decide⟩ ⟨(fun _ _ _ => rfl), gm, rl, on, (by omega)⟩
    · have b_15 := b_15.resolve_left c_19
      obtain ⟨-, h_17, h_18⟩ := b_15
      refine g_iload_n (n := 20) hx 1 (dq tX10_law 9 rfl) rfl rfl ?_
      refine g_iconst (n := 21) hx (dq tX10_law 10 rfl) rfl ?_
      refine g_icmp_ne (n := 24) (t := 43) hx (dq tX10_law 11 rfl) (by decide) rfl (zrI hwl hwu (by decide) (by decide)) ⟨by decide, by decide⟩ (fun c_20 => ?_) (fun c_20 => ?_)
      · refine g_aload_n (n := 44) hx 0 (dq tX10_law 24 rfl) rfl rfl ?_
        refine g_getR (n := 47) hx glX10_9 (sX10_1 (by decide)) (dq tX10_law 25 rfl) rfl ?_
        refine g_iconst (n := 48) hx (dq tX10_law 26 rfl) rfl ?_
        refine g_ialdX (n := 49) (q := 5) hx (aX10_1 (b := 229) (by decide)) (dq tX10_law 27 rfl) rfl (by decide) (by decide) (by decide) rfl (fun h_21l h_21u => ?_)
        have h_21l : 0 ≤ M (229 + 1) 5 := h_21l
        have h_21u : M (229 + 1) 5 ≤ 3 := h_21u
        refine g_istore_n (n := 50) (lv' := [(3, vI (M (229 + 1) 5)), (0, aR Γ 229), (1, vI w), (2, vI r)]) hx (dq tX10_law 28 rfl) (by decide) rfl rfl ?_
        refine g_aload_n (n := 51) hx 1 (dq tX10_law 29 rfl) rfl rfl ?_
        refine g_getR (n := 54) hx glX10_9 (sX10_1 (by decide)) (dq tX10_law 30 rfl) rfl ?_
        refine g_iconst (n := 55) hx (dq tX10_law 31 rfl) rfl ?_
        refine g_iload_n (n := 56) hx 2 (dq tX10_law 32 rfl) rfl rfl ?_
        refine g_iastX (n := 57) (q := 5) hx (aX10_1 (b := 229) (by decide)) (dq tX10_law 33 rfl) rfl (by decide) (by decide) (by decide) rfl (show 0 ≤ w by omega) (show w ≤ 3 by omega) (fun M_22 m_23e m_23 => ?_)
        have g_24 : Gm M_22 := Gm.frame gm (fun c j hcj => m_23 c j (by omega))
        have g_25 : On M_22 := On.frame on (fun c j hcj => m_23 c j (by omega))
        refine g_aload_n (n := 58) hx 1 (dq tX10_law 34 rfl) rfl rfl ?_
        refine g_getR (n := 61) hx glX10_9 (sX10_1 (by decide)) (dq tX10_law 35 rfl) rfl ?_
        refine g_bipush (n := 63) hx (dq tX10_law 36 rfl) rfl (by decide) ?_
        refine g_iload_n (n := 64) hx 2 (dq tX10_law 37 rfl) rfl rfl ?_
        refine g_iconst (n := 65) hx (dq tX10_law 38 rfl) rfl ?_
        refine g_icmp_ne (n := 68) (t := 72) hx (dq tX10_law 39 rfl) (by decide) rfl (zrI hwl hwu (by decide) (by decide)) ⟨by decide, by decide⟩ (fun c_26 => ?_) (fun c_26 => ?_)
        · refine g_iconst (n := 73) hx (dq tX10_law 42 rfl) rfl ?_
          have e_27 : M_22 (229 + 1) 1 = M (229 + 1) 1 := (m_23 (229 + 1) 1 (by omega))
          have e_28 : M_22 (229 + 1) 3 = M (229 + 1) 3 := (m_23 (229 + 1) 3 (by omega))
          refine g_iastX (n := 74) (q := 6) hx (aX10_1 (b := 229) (by decide)) (dq tX10_law 43 rfl) rfl (by decide) (by decide) (by decide) rfl (show (-1) ≤ (-1) by omega) (show (-1) ≤ 5 by omega) (fun M_29 m_30e m_30 => ?_)
          have g_31 : Gm M_29 := Gm.frame g_24 (fun c j hcj => m_30 c j (by omega))
          have g_32 : On M_29 := On.frame g_25 (fun c j hcj => m_30 c j (by omega))
          have g_335 : M_29 (229 + 1) 5 = w := ((m_30 (229 + 1) 5 (by omega))).trans m_23e
          have g_336 := m_30e
          have g_33h := Rl.lawr rl
          have g_33 : Rl M_29 := Rl.set rl (by omega) (by omega) (by rw [(((m_30 (229 + 1) 15 (by omega)).trans (m_23 (229 + 1) 15 (by omega))))]; exact Rl.force rl) (fun v9 hv => by rw [(((m_30 (229 + 1) 1 (by omega)).trans (m_23 (229 + 1) 1 (by omega))))] at hv; rw [(((m_30 (229 + 6) v9 (by omega)).trans (m_23 (229 + 6) v9 (by omega))))]; exact Rl.bound rl v9 hv) (fun c j hcj => ((m_30 c j (by omega)).trans (m_23 c j (by omega))))
          refine g_iload_n (n := 75) hx 0 (dq tX10_law 44 rfl) rfl rfl ?_
          have e_34 : M_29 (229 + 1) 1 = M_22 (229 + 1) 1 := (m_30 (229 + 1) 1 (by omega))
          have e_35 : M_29 (229 + 1) 3 = M_22 (229 + 1) 3 := (m_30 (229 + 1) 3 (by omega))
          have e_36 : M_29 (229 + 1) 5 = M_22 (229 + 1) 5 := (m_30 (229 + 1) 5 (by omega))
          exact g_iret hx hr (dq tX10_law 45 rfl) (zrI h_21l h_21u (by decide) (by decide)) ⟨(fun u_ v_ huv_ => ((m_30 u_ v_ (by omega)).trans (m_23 u_ v_ (by omega)))), g_31, g_33, g_32, (by omega)⟩
        · omega
      · refine g_iload_n (n := 25) hx 2 (dq tX10_law 12 rfl) rfl rfl ?_
        refine g_i2l (n := 26) hx (dq tX10_law 13 rfl) rfl (zrI hrl hru (by decide) (by decide)) ?_
        refine g_lconst (n := 27) (z := 0) hx (dq tX10_law 14 rfl) rfl (by decide) ?_
        refine g_aload_n (n := 28) hx 0 (dq tX10_law 15 rfl) rfl rfl ?_
        refine g_getI (n := 31) hx glX10_405 (sX10_41 (by decide)) (dq tX10_law 16 rfl) rfl (fun h_37l h_37u => ?_)
        refine g_iconst (n := 32) hx (dq tX10_law 17 rfl) rfl ?_
        refine g_isub (n := 33) hx (dq tX10_law 18 rfl) rfl ?_
        refine g_i2l (n := 34) hx (dq tX10_law 19 rfl) rfl ⟨by omega, by omega⟩ ?_
        refine g_callSi (n := 37) (As := [vL r, vL 0, vL ((M 229 41) - 1)]) (rest := []) hx (ctX10_in Γ M r (by omega) (by omega) 0 (by omega) (by omega) ((M 229 41) - 1) (by omega) (by omega)) mlX10_191 (dq tX10_law 20 rfl) rfl (Nat.le_of_ble_eq_true rfl) (Nat.le_of_ble_eq_true rfl) (Nat.le_of_ble_eq_true rfl) rfl (fun z_38 M_39 h_40 p_41 => ?_)
        obtain ⟨rfl, b_43, h_44⟩ := p_41
        refine g_if_ne (n := 40) (t := 43) hx (dq tX10_law 21 rfl) (by decide) rfl h_40 (fun c_47 => ?_) (fun c_47 => ?_)
        · have b_43 := b_43.resolve_left c_47
          obtain ⟨-, h_45, h_46⟩ := b_43
          refine g_aload_n (n := 44) hx 0 (dq tX10_law 24 rfl) rfl rfl ?_
          refine g_getR (n := 47) hx glX10_9 (sX10_1 (by decide)) (dq tX10_law 25 rfl) rfl ?_
          refine g_iconst (n := 48) hx (dq tX10_law 26 rfl) rfl ?_
          refine g_ialdX (n := 49) (q := 5) hx (aX10_1 (b := 229) (by decide)) (dq tX10_law 27 rfl) rfl (by decide) (by decide) (by decide) rfl (fun h_48l h_48u => ?_)
          have h_48l : 0 ≤ M (229 + 1) 5 := h_48l
          have h_48u : M (229 + 1) 5 ≤ 3 := h_48u
          refine g_istore_n (n := 50) (lv' := [(3, vI (M (229 + 1) 5)), (0, aR Γ 229), (1, vI w), (2, vI r)]) hx (dq tX10_law 28 rfl) (by decide) rfl rfl ?_
          refine g_aload_n (n := 51) hx 1 (dq tX10_law 29 rfl) rfl rfl ?_
          refine g_getR (n := 54) hx glX10_9 (sX10_1 (by decide)) (dq tX10_law 30 rfl) rfl ?_
          refine g_iconst (n := 55) hx (dq tX10_law 31 rfl) rfl ?_
          refine g_iload_n (n := 56) hx 2 (dq tX10_law 32 rfl) rfl rfl ?_
          refine g_iastX (n := 57) (q := 5) hx (aX10_1 (b := 229) (by decide)) (dq tX10_law 33 rfl) rfl (by decide) (by decide) (by decide) rfl (show 0 ≤ w by omega) (show w ≤ 3 by omega) (fun M_49 m_50e m_50 => ?_)
          have g_51 : Gm M_49 := Gm.frame gm (fun c j hcj => m_50 c j (by omega))
          have g_52 : On M_49 := On.frame on (fun c j hcj => m_50 c j (by omega))
          refine g_aload_n (n := 58) hx 1 (dq tX10_law 34 rfl) rfl rfl ?_
          refine g_getR (n := 61) hx glX10_9 (sX10_1 (by decide)) (dq tX10_law 35 rfl) rfl ?_
          refine g_bipush (n := 63) hx (dq tX10_law 36 rfl) rfl (by decide) ?_
          refine g_iload_n (n := 64) hx 2 (dq tX10_law 37 rfl) rfl rfl ?_
          refine g_iconst (n := 65) hx (dq tX10_law 38 rfl) rfl ?_
          refine g_icmp_ne (n := 68) (t := 72) hx (dq tX10_law 39 rfl) (by decide) rfl (zrI hwl hwu (by decide) (by decide)) ⟨by decide, by decide⟩ (fun c_53 => ?_) (fun c_53 => ?_)
          · omega
          · refine g_iload_n (n := 69) hx 3 (dq tX10_law 40 rfl) rfl rfl ?_
            refine g_goto (n := 73) hx (dq tX10_law 41 rfl) (by decide) ?_
            have e_54 : M_49 (229 + 1) 1 = M (229 + 1) 1 := (m_50 (229 + 1) 1 (by omega))
            have e_55 : M_49 (229 + 1) 3 = M (229 + 1) 3 := (m_50 (229 + 1) 3 (by omega))
            refine g_iastX (n := 74) (q := 6) hx (aX10_1 (b := 229) (by decide)) (dq tX10_law 43 rfl) rfl (by decide) (by decide) (by decide) rfl (show (-1) ≤ r by omega) (show r ≤ 5 by omega) (fun M_56 m_57e m_57 => ?_)
            have g_58 : Gm M_56 := Gm.frame g_51 (fun c j hcj => m_57 c j (by omega))
            have g_59 : On M_56 := On.frame g_52 (fun c j hcj => m_57 c j (by omega))
            have g_605 : M_56 (229 + 1) 5 = w := ((m_57 (229 + 1) 5 (by omega))).trans m_50e
            have g_606 := m_57e
            have g_60h := Rl.lawr rl
            have g_60 : Rl M_56 := Rl.set rl (by omega) (by omega) (by rw [(((m_57 (229 + 1) 15 (by omega)).trans (m_50 (229 + 1) 15 (by omega))))]; exact Rl.force rl) (fun v9 hv => by rw [(((m_57 (229 + 1) 1 (by omega)).trans (m_50 (229 + 1) 1 (by omega))))] at hv; rw [(((m_57 (229 + 6) v9 (by omega)).trans (m_50 (229 + 6) v9 (by omega))))]; exact Rl.bound rl v9 hv) (fun c j hcj => ((m_57 c j (by omega)).trans (m_50 c j (by omega))))
            refine g_iload_n (n := 75) hx 0 (dq tX10_law 44 rfl) rfl rfl ?_
            have e_61 : M_56 (229 + 1) 1 = M_49 (229 + 1) 1 := (m_57 (229 + 1) 1 (by omega))
            have e_62 : M_56 (229 + 1) 3 = M_49 (229 + 1) 3 := (m_57 (229 + 1) 3 (by omega))
            have e_63 : M_56 (229 + 1) 5 = M_49 (229 + 1) 5 := (m_57 (229 + 1) 5 (by omega))
            exact g_iret hx hr (dq tX10_law 45 rfl) (zrI h_48l h_48u (by decide) (by decide)) ⟨(fun u_ v_ huv_ => ((m_57 u_ v_ (by omega)).trans (m_50 u_ v_ (by omega)))), g_58, g_60, g_59, (by omega)⟩
        · clear b_43
          refine g_bipush (n := 42) hx (dq tX10_law 22 rfl) rfl (by decide) ?_
          exact g_iret hx hr (dq tX10_law 23 rfl) ⟨by decide, by decide⟩ ⟨(fun _ _ _ => rfl), gm, rl, on, (by omega)⟩

abbrev qctX10_floods3 (M : zM) (n : Int) (M' : zM) : Prop := (∀ u_ v_, (u_ ≠ 229 + 1 ∨ v_ ≠ 8) ∧ u_ ≠ 229 + 3 ∧ u_ ≠ 229 + 48 ∧ u_ ≠ 229 + 17 → M' u_ v_ = M u_ v_) ∧ Gm M' ∧ Rl M' ∧ (On M') ∧ ((M (229 + 1) 8 + n < 999 ∧ M' (229 + 1) 8 = M (229 + 1) 8 + n) ∨ (999 ≤ M (229 + 1) 8 + n ∧ M' (229 + 1) 8 = 999))
set_option maxHeartbeats 4000000 in
set_option maxRecDepth 100000 in
theorem ctX10_floods3 (Γ : Gam) (M : zM) (n : Int) (hnl : 0 ≤ n) (hnu : n ≤ 99) (pre0 : 0 ≤ M (229 + 1) 8 ∧ M (229 + 1) 8 ≤ 999) (gm : Gm M) (rl : Rl M) : CtV Γ yX10_floods cX10_floods 3 none 8 189 [aR Γ 229, vI n] M (qctX10_floods3 M n) := by
  refine met_v (by decide) (Nat.le_of_ble_eq_true rfl) (fun x hx hr => ?_)
  show G Γ x 3 (QV Γ x (qctX10_floods3 M n)) M 0 [(0, aR Γ 229), (1, vI n)] []
  refine g_aload_n (n := 1) hx 0 (dq tX10_floods 0 rfl) rfl rfl ?_
  refine g_getR (n := 4) hx glX10_9 (sX10_1 (by decide)) (dq tX10_floods 1 rfl) rfl ?_
  refine g_bipush (n := 6) hx (dq tX10_floods 2 rfl) rfl (by decide) ?_
  refine g_aload_n (n := 7) hx 0 (dq tX10_floods 3 rfl) rfl rfl ?_
  refine g_getR (n := 10) hx glX10_9 (sX10_1 (by decide)) (dq tX10_floods 4 rfl) rfl ?_
  refine g_bipush (n := 12) hx (dq tX10_floods 5 rfl) rfl (by decide) ?_
  refine g_ialdX (n := 13) (q := 8) hx (aX10_1 (b := 229) (by decide)) (dq tX10_floods 6 rfl) rfl (by decide) (by decide) (by decide) rfl (fun h_1l h_1u => ?_)
  have h_1l : (-2147483648) ≤ M (229 + 1) 8 := h_1l
  have h_1u : M (229 + 1) 8 ≤ 2147483647 := h_1u
  refine g_iload_n (n := 14) hx 1 (dq tX10_floods 7 rfl) rfl rfl ?_
  refine g_iadd (n := 15) hx (dq tX10_floods 8 rfl) rfl ?_
  refine g_sipush (n := 18) hx (dq tX10_floods 9 rfl) rfl (by decide) ?_
  refine g_icmp_ge (n := 21) (t := 33) hx (dq tX10_floods 10 rfl) (by decide) rfl ⟨by omega, by omega⟩ ⟨by decide, by decide⟩ (fun c_2 => ?_) (fun c_2 => ?_)
  · refine g_sipush (n := 36) hx (dq tX10_floods 18 rfl) rfl (by decide) ?_
    refine g_iastX (n := 37) (q := 8) hx (aX10_1 (b := 229) (by decide)) (dq tX10_floods 19 rfl) rfl (by decide) (by decide) (by decide) rfl (show (-2147483648) ≤ 999 by omega) (show 999 ≤ 2147483647 by omega) (fun M_3 m_4e m_4 => ?_)
    have g_5 : Gm M_3 := Gm.frame gm (fun c j hcj => m_4 c j (by omega))
    have g_6 : Rl M_3 := Rl.frame rl (fun c j hcj => m_4 c j (by omega))
    refine g_iconst (n := 38) hx (dq tX10_floods 20 rfl) rfl ?_
    refine g_istore_n (n := 39) (lv' := [(2, vI 0), (0, aR Γ 229), (1, vI n)]) hx (dq tX10_floods 21 rfl) (by decide) rfl rfl ?_
    have L_9 : ∀ (n_ : Nat) (i_7 : Int) (M_8 : zM), (0 ≤ i_7) → (i_7 ≤ 9) → (∀ u_ v_, u_ ≠ 229 + 3 → M_8 u_ v_ = M_3 u_ v_) → (Gm M_8) → (Rl M_8) → ((9 - i_7).toNat = n_) → G Γ x 3 (QV Γ x (qctX10_floods3 M n)) M_8 39 [(2, vI i_7), (0, aR Γ 229), (1, vI n)] [] := by
      intro n_
      induction n_ using Nat.strongRecOn with
      | _ n_ ih_10 =>
        intro i_7 M_8 h_15 h_16 f_11 g_12 g_13 hm_14
        refine g_iload_n (n := 40) hx 0 (dq tX10_floods 22 rfl) rfl rfl ?_
        refine g_bipush (n := 42) hx (dq tX10_floods 23 rfl) rfl (by decide) ?_
        refine g_icmp_ge (n := 45) (t := 58) hx (dq tX10_floods 24 rfl) (by decide) rfl ⟨by omega, by omega⟩ ⟨by decide, by decide⟩ (fun c_17 => ?_) (fun c_17 => ?_)
        · refine g_aload_n (n := 59) hx 1 (dq tX10_floods 32 rfl) rfl rfl ?_
          have e_18 : M_8 (229 + 1) 1 = M (229 + 1) 1 := ((f_11 (229 + 1) 1 (by omega))).trans (m_4 (229 + 1) 1 (by omega))
          have e_19 : M_8 (229 + 1) 3 = M (229 + 1) 3 := ((f_11 (229 + 1) 3 (by omega))).trans (m_4 (229 + 1) 3 (by omega))
          refine g_callVv (n := 62) (As := []) (rest := []) hx (ctX10_elects Γ M_8 g_12 g_13) mlX10_509 (obX10 (by decide)) (dq tX10_floods 33 rfl) rfl (Nat.le_of_ble_eq_true rfl) (Nat.le_of_ble_eq_true rfl) (Nat.le_of_ble_eq_true rfl) rfl (fun M_21 p_23 => ?_)
          obtain ⟨f_24, g_25, g_26, h_27⟩ := p_23
          have e_28 : M_21 (229 + 1) 1 = M_8 (229 + 1) 1 := (f_24 (229 + 1) 1 (by omega))
          have e_29 : M_21 (229 + 1) 3 = M_8 (229 + 1) 3 := (f_24 (229 + 1) 3 (by omega))
          exact g_vret hx hr (dq tX10_floods 34 rfl) ⟨(fun u_ v_ huv_ => (((f_24 u_ v_ (by omega)).trans (f_11 u_ v_ (by omega))).trans (m_4 u_ v_ (by omega)))), g_25, g_26, h_27, (by have w1 := ((((f_24 (229 + 1) 8 (by omega)).trans (f_11 (229 + 1) 8 (by omega)))).trans m_4e); omega)⟩
        · refine g_aload_n (n := 46) hx 1 (dq tX10_floods 25 rfl) rfl rfl ?_
          refine g_getR (n := 49) hx glX10_16 (sX10_3 (by decide)) (dq tX10_floods 26 rfl) rfl ?_
          refine g_iload_n (n := 50) hx 0 (dq tX10_floods 27 rfl) rfl rfl ?_
          refine g_iconst (n := 51) hx (dq tX10_floods 28 rfl) rfl ?_
          have e_30 : M_8 (229 + 1) 1 = M (229 + 1) 1 := ((f_11 (229 + 1) 1 (by omega))).trans (m_4 (229 + 1) 1 (by omega))
          have e_31 : M_8 (229 + 1) 3 = M (229 + 1) 3 := ((f_11 (229 + 1) 3 (by omega))).trans (m_4 (229 + 1) 3 (by omega))
          refine g_iast (n := 52) (q := i_7.toNat) hx (aX10_3 (b := 229) (by decide)) (dq tX10_floods 29 rfl) rfl (by omega) (by omega) (by omega) rfl (by omega) (by omega) (fun M_32 m_33e m_33 => ?_)
          have g_34 : Gm M_32 := Gm.frame g_12 (fun c j hcj => m_33 c j (by omega))
          have g_35 : Rl M_32 := Rl.frame g_13 (fun c j hcj => m_33 c j (by omega))
          refine g_iinc (n := 55) (lv' := [(2, vI (i_7 + 1)), (0, aR Γ 229), (1, vI n)]) hx 0 (dq tX10_floods 30 rfl) rfl (by decide) rfl rfl ?_
          refine g_goto (n := 39) hx (dq tX10_floods 31 rfl) (by decide) ?_
          have e_36 : M_32 (229 + 1) 1 = M_8 (229 + 1) 1 := (m_33 (229 + 1) 1 (by omega))
          have e_37 : M_32 (229 + 1) 3 = M_8 (229 + 1) 3 := (m_33 (229 + 1) 3 (by omega))
          exact ih_10 _ (by omega) (i_7 + 1) M_32 (by omega) (by omega) (fun u_ v_ huv_ => ((m_33 u_ v_ (by omega)).trans (f_11 u_ v_ (by omega)))) g_34 g_35 rfl
    have e_38 : M_3 (229 + 1) 1 = M (229 + 1) 1 := (m_4 (229 + 1) 1 (by omega))
    have e_39 : M_3 (229 + 1) 3 = M (229 + 1) 3 := (m_4 (229 + 1) 3 (by omega))
    exact L_9 _ 0 M_3 (by omega) (by omega) (fun _ _ _ => rfl) g_5 g_6 rfl
  · refine g_aload_n (n := 22) hx 0 (dq tX10_floods 11 rfl) rfl rfl ?_
    refine g_getR (n := 25) hx glX10_9 (sX10_1 (by decide)) (dq tX10_floods 12 rfl) rfl ?_
    refine g_bipush (n := 27) hx (dq tX10_floods 13 rfl) rfl (by decide) ?_
    refine g_ialdX (n := 28) (q := 8) hx (aX10_1 (b := 229) (by decide)) (dq tX10_floods 14 rfl) rfl (by decide) (by decide) (by decide) rfl (fun h_40l h_40u => ?_)
    have h_40l : (-2147483648) ≤ M (229 + 1) 8 := h_40l
    have h_40u : M (229 + 1) 8 ≤ 2147483647 := h_40u
    refine g_iload_n (n := 29) hx 1 (dq tX10_floods 15 rfl) rfl rfl ?_
    refine g_iadd (n := 30) hx (dq tX10_floods 16 rfl) rfl ?_
    refine g_goto (n := 36) hx (dq tX10_floods 17 rfl) (by decide) ?_
    refine g_iastX (n := 37) (q := 8) hx (aX10_1 (b := 229) (by decide)) (dq tX10_floods 19 rfl) rfl (by decide) (by decide) (by decide) rfl (show (-2147483648) ≤ (M (229 + 1) 8) + n by omega) (show (M (229 + 1) 8) + n ≤ 2147483647 by omega) (fun M_41 m_42e m_42 => ?_)
    have g_43 : Gm M_41 := Gm.frame gm (fun c j hcj => m_42 c j (by omega))
    have g_44 : Rl M_41 := Rl.frame rl (fun c j hcj => m_42 c j (by omega))
    refine g_iconst (n := 38) hx (dq tX10_floods 20 rfl) rfl ?_
    refine g_istore_n (n := 39) (lv' := [(2, vI 0), (0, aR Γ 229), (1, vI n)]) hx (dq tX10_floods 21 rfl) (by decide) rfl rfl ?_
    have L_47 : ∀ (n_ : Nat) (i_45 : Int) (M_46 : zM), (0 ≤ i_45) → (i_45 ≤ 9) → (∀ u_ v_, u_ ≠ 229 + 3 → M_46 u_ v_ = M_41 u_ v_) → (Gm M_46) → (Rl M_46) → ((9 - i_45).toNat = n_) → G Γ x 3 (QV Γ x (qctX10_floods3 M n)) M_46 39 [(2, vI i_45), (0, aR Γ 229), (1, vI n)] [] := by
      intro n_
      induction n_ using Nat.strongRecOn with
      | _ n_ ih_48 =>
        intro i_45 M_46 h_53 h_54 f_49 g_50 g_51 hm_52
        refine g_iload_n (n := 40) hx 0 (dq tX10_floods 22 rfl) rfl rfl ?_
        refine g_bipush (n := 42) hx (dq tX10_floods 23 rfl) rfl (by decide) ?_
        refine g_icmp_ge (n := 45) (t := 58) hx (dq tX10_floods 24 rfl) (by decide) rfl ⟨by omega, by omega⟩ ⟨by decide, by decide⟩ (fun c_55 => ?_) (fun c_55 => ?_)
        · refine g_aload_n (n := 59) hx 1 (dq tX10_floods 32 rfl) rfl rfl ?_
          have e_56 : M_46 (229 + 1) 1 = M (229 + 1) 1 := ((f_49 (229 + 1) 1 (by omega))).trans (m_42 (229 + 1) 1 (by omega))
          have e_57 : M_46 (229 + 1) 3 = M (229 + 1) 3 := ((f_49 (229 + 1) 3 (by omega))).trans (m_42 (229 + 1) 3 (by omega))
          refine g_callVv (n := 62) (As := []) (rest := []) hx (ctX10_elects Γ M_46 g_50 g_51) mlX10_509 (obX10 (by decide)) (dq tX10_floods 33 rfl) rfl (Nat.le_of_ble_eq_true rfl) (Nat.le_of_ble_eq_true rfl) (Nat.le_of_ble_eq_true rfl) rfl (fun M_59 p_61 => ?_)
          obtain ⟨f_62, g_63, g_64, h_65⟩ := p_61
          have e_66 : M_59 (229 + 1) 1 = M_46 (229 + 1) 1 := (f_62 (229 + 1) 1 (by omega))
          have e_67 : M_59 (229 + 1) 3 = M_46 (229 + 1) 3 := (f_62 (229 + 1) 3 (by omega))
          exact g_vret hx hr (dq tX10_floods 34 rfl) ⟨(fun u_ v_ huv_ => (((f_62 u_ v_ (by omega)).trans (f_49 u_ v_ (by omega))).trans (m_42 u_ v_ (by omega)))), g_63, g_64, h_65, (by have w1 := ((((f_62 (229 + 1) 8 (by omega)).trans (f_49 (229 + 1) 8 (by omega)))).trans m_42e); omega)⟩
        · refine g_aload_n (n := 46) hx 1 (dq tX10_floods 25 rfl) rfl rfl ?_
          refine g_getR (n := 49) hx glX10_16 (sX10_3 (by decide)) (dq tX10_floods 26 rfl) rfl ?_
          refine g_iload_n (n := 50) hx 0 (dq tX10_floods 27 rfl) rfl rfl ?_
          refine g_iconst (n := 51) hx (dq tX10_floods 28 rfl) rfl ?_
          have e_68 : M_46 (229 + 1) 1 = M (229 + 1) 1 := ((f_49 (229 + 1) 1 (by omega))).trans (m_42 (229 + 1) 1 (by omega))
          have e_69 : M_46 (229 + 1) 3 = M (229 + 1) 3 := ((f_49 (229 + 1) 3 (by omega))).trans (m_42 (229 + 1) 3 (by omega))
          refine g_iast (n := 52) (q := i_45.toNat) hx (aX10_3 (b := 229) (by decide)) (dq tX10_floods 29 rfl) rfl (by omega) (by omega) (by omega) rfl (by omega) (by omega) (fun M_70 m_71e m_71 => ?_)
          have g_72 : Gm M_70 := Gm.frame g_50 (fun c j hcj => m_71 c j (by omega))
          have g_73 : Rl M_70 := Rl.frame g_51 (fun c j hcj => m_71 c j (by omega))
          refine g_iinc (n := 55) (lv' := [(2, vI (i_45 + 1)), (0, aR Γ 229), (1, vI n)]) hx 0 (dq tX10_floods 30 rfl) rfl (by decide) rfl rfl ?_
          refine g_goto (n := 39) hx (dq tX10_floods 31 rfl) (by decide) ?_
          have e_74 : M_70 (229 + 1) 1 = M_46 (229 + 1) 1 := (m_71 (229 + 1) 1 (by omega))
          have e_75 : M_70 (229 + 1) 3 = M_46 (229 + 1) 3 := (m_71 (229 + 1) 3 (by omega))
          exact ih_48 _ (by omega) (i_45 + 1) M_70 (by omega) (by omega) (fun u_ v_ huv_ => ((m_71 u_ v_ (by omega)).trans (f_49 u_ v_ (by omega)))) g_72 g_73 rfl
    have e_76 : M_41 (229 + 1) 1 = M (229 + 1) 1 := (m_42 (229 + 1) 1 (by omega))
    have e_77 : M_41 (229 + 1) 3 = M (229 + 1) 3 := (m_42 (229 + 1) 3 (by omega))
    exact L_47 _ 0 M_41 (by omega) (by omega) (fun _ _ _ => rfl) g_43 g_44 rfl

abbrev qctX10_flood3 (M : zM) (n : Int) (z : Int) (M' : zM) : Prop := (∀ u_ v_, (u_ ≠ 229 + 1 ∨ v_ ≠ 8) ∧ u_ ≠ 229 + 3 ∧ u_ ≠ 229 + 48 ∧ u_ ≠ 229 + 17 → M' u_ v_ = M u_ v_) ∧ Gm M' ∧ Rl M' ∧ On M' ∧ ((0 < M (229 + 1) 0 ∧ 0 ≤ n ∧ n ≤ 99 ∧ z = M' (229 + 1) 8 ∧ ((M (229 + 1) 8 + n < 999 ∧ M' (229 + 1) 8 = M (229 + 1) 8 + n) ∨ (999 ≤ M (229 + 1) 8 + n ∧ M' (229 + 1) 8 = 999))) ∨ (¬ (0 < M (229 + 1) 0 ∧ 0 ≤ n ∧ n ≤ 99) ∧ z = -2 ∧ M' (229 + 1) 8 = M (229 + 1) 8))
set_option maxHeartbeats 4000000 in
set_option maxRecDepth 100000 in
theorem ctX10_flood3 (Γ : Gam) (M : zM) (n : Int) (hnl : (-2147483648) ≤ n) (hnu : n ≤ 2147483647) (pre0 : 0 ≤ M (229 + 1) 8 ∧ M (229 + 1) 8 ≤ 999) (gm : Gm M) (rl : Rl M) (on : On M) : CtI Γ yX10_flood cX10_flood 2 (some .int) 9 211 [aR Γ 229, vI n] M (qctX10_flood3 M n) := by
  refine met_i (by decide) (Nat.le_of_ble_eq_true rfl) (fun x hx hr => ?_)
  show G Γ x 2 (QI Γ x (qctX10_flood3 M n)) M 0 [(0, aR Γ 229), (1, vI n)] []
  refine g_aload_n (n := 1) hx 0 (dq tX10_flood 0 rfl) rfl rfl ?_
  refine g_callVi (n := 4) (As := []) (rest := []) hx (ctX10_isRiver3 Γ M ) mlX10_413 (obX10 (by decide)) (dq tX10_flood 1 rfl) rfl (Nat.le_of_ble_eq_true rfl) (Nat.le_of_ble_eq_true rfl) (Nat.le_of_ble_eq_true rfl) rfl (fun z_1 M_2 h_3 p_4 => ?_)
  obtain ⟨rfl, h_6, h_7, h_8⟩ := p_4
  refine g_if_eq (n := 7) (t := 19) hx (dq tX10_flood 2 rfl) (by decide) rfl h_3 (fun c_9 => ?_) (fun c_9 => ?_)
  · refine g_bipush (n := 21) hx (dq tX10_flood 9 rfl) rfl (by decide) ?_
    exact g_iret hx hr (dq tX10_flood 10 rfl) ⟨by decide, by decide⟩ ⟨(fun _ _ _ => rfl), gm, rl, on, (by omega)⟩
  · refine g_iload_n (n := 8) hx 1 (dq tX10_flood 3 rfl) rfl rfl ?_
    refine g_i2l (n := 9) hx (dq tX10_flood 4 rfl) rfl (zrI hnl hnu (by decide) (by decide)) ?_
    refine g_lconst (n := 10) (z := 0) hx (dq tX10_flood 5 rfl) rfl (by decide) ?_
    refine g_ldc2 (n := 13) (z := 99) hx wd_1759 (by decide) (dq tX10_flood 6 rfl) rfl ?_
    refine g_callSi (n := 16) (As := [vL n, vL 0, vL 99]) (rest := []) hx (ctX10_in Γ M n (by omega) (by omega) 0 (by omega) (by omega) 99 (by omega) (by omega)) mlX10_191 (dq tX10_flood 7 rfl) rfl (Nat.le_of_ble_eq_true rfl) (Nat.le_of_ble_eq_true rfl) (Nat.le_of_ble_eq_true rfl) rfl (fun z_10 M_11 h_12 p_13 => ?_)
    obtain ⟨rfl, b_15, h_16⟩ := p_13
    refine g_if_ne (n := 19) (t := 22) hx (dq tX10_flood 8 rfl) (by decide) rfl h_12 (fun c_19 => ?_) (fun c_19 => ?_)
    · have b_15 := b_15.resolve_left c_19
      obtain ⟨-, h_17, h_18⟩ := b_15
      refine g_aload_n (n := 23) hx 0 (dq tX10_flood 11 rfl) rfl rfl ?_
      refine g_iload_n (n := 24) hx 1 (dq tX10_flood 12 rfl) rfl rfl ?_
      refine g_callVv (n := 27) (As := [vI n]) (rest := []) hx (ctX10_floods3 Γ M n (by omega) (by omega) (by omega) gm rl) mlX10_514 (obX10 (by decide)) (dq tX10_flood 13 rfl) rfl (Nat.le_of_ble_eq_true rfl) (Nat.le_of_ble_eq_true rfl) (Nat.le_of_ble_eq_true rfl) rfl (fun M_21 p_23 => ?_)
      obtain ⟨f_24, g_25, g_26, h_27, h_28⟩ := p_23
      refine g_aload_n (n := 28) hx 0 (dq tX10_flood 14 rfl) rfl rfl ?_
      refine g_getR (n := 31) hx glX10_9 (sX10_1 (by decide)) (dq tX10_flood 15 rfl) rfl ?_
      refine g_bipush (n := 33) hx (dq tX10_flood 16 rfl) rfl (by decide) ?_
      refine g_ialdX (n := 34) (q := 8) hx (aX10_1 (b := 229) (by decide)) (dq tX10_flood 17 rfl) rfl (by decide) (by decide) (by decide) rfl (fun h_29l h_29u => ?_)
      have h_29l : (-2147483648) ≤ M_21 (229 + 1) 8 := h_29l
      have h_29u : M_21 (229 + 1) 8 ≤ 2147483647 := h_29u
      have e_30 : M_21 (229 + 1) 1 = M (229 + 1) 1 := (f_24 (229 + 1) 1 (by omega))
      have e_31 : M_21 (229 + 1) 3 = M (229 + 1) 3 := (f_24 (229 + 1) 3 (by omega))
      exact g_iret hx hr (dq tX10_flood 18 rfl) (zrI h_29l h_29u (by decide) (by decide)) ⟨(fun u_ v_ huv_ => (f_24 u_ v_ (by omega))), g_25, g_26, h_27, (by omega)⟩
    · clear b_15
      refine g_bipush (n := 21) hx (dq tX10_flood 9 rfl) rfl (by decide) ?_
      exact g_iret hx hr (dq tX10_flood 10 rfl) ⟨by decide, by decide⟩ ⟨(fun _ _ _ => rfl), gm, rl, on, (by omega)⟩

abbrev qctX10_days3 (M : zM) (n : Int) (z : Int) (M' : zM) : Prop := (∀ u_ v_, (u_ ≠ 229 ∨ v_ ≠ 61) ∧ (u_ ≠ 229 ∨ v_ ≠ 62) ∧ (u_ ≠ 229 ∨ v_ ≠ 63) ∧ (u_ ≠ 229 ∨ v_ ≠ 64) ∧ (u_ ≠ 229 ∨ v_ ≠ 65) ∧ (u_ ≠ 229 ∨ v_ ≠ 66) ∧ (u_ ≠ 229 ∨ v_ ≠ 67) ∧ (u_ ≠ 229 + 1 ∨ v_ ≠ 7) ∧ (u_ ≠ 229 + 1 ∨ v_ ≠ 9) ∧ (u_ ≠ 229 + 1 ∨ v_ ≠ 13) ∧ (u_ ≠ 229 + 1 ∨ v_ ≠ 14) ∧ u_ ≠ 229 + 7 ∧ u_ ≠ 229 + 8 ∧ u_ ≠ 229 + 12 ∧ u_ ≠ 229 + 13 ∧ u_ ≠ 229 + 14 ∧ u_ ≠ 229 + 15 ∧ u_ ≠ 229 + 18 ∧ u_ ≠ 229 + 28 ∧ u_ ≠ 229 + 50 → M' u_ v_ = M u_ v_) ∧ Gm M' ∧ Rl M' ∧ On M' ∧ (M' (229 + 1) 7 ≤ 9999) ∧ ((0 < M (229 + 1) 0 ∧ 1 ≤ n ∧ n ≤ 60 ∧ M (229 + 1) 7 + n ≤ 9999 ∧ z = M (229 + 1) 7 + n ∧ M' (229 + 1) 7 = M (229 + 1) 7 + n) ∨ (¬ (0 < M (229 + 1) 0 ∧ 1 ≤ n ∧ n ≤ 60 ∧ M (229 + 1) 7 + n ≤ 9999) ∧ z = -2 ∧ M' (229 + 1) 7 = M (229 + 1) 7))
set_option maxHeartbeats 4000000 in
set_option maxRecDepth 100000 in
theorem ctX10_days3 (Γ : Gam) (M : zM) (n : Int) (hnl : (-2147483648) ≤ n) (hnu : n ≤ 2147483647) (pre0 : M (229 + 1) 7 ≤ 9999) (gm : Gm M) (rl : Rl M) (on : On M) : CtI Γ yX10_days cX10_days 3 (some .int) 12 277 [aR Γ 229, vI n] M (qctX10_days3 M n) := by
  refine met_i (by decide) (Nat.le_of_ble_eq_true rfl) (fun x hx hr => ?_)
  show G Γ x 3 (QI Γ x (qctX10_days3 M n)) M 0 [(0, aR Γ 229), (1, vI n)] []
  refine g_aload_n (n := 1) hx 0 (dq tX10_days 0 rfl) rfl rfl ?_
  refine g_callVi (n := 4) (As := []) (rest := []) hx (ctX10_isRiver3 Γ M ) mlX10_413 (obX10 (by decide)) (dq tX10_days 1 rfl) rfl (Nat.le_of_ble_eq_true rfl) (Nat.le_of_ble_eq_true rfl) (Nat.le_of_ble_eq_true rfl) rfl (fun z_1 M_2 h_3 p_4 => ?_)
  obtain ⟨rfl, h_6, h_7, h_8⟩ := p_4
  refine g_if_eq (n := 7) (t := 34) hx (dq tX10_days 2 rfl) (by decide) rfl h_3 (fun c_9 => ?_) (fun c_9 => ?_)
  · refine g_bipush (n := 36) hx (dq tX10_days 17 rfl) rfl (by decide) ?_
    exact g_iret hx hr (dq tX10_days 18 rfl) ⟨by decide, by decide⟩ ⟨(fun _ _ _ => rfl), gm, rl, on, (by omega), (by omega)⟩
  · refine g_iload_n (n := 8) hx 1 (dq tX10_days 3 rfl) rfl rfl ?_
    refine g_i2l (n := 9) hx (dq tX10_days 4 rfl) rfl (zrI hnl hnu (by decide) (by decide)) ?_
    refine g_lconst (n := 10) (z := 1) hx (dq tX10_days 5 rfl) rfl (by decide) ?_
    refine g_ldc2 (n := 13) (z := 60) hx wd_1805 (by decide) (dq tX10_days 6 rfl) rfl ?_
    refine g_callSi (n := 16) (As := [vL n, vL 1, vL 60]) (rest := []) hx (ctX10_in Γ M n (by omega) (by omega) 1 (by omega) (by omega) 60 (by omega) (by omega)) mlX10_191 (dq tX10_days 7 rfl) rfl (Nat.le_of_ble_eq_true rfl) (Nat.le_of_ble_eq_true rfl) (Nat.le_of_ble_eq_true rfl) rfl (fun z_10 M_11 h_12 p_13 => ?_)
    obtain ⟨rfl, b_15, h_16⟩ := p_13
    refine g_if_eq (n := 19) (t := 34) hx (dq tX10_days 8 rfl) (by decide) rfl h_12 (fun c_19 => ?_) (fun c_19 => ?_)
    · clear b_15
      refine g_bipush (n := 36) hx (dq tX10_days 17 rfl) rfl (by decide) ?_
      exact g_iret hx hr (dq tX10_days 18 rfl) ⟨by decide, by decide⟩ ⟨(fun _ _ _ => rfl), gm, rl, on, (by omega), (by omega)⟩
    · have b_15 := b_15.resolve_left c_19
      obtain ⟨-, h_17, h_18⟩ := b_15
      refine g_aload_n (n := 20) hx 0 (dq tX10_days 9 rfl) rfl rfl ?_
      refine g_getR (n := 23) hx glX10_9 (sX10_1 (by decide)) (dq tX10_days 10 rfl) rfl ?_
      refine g_bipush (n := 25) hx (dq tX10_days 11 rfl) rfl (by decide) ?_
      refine g_ialdX (n := 26) (q := 7) hx (aX10_1 (b := 229) (by decide)) (dq tX10_days 12 rfl) rfl (by decide) (by decide) (by decide) rfl (fun h_20l h_20u => ?_)
      have h_20l : 0 ≤ M (229 + 1) 7 := h_20l
      have h_20u : M (229 + 1) 7 ≤ 10100 := h_20u
      refine g_iload_n (n := 27) hx 1 (dq tX10_days 13 rfl) rfl rfl ?_
      refine g_iadd (n := 28) hx (dq tX10_days 14 rfl) rfl ?_
      refine g_sipush (n := 31) hx (dq tX10_days 15 rfl) rfl (by decide) ?_
      refine g_icmp_le (n := 34) (t := 37) hx (dq tX10_days 16 rfl) (by decide) rfl ⟨by omega, by omega⟩ ⟨by decide, by decide⟩ (fun c_21 => ?_) (fun c_21 => ?_)
      · refine g_iconst (n := 38) hx (dq tX10_days 19 rfl) rfl ?_
        refine g_istore_n (n := 39) (lv' := [(2, vI 0), (0, aR Γ 229), (1, vI n)]) hx (dq tX10_days 20 rfl) (by decide) rfl rfl ?_
        have L_24 : ∀ (n_ : Nat) (i_22 : Int) (M_23 : zM), (0 ≤ i_22) → (i_22 ≤ 60) → (∀ u_ v_, (u_ ≠ 229 ∨ v_ ≠ 61) ∧ (u_ ≠ 229 ∨ v_ ≠ 62) ∧ (u_ ≠ 229 ∨ v_ ≠ 63) ∧ (u_ ≠ 229 ∨ v_ ≠ 64) ∧ (u_ ≠ 229 ∨ v_ ≠ 65) ∧ (u_ ≠ 229 ∨ v_ ≠ 66) ∧ (u_ ≠ 229 ∨ v_ ≠ 67) ∧ (u_ ≠ 229 + 1 ∨ v_ ≠ 7) ∧ (u_ ≠ 229 + 1 ∨ v_ ≠ 9) ∧ (u_ ≠ 229 + 1 ∨ v_ ≠ 13) ∧ (u_ ≠ 229 + 1 ∨ v_ ≠ 14) ∧ u_ ≠ 229 + 7 ∧ u_ ≠ 229 + 8 ∧ u_ ≠ 229 + 12 ∧ u_ ≠ 229 + 13 ∧ u_ ≠ 229 + 14 ∧ u_ ≠ 229 + 15 ∧ u_ ≠ 229 + 18 ∧ u_ ≠ 229 + 28 ∧ u_ ≠ 229 + 50 → M_23 u_ v_ = M u_ v_) → (Gm M_23) → (Rl M_23) → (On M_23) → (M_23 (229 + 1) 7 = M (229 + 1) 7 + i_22) → (i_22 ≤ n) → ((60 - i_22).toNat = n_) → G Γ x 3 (QI Γ x (qctX10_days3 M n)) M_23 39 [(2, vI i_22), (0, aR Γ 229), (1, vI n)] [] := by
          intro n_
          induction n_ using Nat.strongRecOn with
          | _ n_ ih_25 =>
            intro i_22 M_23 h_33 h_34 f_26 g_27 g_28 g_29 h_31 h_32 hm_30
            refine g_iload_n (n := 40) hx 0 (dq tX10_days 21 rfl) rfl rfl ?_
            refine g_iload_n (n := 41) hx 2 (dq tX10_days 22 rfl) rfl rfl ?_
            refine g_icmp_ge (n := 44) (t := 54) hx (dq tX10_days 23 rfl) (by decide) rfl ⟨by omega, by omega⟩ (zrI hnl hnu (by decide) (by decide)) (fun c_35 => ?_) (fun c_35 => ?_)
            · refine g_aload_n (n := 55) hx 1 (dq tX10_days 28 rfl) rfl rfl ?_
              refine g_getR (n := 58) hx glX10_9 (sX10_1 (by decide)) (dq tX10_days 29 rfl) rfl ?_
              refine g_bipush (n := 60) hx (dq tX10_days 30 rfl) rfl (by decide) ?_
              refine g_ialdX (n := 61) (q := 7) hx (aX10_1 (b := 229) (by decide)) (dq tX10_days 31 rfl) rfl (by decide) (by decide) (by decide) rfl (fun h_36l h_36u => ?_)
              have h_36l : 0 ≤ M_23 (229 + 1) 7 := h_36l
              have h_36u : M_23 (229 + 1) 7 ≤ 10100 := h_36u
              have e_37 : M_23 (229 + 1) 1 = M (229 + 1) 1 := (f_26 (229 + 1) 1 (by omega))
              have e_38 : M_23 (229 + 1) 3 = M (229 + 1) 3 := (f_26 (229 + 1) 3 (by omega))
              exact g_iret hx hr (dq tX10_days 32 rfl) (zrI h_36l h_36u (by decide) (by decide)) ⟨(fun u_ v_ huv_ => (f_26 u_ v_ (by omega))), g_27, g_28, g_29, (by omega), (by omega)⟩
            · refine g_aload_n (n := 45) hx 1 (dq tX10_days 24 rfl) rfl rfl ?_
              have e_39 : M_23 (229 + 1) 1 = M (229 + 1) 1 := (f_26 (229 + 1) 1 (by omega))
              have e_40 : M_23 (229 + 1) 3 = M (229 + 1) 3 := (f_26 (229 + 1) 3 (by omega))
              refine g_callVv (n := 48) (As := []) (rest := []) hx (ctX10_day Γ M_23 (by omega) g_27 g_28) mlX10_576 (obX10 (by decide)) (dq tX10_days 25 rfl) rfl (Nat.le_of_ble_eq_true rfl) (Nat.le_of_ble_eq_true rfl) (Nat.le_of_ble_eq_true rfl) rfl (fun M_42 p_44 => ?_)
              obtain ⟨f_45, g_46, g_47, h_48⟩ := p_44
              have g_49 : On M_42 := On.frame g_29 (fun c j hcj => f_45 c j (by omega))
              refine g_iinc (n := 51) (lv' := [(2, vI (i_22 + 1)), (0, aR Γ 229), (1, vI n)]) hx 0 (dq tX10_days 26 rfl) rfl (by decide) rfl rfl ?_
              refine g_goto (n := 39) hx (dq tX10_days 27 rfl) (by decide) ?_
              have e_50 : M_42 (229 + 1) 1 = M_23 (229 + 1) 1 := (f_45 (229 + 1) 1 (by omega))
              have e_51 : M_42 (229 + 1) 3 = M_23 (229 + 1) 3 := (f_45 (229 + 1) 3 (by omega))
              exact ih_25 _ (by omega) (i_22 + 1) M_42 (by omega) (by omega) (fun u_ v_ huv_ => ((f_45 u_ v_ (by omega)).trans (f_26 u_ v_ (by omega)))) g_46 g_47 g_49 (by first | assumption | omega) (by first | assumption | omega) rfl
        exact L_24 _ 0 M (by omega) (by omega) (fun _ _ _ => rfl) gm rl on (by first | assumption | omega) (by first | assumption | omega) rfl
      · refine g_bipush (n := 36) hx (dq tX10_days 17 rfl) rfl (by decide) ?_
        exact g_iret hx hr (dq tX10_days 18 rfl) ⟨by decide, by decide⟩ ⟨(fun _ _ _ => rfl), gm, rl, on, (by omega), (by omega)⟩

abbrev qctX10_sight3 (M : zM) (l : Int) (at_ : Int) (v : Int) (z : Int) (M' : zM) : Prop := (∀ u_ v_, u_ ≠ 229 + 20 ∧ u_ ≠ 229 + 21 ∧ u_ ≠ 229 + 22 ∧ u_ ≠ 229 + 23 ∧ (u_ ≠ 229 + 1 ∨ v_ ≠ 11) → M' u_ v_ = M u_ v_) ∧ ((l = -1 ∧ z = 0 ∧ M' (229 + 1) 11 = 0) ∨ (l ≠ -1 ∧ ((0 ≤ l ∧ l < M (229 + 1) 3 ∧ 0 ≤ at_ ∧ at_ ≤ 5 ∧ (v = -1 ∨ (0 ≤ v ∧ v < M (229 + 1) 1)) ∧ M (229 + 1) 11 < 20 ∧ z = M (229 + 1) 11 + 1 ∧ M' (229 + 1) 11 = M (229 + 1) 11 + 1) ∨ (¬ (0 ≤ l ∧ l < M (229 + 1) 3 ∧ 0 ≤ at_ ∧ at_ ≤ 5 ∧ (v = -1 ∨ (0 ≤ v ∧ v < M (229 + 1) 1)) ∧ M (229 + 1) 11 < 20) ∧ z = -2 ∧ M' (229 + 1) 11 = M (229 + 1) 11))))
set_option maxHeartbeats 4000000 in
set_option maxRecDepth 100000 in
theorem ctX10_sight3 (Γ : Gam) (M : zM) (l : Int) (hll : (-2147483648) ≤ l) (hlu : l ≤ 2147483647) (at_ : Int) (hat_l : (-2147483648) ≤ at_) (hat_u : at_ ≤ 2147483647) (v : Int) (hvl : (-2147483648) ≤ v) (hvu : v ≤ 2147483647)  : CtI Γ yX10_sight cX10_sight 5 (some .int) 2 46 [aR Γ 229, vI l, vI at_, vI v] M (qctX10_sight3 M l at_ v) := by
  refine met_i (by decide) (Nat.le_of_ble_eq_true rfl) (fun x hx hr => ?_)
  show G Γ x 5 (QI Γ x (qctX10_sight3 M l at_ v)) M 0 [(0, aR Γ 229), (1, vI l), (2, vI at_), (3, vI v)] []
  refine g_iload_n (n := 1) hx 1 (dq tX10_sight 0 rfl) rfl rfl ?_
  refine g_iconst (n := 2) hx (dq tX10_sight 1 rfl) rfl ?_
  refine g_icmp_ne (n := 5) (t := 15) hx (dq tX10_sight 2 rfl) (by decide) rfl (zrI hll hlu (by decide) (by decide)) ⟨by decide, by decide⟩ (fun c_1 => ?_) (fun c_1 => ?_)
  · refine g_aload_n (n := 16) hx 0 (dq tX10_sight 10 rfl) rfl rfl ?_
    refine g_getR (n := 19) hx glX10_9 (sX10_1 (by decide)) (dq tX10_sight 11 rfl) rfl ?_
    refine g_bipush (n := 21) hx (dq tX10_sight 12 rfl) rfl (by decide) ?_
    refine g_ialdX (n := 22) (q := 11) hx (aX10_1 (b := 229) (by decide)) (dq tX10_sight 13 rfl) rfl (by decide) (by decide) (by decide) rfl (fun h_2l h_2u => ?_)
    have h_2l : 0 ≤ M (229 + 1) 11 := h_2l
    have h_2u : M (229 + 1) 11 ≤ 20 := h_2u
    refine g_istore (n := 24) (lv' := [(4, vI (M (229 + 1) 11)), (0, aR Γ 229), (1, vI l), (2, vI at_), (3, vI v)]) hx (dq tX10_sight 14 rfl) (by decide) rfl rfl ?_
    refine g_aload_n (n := 25) hx 1 (dq tX10_sight 15 rfl) rfl rfl ?_
    refine g_iload_n (n := 26) hx 2 (dq tX10_sight 16 rfl) rfl rfl ?_
    refine g_callVi (n := 29) (As := [vI l]) (rest := []) hx (ctX10_isLog3 Γ M l (by omega) (by omega)) mlX10_483 (obX10 (by decide)) (dq tX10_sight 17 rfl) rfl (Nat.le_of_ble_eq_true rfl) (Nat.le_of_ble_eq_true rfl) (Nat.le_of_ble_eq_true rfl) rfl (fun z_3 M_4 h_5 p_6 => ?_)
    obtain ⟨rfl, h_8, h_9, h_10⟩ := p_6
    refine g_if_eq (n := 32) (t := 64) hx (dq tX10_sight 18 rfl) (by decide) rfl h_5 (fun c_11 => ?_) (fun c_11 => ?_)
    · refine g_bipush (n := 66) hx (dq tX10_sight 35 rfl) rfl (by decide) ?_
      exact g_iret hx hr (dq tX10_sight 36 rfl) ⟨by decide, by decide⟩ ⟨(fun _ _ _ => rfl), (by omega)⟩
    · refine g_iload_n (n := 33) hx 3 (dq tX10_sight 19 rfl) rfl rfl ?_
      refine g_i2l (n := 34) hx (dq tX10_sight 20 rfl) rfl (zrI hat_l hat_u (by decide) (by decide)) ?_
      refine g_lconst (n := 35) (z := 0) hx (dq tX10_sight 21 rfl) rfl (by decide) ?_
      refine g_ldc2 (n := 38) (z := 5) hx wd_1850 (by decide) (dq tX10_sight 22 rfl) rfl ?_
      refine g_callSi (n := 41) (As := [vL at_, vL 0, vL 5]) (rest := []) hx (ctX10_in Γ M at_ (by omega) (by omega) 0 (by omega) (by omega) 5 (by omega) (by omega)) mlX10_191 (dq tX10_sight 23 rfl) rfl (Nat.le_of_ble_eq_true rfl) (Nat.le_of_ble_eq_true rfl) (Nat.le_of_ble_eq_true rfl) rfl (fun z_12 M_13 h_14 p_15 => ?_)
      obtain ⟨rfl, b_17, h_18⟩ := p_15
      refine g_if_eq (n := 44) (t := 64) hx (dq tX10_sight 24 rfl) (by decide) rfl h_14 (fun c_21 => ?_) (fun c_21 => ?_)
      · clear b_17
        refine g_bipush (n := 66) hx (dq tX10_sight 35 rfl) rfl (by decide) ?_
        exact g_iret hx hr (dq tX10_sight 36 rfl) ⟨by decide, by decide⟩ ⟨(fun _ _ _ => rfl), (by omega)⟩
      · have b_17 := b_17.resolve_left c_21
        obtain ⟨-, h_19, h_20⟩ := b_17
        refine g_iload_n (n := 45) hx 4 (dq tX10_sight 25 rfl) rfl rfl ?_
        refine g_iconst (n := 46) hx (dq tX10_sight 26 rfl) rfl ?_
        refine g_icmp_eq (n := 49) (t := 57) hx (dq tX10_sight 27 rfl) (by decide) rfl (zrI hvl hvu (by decide) (by decide)) ⟨by decide, by decide⟩ (fun c_22 => ?_) (fun c_22 => ?_)
        · refine g_iload (n := 59) hx 0 (dq tX10_sight 32 rfl) rfl rfl ?_
          refine g_bipush (n := 61) hx (dq tX10_sight 33 rfl) rfl (by decide) ?_
          refine g_icmp_ne (n := 64) (t := 67) hx (dq tX10_sight 34 rfl) (by decide) rfl (zrI h_2l h_2u (by decide) (by decide)) ⟨by decide, by decide⟩ (fun c_23 => ?_) (fun c_23 => ?_)
          · refine g_aload_n (n := 68) hx 1 (dq tX10_sight 37 rfl) rfl rfl ?_
            refine g_getR (n := 71) hx glX10_67 (sX10_20 (by decide)) (dq tX10_sight 38 rfl) rfl ?_
            refine g_iload (n := 73) hx 0 (dq tX10_sight 39 rfl) rfl rfl ?_
            refine g_iload_n (n := 74) hx 2 (dq tX10_sight 40 rfl) rfl rfl ?_
            refine g_iast (n := 75) (q := (M (229 + 1) 11).toNat) hx (aX10_20 (b := 229) (by decide)) (dq tX10_sight 41 rfl) rfl (by omega) (by omega) (by omega) rfl (by omega) (by omega) (fun M_24 m_25e m_25 => ?_)
            refine g_aload_n (n := 76) hx 1 (dq tX10_sight 42 rfl) rfl rfl ?_
            refine g_getR (n := 79) hx glX10_70 (sX10_21 (by decide)) (dq tX10_sight 43 rfl) rfl ?_
            refine g_iload (n := 81) hx 0 (dq tX10_sight 44 rfl) rfl rfl ?_
            refine g_iload_n (n := 82) hx 3 (dq tX10_sight 45 rfl) rfl rfl ?_
            have e_26 : M_24 (229 + 1) 1 = M (229 + 1) 1 := (m_25 (229 + 1) 1 (by omega))
            have e_27 : M_24 (229 + 1) 3 = M (229 + 1) 3 := (m_25 (229 + 1) 3 (by omega))
            have e_28 : M_24 (229 + 1) 11 = M (229 + 1) 11 := (m_25 (229 + 1) 11 (by omega))
            refine g_iast (n := 83) (q := (M (229 + 1) 11).toNat) hx (aX10_21 (b := 229) (by decide)) (dq tX10_sight 46 rfl) rfl (by omega) (by omega) (by omega) rfl (by omega) (by omega) (fun M_29 m_30e m_30 => ?_)
            refine g_aload_n (n := 84) hx 1 (dq tX10_sight 47 rfl) rfl rfl ?_
            refine g_getR (n := 87) hx glX10_73 (sX10_22 (by decide)) (dq tX10_sight 48 rfl) rfl ?_
            refine g_iload (n := 89) hx 0 (dq tX10_sight 49 rfl) rfl rfl ?_
            refine g_iload_n (n := 90) hx 4 (dq tX10_sight 50 rfl) rfl rfl ?_
            have e_31 : M_29 (229 + 1) 1 = M_24 (229 + 1) 1 := (m_30 (229 + 1) 1 (by omega))
            have e_32 : M_29 (229 + 1) 3 = M_24 (229 + 1) 3 := (m_30 (229 + 1) 3 (by omega))
            have e_33 : M_29 (229 + 1) 11 = M_24 (229 + 1) 11 := (m_30 (229 + 1) 11 (by omega))
            refine g_iast (n := 91) (q := (M (229 + 1) 11).toNat) hx (aX10_22 (b := 229) (by decide)) (dq tX10_sight 51 rfl) rfl (by omega) (by omega) (by omega) rfl (by omega) (by omega) (fun M_34 m_35e m_35 => ?_)
            refine g_aload_n (n := 92) hx 1 (dq tX10_sight 52 rfl) rfl rfl ?_
            refine g_getR (n := 95) hx glX10_76 (sX10_23 (by decide)) (dq tX10_sight 53 rfl) rfl ?_
            refine g_iload (n := 97) hx 0 (dq tX10_sight 54 rfl) rfl rfl ?_
            refine g_aload_n (n := 98) hx 1 (dq tX10_sight 55 rfl) rfl rfl ?_
            refine g_getR (n := 101) hx glX10_9 (sX10_1 (by decide)) (dq tX10_sight 56 rfl) rfl ?_
            refine g_bipush (n := 103) hx (dq tX10_sight 57 rfl) rfl (by decide) ?_
            refine g_ialdX (n := 104) (q := 7) hx (aX10_1 (b := 229) (by decide)) (dq tX10_sight 58 rfl) rfl (by decide) (by decide) (by decide) rfl (fun h_36l h_36u => ?_)
            have h_36l : 0 ≤ M_34 (229 + 1) 7 := h_36l
            have h_36u : M_34 (229 + 1) 7 ≤ 10100 := h_36u
            have e_37 : M_34 (229 + 1) 1 = M_29 (229 + 1) 1 := (m_35 (229 + 1) 1 (by omega))
            have e_38 : M_34 (229 + 1) 3 = M_29 (229 + 1) 3 := (m_35 (229 + 1) 3 (by omega))
            have e_39 : M_34 (229 + 1) 11 = M_29 (229 + 1) 11 := (m_35 (229 + 1) 11 (by omega))
            refine g_iast (n := 105) (q := (M (229 + 1) 11).toNat) hx (aX10_23 (b := 229) (by decide)) (dq tX10_sight 59 rfl) rfl (by omega) (by omega) (by omega) rfl (by omega) (by omega) (fun M_40 m_41e m_41 => ?_)
            refine g_aload_n (n := 106) hx 1 (dq tX10_sight 60 rfl) rfl rfl ?_
            refine g_getR (n := 109) hx glX10_9 (sX10_1 (by decide)) (dq tX10_sight 61 rfl) rfl ?_
            refine g_bipush (n := 111) hx (dq tX10_sight 62 rfl) rfl (by decide) ?_
            refine g_dup2 (n := 112) hx (dq tX10_sight 63 rfl) rfl rfl rfl ?_
            refine g_ialdX (n := 113) (q := 11) hx (aX10_1 (b := 229) (by decide)) (dq tX10_sight 64 rfl) rfl (by decide) (by decide) (by decide) rfl (fun h_42l h_42u => ?_)
            have h_42l : 0 ≤ M_40 (229 + 1) 11 := h_42l
            have h_42u : M_40 (229 + 1) 11 ≤ 20 := h_42u
            have e_43 : M_40 (229 + 1) 11 = M_34 (229 + 1) 11 := (m_41 (229 + 1) 11 (by omega))
            refine g_iconst (n := 114) hx (dq tX10_sight 65 rfl) rfl ?_
            refine g_iadd (n := 115) hx (dq tX10_sight 66 rfl) rfl ?_
            have e_44 : M_40 (229 + 1) 1 = M_34 (229 + 1) 1 := (m_41 (229 + 1) 1 (by omega))
            have e_45 : M_40 (229 + 1) 3 = M_34 (229 + 1) 3 := (m_41 (229 + 1) 3 (by omega))
            refine g_iastX (n := 116) (q := 11) hx (aX10_1 (b := 229) (by decide)) (dq tX10_sight 67 rfl) rfl (by decide) (by decide) (by decide) rfl (show 0 ≤ (M_40 (229 + 1) 11) + 1 by omega) (show (M_40 (229 + 1) 11) + 1 ≤ 20 by omega) (fun M_46 m_47e m_47 => ?_)
            refine g_iload (n := 118) hx 0 (dq tX10_sight 68 rfl) rfl rfl ?_
            refine g_iconst (n := 119) hx (dq tX10_sight 69 rfl) rfl ?_
            refine g_iadd (n := 120) hx (dq tX10_sight 70 rfl) rfl ?_
            have e_48 : M_46 (229 + 1) 1 = M_40 (229 + 1) 1 := (m_47 (229 + 1) 1 (by omega))
            have e_49 : M_46 (229 + 1) 3 = M_40 (229 + 1) 3 := (m_47 (229 + 1) 3 (by omega))
            exact g_iret hx hr (dq tX10_sight 71 rfl) ⟨by omega, by omega⟩ ⟨(fun u_ v_ huv_ => (((((m_47 u_ v_ (by omega)).trans (m_41 u_ v_ (by omega))).trans (m_35 u_ v_ (by omega))).trans (m_30 u_ v_ (by omega))).trans (m_25 u_ v_ (by omega)))), (by omega)⟩
          · refine g_bipush (n := 66) hx (dq tX10_sight 35 rfl) rfl (by decide) ?_
            exact g_iret hx hr (dq tX10_sight 36 rfl) ⟨by decide, by decide⟩ ⟨(fun _ _ _ => rfl), (by omega)⟩
        · refine g_aload_n (n := 50) hx 1 (dq tX10_sight 28 rfl) rfl rfl ?_
          refine g_iload_n (n := 51) hx 4 (dq tX10_sight 29 rfl) rfl rfl ?_
          refine g_callVi (n := 54) (As := [vI v]) (rest := []) hx (ctX10_isVillage3 Γ M v (by omega) (by omega)) mlX10_419 (obX10 (by decide)) (dq tX10_sight 30 rfl) rfl (Nat.le_of_ble_eq_true rfl) (Nat.le_of_ble_eq_true rfl) (Nat.le_of_ble_eq_true rfl) rfl (fun z_50 M_51 h_52 p_53 => ?_)
          obtain ⟨rfl, h_55, h_56, h_57⟩ := p_53
          refine g_if_eq (n := 57) (t := 64) hx (dq tX10_sight 31 rfl) (by decide) rfl h_52 (fun c_58 => ?_) (fun c_58 => ?_)
          · refine g_bipush (n := 66) hx (dq tX10_sight 35 rfl) rfl (by decide) ?_
            exact g_iret hx hr (dq tX10_sight 36 rfl) ⟨by decide, by decide⟩ ⟨(fun _ _ _ => rfl), (by omega)⟩
          · refine g_iload (n := 59) hx 0 (dq tX10_sight 32 rfl) rfl rfl ?_
            refine g_bipush (n := 61) hx (dq tX10_sight 33 rfl) rfl (by decide) ?_
            refine g_icmp_ne (n := 64) (t := 67) hx (dq tX10_sight 34 rfl) (by decide) rfl (zrI h_2l h_2u (by decide) (by decide)) ⟨by decide, by decide⟩ (fun c_59 => ?_) (fun c_59 => ?_)
            · refine g_aload_n (n := 68) hx 1 (dq tX10_sight 37 rfl) rfl rfl ?_
              refine g_getR (n := 71) hx glX10_67 (sX10_20 (by decide)) (dq tX10_sight 38 rfl) rfl ?_
              refine g_iload (n := 73) hx 0 (dq tX10_sight 39 rfl) rfl rfl ?_
              refine g_iload_n (n := 74) hx 2 (dq tX10_sight 40 rfl) rfl rfl ?_
              refine g_iast (n := 75) (q := (M (229 + 1) 11).toNat) hx (aX10_20 (b := 229) (by decide)) (dq tX10_sight 41 rfl) rfl (by omega) (by omega) (by omega) rfl (by omega) (by omega) (fun M_60 m_61e m_61 => ?_)
              refine g_aload_n (n := 76) hx 1 (dq tX10_sight 42 rfl) rfl rfl ?_
              refine g_getR (n := 79) hx glX10_70 (sX10_21 (by decide)) (dq tX10_sight 43 rfl) rfl ?_
              refine g_iload (n := 81) hx 0 (dq tX10_sight 44 rfl) rfl rfl ?_
              refine g_iload_n (n := 82) hx 3 (dq tX10_sight 45 rfl) rfl rfl ?_
              have e_62 : M_60 (229 + 1) 1 = M (229 + 1) 1 := (m_61 (229 + 1) 1 (by omega))
              have e_63 : M_60 (229 + 1) 3 = M (229 + 1) 3 := (m_61 (229 + 1) 3 (by omega))
              have e_64 : M_60 (229 + 1) 11 = M (229 + 1) 11 := (m_61 (229 + 1) 11 (by omega))
              refine g_iast (n := 83) (q := (M (229 + 1) 11).toNat) hx (aX10_21 (b := 229) (by decide)) (dq tX10_sight 46 rfl) rfl (by omega) (by omega) (by omega) rfl (by omega) (by omega) (fun M_65 m_66e m_66 => ?_)
              refine g_aload_n (n := 84) hx 1 (dq tX10_sight 47 rfl) rfl rfl ?_
              refine g_getR (n := 87) hx glX10_73 (sX10_22 (by decide)) (dq tX10_sight 48 rfl) rfl ?_
              refine g_iload (n := 89) hx 0 (dq tX10_sight 49 rfl) rfl rfl ?_
              refine g_iload_n (n := 90) hx 4 (dq tX10_sight 50 rfl) rfl rfl ?_
              have e_67 : M_65 (229 + 1) 1 = M_60 (229 + 1) 1 := (m_66 (229 + 1) 1 (by omega))
              have e_68 : M_65 (229 + 1) 3 = M_60 (229 + 1) 3 := (m_66 (229 + 1) 3 (by omega))
              have e_69 : M_65 (229 + 1) 11 = M_60 (229 + 1) 11 := (m_66 (229 + 1) 11 (by omega))
              refine g_iast (n := 91) (q := (M (229 + 1) 11).toNat) hx (aX10_22 (b := 229) (by decide)) (dq tX10_sight 51 rfl) rfl (by omega) (by omega) (by omega) rfl (by omega) (by omega) (fun M_70 m_71e m_71 => ?_)
              refine g_aload_n (n := 92) hx 1 (dq tX10_sight 52 rfl) rfl rfl ?_
              refine g_getR (n := 95) hx glX10_76 (sX10_23 (by decide)) (dq tX10_sight 53 rfl) rfl ?_
              refine g_iload (n := 97) hx 0 (dq tX10_sight 54 rfl) rfl rfl ?_
              refine g_aload_n (n := 98) hx 1 (dq tX10_sight 55 rfl) rfl rfl ?_
              refine g_getR (n := 101) hx glX10_9 (sX10_1 (by decide)) (dq tX10_sight 56 rfl) rfl ?_
              refine g_bipush (n := 103) hx (dq tX10_sight 57 rfl) rfl (by decide) ?_
              refine g_ialdX (n := 104) (q := 7) hx (aX10_1 (b := 229) (by decide)) (dq tX10_sight 58 rfl) rfl (by decide) (by decide) (by decide) rfl (fun h_72l h_72u => ?_)
              have h_72l : 0 ≤ M_70 (229 + 1) 7 := h_72l
              have h_72u : M_70 (229 + 1) 7 ≤ 10100 := h_72u
              have e_73 : M_70 (229 + 1) 1 = M_65 (229 + 1) 1 := (m_71 (229 + 1) 1 (by omega))
              have e_74 : M_70 (229 + 1) 3 = M_65 (229 + 1) 3 := (m_71 (229 + 1) 3 (by omega))
              have e_75 : M_70 (229 + 1) 11 = M_65 (229 + 1) 11 := (m_71 (229 + 1) 11 (by omega))
              refine g_iast (n := 105) (q := (M (229 + 1) 11).toNat) hx (aX10_23 (b := 229) (by decide)) (dq tX10_sight 59 rfl) rfl (by omega) (by omega) (by omega) rfl (by omega) (by omega) (fun M_76 m_77e m_77 => ?_)
              refine g_aload_n (n := 106) hx 1 (dq tX10_sight 60 rfl) rfl rfl ?_
              refine g_getR (n := 109) hx glX10_9 (sX10_1 (by decide)) (dq tX10_sight 61 rfl) rfl ?_
              refine g_bipush (n := 111) hx (dq tX10_sight 62 rfl) rfl (by decide) ?_
              refine g_dup2 (n := 112) hx (dq tX10_sight 63 rfl) rfl rfl rfl ?_
              refine g_ialdX (n := 113) (q := 11) hx (aX10_1 (b := 229) (by decide)) (dq tX10_sight 64 rfl) rfl (by decide) (by decide) (by decide) rfl (fun h_78l h_78u => ?_)
              have h_78l : 0 ≤ M_76 (229 + 1) 11 := h_78l
              have h_78u : M_76 (229 + 1) 11 ≤ 20 := h_78u
              have e_79 : M_76 (229 + 1) 11 = M_70 (229 + 1) 11 := (m_77 (229 + 1) 11 (by omega))
              refine g_iconst (n := 114) hx (dq tX10_sight 65 rfl) rfl ?_
              refine g_iadd (n := 115) hx (dq tX10_sight 66 rfl) rfl ?_
              have e_80 : M_76 (229 + 1) 1 = M_70 (229 + 1) 1 := (m_77 (229 + 1) 1 (by omega))
              have e_81 : M_76 (229 + 1) 3 = M_70 (229 + 1) 3 := (m_77 (229 + 1) 3 (by omega))
              refine g_iastX (n := 116) (q := 11) hx (aX10_1 (b := 229) (by decide)) (dq tX10_sight 67 rfl) rfl (by decide) (by decide) (by decide) rfl (show 0 ≤ (M_76 (229 + 1) 11) + 1 by omega) (show (M_76 (229 + 1) 11) + 1 ≤ 20 by omega) (fun M_82 m_83e m_83 => ?_)
              refine g_iload (n := 118) hx 0 (dq tX10_sight 68 rfl) rfl rfl ?_
              refine g_iconst (n := 119) hx (dq tX10_sight 69 rfl) rfl ?_
              refine g_iadd (n := 120) hx (dq tX10_sight 70 rfl) rfl ?_
              have e_84 : M_82 (229 + 1) 1 = M_76 (229 + 1) 1 := (m_83 (229 + 1) 1 (by omega))
              have e_85 : M_82 (229 + 1) 3 = M_76 (229 + 1) 3 := (m_83 (229 + 1) 3 (by omega))
              exact g_iret hx hr (dq tX10_sight 71 rfl) ⟨by omega, by omega⟩ ⟨(fun u_ v_ huv_ => (((((m_83 u_ v_ (by omega)).trans (m_77 u_ v_ (by omega))).trans (m_71 u_ v_ (by omega))).trans (m_66 u_ v_ (by omega))).trans (m_61 u_ v_ (by omega)))), (by omega)⟩
            · refine g_bipush (n := 66) hx (dq tX10_sight 35 rfl) rfl (by decide) ?_
              exact g_iret hx hr (dq tX10_sight 36 rfl) ⟨by decide, by decide⟩ ⟨(fun _ _ _ => rfl), (by omega)⟩
  · refine g_aload_n (n := 6) hx 0 (dq tX10_sight 3 rfl) rfl rfl ?_
    refine g_getR (n := 9) hx glX10_9 (sX10_1 (by decide)) (dq tX10_sight 4 rfl) rfl ?_
    refine g_bipush (n := 11) hx (dq tX10_sight 5 rfl) rfl (by decide) ?_
    refine g_iconst (n := 12) hx (dq tX10_sight 6 rfl) rfl ?_
    refine g_iastX (n := 13) (q := 11) hx (aX10_1 (b := 229) (by decide)) (dq tX10_sight 7 rfl) rfl (by decide) (by decide) (by decide) rfl (show 0 ≤ 0 by omega) (show 0 ≤ 20 by omega) (fun M_86 m_87e m_87 => ?_)
    refine g_iconst (n := 14) hx (dq tX10_sight 8 rfl) rfl ?_
    have e_88 : M_86 (229 + 1) 1 = M (229 + 1) 1 := (m_87 (229 + 1) 1 (by omega))
    have e_89 : M_86 (229 + 1) 3 = M (229 + 1) 3 := (m_87 (229 + 1) 3 (by omega))
    exact g_iret hx hr (dq tX10_sight 9 rfl) ⟨by decide, by decide⟩ ⟨(fun u_ v_ huv_ => (m_87 u_ v_ (by omega))), (by omega)⟩

abbrev qctX10_image3 (M : zM) (k : Int) (z : Int) (M' : zM) : Prop := (∀ u_ v_, u_ ≠ 229 + 56 ∧ (u_ ≠ 229 ∨ v_ ≠ 78) ∧ (u_ ≠ 229 ∨ v_ ≠ 79) ∧ u_ ≠ 229 + 57 → M' u_ v_ = M u_ v_) ∧ (0 ≤ k → k < 4 → (M' (229 + 57) k.toNat = 1 ∧ (∀ c j : Nat, 230 ≤ c → c ≤ 257 → j < zln c → M' (229 + 56) (900 * k.toNat + zof c + j) = M c j) ∧ ∀ j : Nat, (j < 900 * k.toNat ∨ 900 * k.toNat + 900 ≤ j) → M' (229 + 56) j = M (229 + 56) j)) ∧ ((k < 0 ∨ 4 ≤ k) → M = M') ∧ (∀ j : Nat, j ≠ k.toNat → M' (229 + 57) j = M (229 + 57) j) ∧ ((0 ≤ k ∧ k < 4 ∧ z = M (229 + 1) 7) ∨ ((k < 0 ∨ 4 ≤ k) ∧ z = -1))
set_option maxHeartbeats 4000000 in
set_option maxRecDepth 100000 in
theorem ctX10_image3 (Γ : Gam) (M : zM) (k : Int) (hkl : (-2147483648) ≤ k) (hku : k ≤ 2147483647)  : CtI Γ yX10_image cX10_image 2 (some .int) 2 44 [aR Γ 229, vI k] M (qctX10_image3 M k) := by
  refine met_i (by decide) (Nat.le_of_ble_eq_true rfl) (fun x hx hr => ?_)
  show G Γ x 2 (QI Γ x (qctX10_image3 M k)) M 0 [(0, aR Γ 229), (1, vI k)] []
  refine g_iload_n (n := 1) hx 1 (dq tX10_image 0 rfl) rfl rfl ?_
  refine g_i2l (n := 2) hx (dq tX10_image 1 rfl) rfl (zrI hkl hku (by decide) (by decide)) ?_
  refine g_lconst (n := 3) (z := 0) hx (dq tX10_image 2 rfl) rfl (by decide) ?_
  refine g_ldc2 (n := 6) (z := 3) hx wd_1575 (by decide) (dq tX10_image 3 rfl) rfl ?_
  refine g_callSi (n := 9) (As := [vL k, vL 0, vL 3]) (rest := []) hx (ctX10_in Γ M k (by omega) (by omega) 0 (by omega) (by omega) 3 (by omega) (by omega)) mlX10_191 (dq tX10_image 4 rfl) rfl (Nat.le_of_ble_eq_true rfl) (Nat.le_of_ble_eq_true rfl) (Nat.le_of_ble_eq_true rfl) rfl (fun z_1 M_2 h_3 p_4 => ?_)
  obtain ⟨rfl, b_6, h_7⟩ := p_4
  refine g_if_ne (n := 12) (t := 14) hx (dq tX10_image 5 rfl) (by decide) rfl h_3 (fun c_10 => ?_) (fun c_10 => ?_)
  · have b_6 := b_6.resolve_left c_10
    obtain ⟨-, h_8, h_9⟩ := b_6
    refine g_aload_n (n := 15) hx 0 (dq tX10_image 8 rfl) rfl rfl ?_
    refine g_getR (n := 18) hx glX10_184 (sX10_77 (by decide)) (dq tX10_image 9 rfl) rfl ?_
    refine g_iload_n (n := 19) hx 1 (dq tX10_image 10 rfl) rfl rfl ?_
    refine g_iconst (n := 20) hx (dq tX10_image 11 rfl) rfl ?_
    refine g_zast (n := 21) (q := k.toNat) hx (aX10_77 (b := 229) (by decide)) (dq tX10_image 12 rfl) rfl (by omega) (by omega) (by omega) rfl (by omega) (show 0 ≤ 1 by omega) (show 1 ≤ 1 by omega) (fun M_11 m_12e m_12 => ?_)
    refine g_aload_n (n := 22) hx 0 (dq tX10_image 13 rfl) rfl rfl ?_
    refine g_iload_n (n := 23) hx 1 (dq tX10_image 14 rfl) rfl rfl ?_
    refine g_iconst (n := 24) hx (dq tX10_image 15 rfl) rfl ?_
    have e_13 : M_11 (229 + 1) 7 = M (229 + 1) 7 := (m_12 (229 + 1) 7 (by omega))
    refine g_callVv (n := 27) (As := [vI k, vI 0]) (rest := []) hx (ctX10_carries0 Γ M_11 k (by omega) (by omega) 0 (by decide) (by decide)) mlX10_651 (obX10 (by decide)) (dq tX10_image 16 rfl) rfl (Nat.le_of_ble_eq_true rfl) (Nat.le_of_ble_eq_true rfl) (Nat.le_of_ble_eq_true rfl) rfl (fun M_15 p_17 => ?_)
    obtain ⟨f_18, h_19, h_20⟩ := p_17
    refine g_aload_n (n := 28) hx 0 (dq tX10_image 17 rfl) rfl rfl ?_
    refine g_getR (n := 31) hx glX10_9 (sX10_1 (by decide)) (dq tX10_image 18 rfl) rfl ?_
    refine g_bipush (n := 33) hx (dq tX10_image 19 rfl) rfl (by decide) ?_
    refine g_ialdX (n := 34) (q := 7) hx (aX10_1 (b := 229) (by decide)) (dq tX10_image 20 rfl) rfl (by decide) (by decide) (by decide) rfl (fun h_21l h_21u => ?_)
    have h_21l : 0 ≤ M_15 (229 + 1) 7 := h_21l
    have h_21u : M_15 (229 + 1) 7 ≤ 10100 := h_21u
    have e_22 : M_15 (229 + 1) 7 = M_11 (229 + 1) 7 := (f_18 (229 + 1) 7 (by omega))
    exact g_iret hx hr (dq tX10_image 21 rfl) (zrI h_21l h_21u (by decide) (by decide)) ⟨(fun u_ v_ huv_ => ((f_18 u_ v_ (by omega)).trans (m_12 u_ v_ (by omega)))), (fun hk0 hk4 => ⟨((f_18 (229 + 57) k.toNat (by omega))).trans m_12e, fun c j h1 h2 h3 => (h_19 c j h1 h2 h3).trans ((m_12 c j (by omega))), fun j hj => (h_20 j hj).trans ((m_12 (229 + 56) j (by omega)))⟩), (fun hk => absurd hk (by omega)), (fun j hj => ((f_18 (229 + 57) j (by omega)).trans (m_12 (229 + 57) j (by omega)))), (by omega)⟩
  · clear b_6
    refine g_iconst (n := 13) hx (dq tX10_image 6 rfl) rfl ?_
    exact g_iret hx hr (dq tX10_image 7 rfl) ⟨by decide, by decide⟩ ⟨(fun _ _ _ => rfl), (fun hk0 hk4 => absurd hk4 (by omega)), (fun _ => rfl), (fun _ _ => rfl), (by omega)⟩

abbrev qctX10_back3 (M : zM) (k : Int) (z : Int) (M' : zM) : Prop := (∀ u_ v_, (u_ < 229 + 1 ∨ 229 + 29 ≤ u_) ∧ (u_ ≠ 229 ∨ v_ ≠ 78) ∧ (u_ ≠ 229 ∨ v_ ≠ 79) → M' u_ v_ = M u_ v_) ∧ (0 ≤ k → k < 4 → M (229 + 57) k.toNat = 1 → (∀ c j : Nat, 230 ≤ c → c ≤ 257 → j < zln c → M' c j = M (229 + 56) (900 * k.toNat + zof c + j))) ∧ ((k < 0 ∨ 4 ≤ k ∨ M (229 + 57) k.toNat = 0) → M = M') ∧ (0 ≤ k → k < 4 → M (229 + 57) k.toNat = 1 → z = M' (229 + 1) 7) ∧ ((k < 0 ∨ 4 ≤ k ∨ M (229 + 57) k.toNat = 0) → z = -1)
set_option maxHeartbeats 4000000 in
set_option maxRecDepth 100000 in
theorem ctX10_back3 (Γ : Gam) (M : zM) (k : Int) (hkl : (-2147483648) ≤ k) (hku : k ≤ 2147483647) (ex0 : ImR M) : CtI Γ yX10_back cX10_back 2 (some .int) 2 44 [aR Γ 229, vI k] M (qctX10_back3 M k) := by
  refine met_i (by decide) (Nat.le_of_ble_eq_true rfl) (fun x hx hr => ?_)
  show G Γ x 2 (QI Γ x (qctX10_back3 M k)) M 0 [(0, aR Γ 229), (1, vI k)] []
  refine g_iload_n (n := 1) hx 1 (dq tX10_back 0 rfl) rfl rfl ?_
  refine g_i2l (n := 2) hx (dq tX10_back 1 rfl) rfl (zrI hkl hku (by decide) (by decide)) ?_
  refine g_lconst (n := 3) (z := 0) hx (dq tX10_back 2 rfl) rfl (by decide) ?_
  refine g_ldc2 (n := 6) (z := 3) hx wd_1575 (by decide) (dq tX10_back 3 rfl) rfl ?_
  refine g_callSi (n := 9) (As := [vL k, vL 0, vL 3]) (rest := []) hx (ctX10_in Γ M k (by omega) (by omega) 0 (by omega) (by omega) 3 (by omega) (by omega)) mlX10_191 (dq tX10_back 4 rfl) rfl (Nat.le_of_ble_eq_true rfl) (Nat.le_of_ble_eq_true rfl) (Nat.le_of_ble_eq_true rfl) rfl (fun z_1 M_2 h_3 p_4 => ?_)
  obtain ⟨rfl, b_6, h_7⟩ := p_4
  refine g_if_eq (n := 12) (t := 21) hx (dq tX10_back 5 rfl) (by decide) rfl h_3 (fun c_10 => ?_) (fun c_10 => ?_)
  · clear b_6
    refine g_iconst (n := 22) hx (dq tX10_back 11 rfl) rfl ?_
    exact g_iret hx hr (dq tX10_back 12 rfl) ⟨by decide, by decide⟩ ⟨(fun _ _ _ => rfl), (fun hk0 hk4 hm => absurd hm (by omega)), (fun _ => rfl), (by omega), (by omega)⟩
  · have b_6 := b_6.resolve_left c_10
    obtain ⟨-, h_8, h_9⟩ := b_6
    refine g_aload_n (n := 13) hx 0 (dq tX10_back 6 rfl) rfl rfl ?_
    refine g_getR (n := 16) hx glX10_184 (sX10_77 (by decide)) (dq tX10_back 7 rfl) rfl ?_
    refine g_iload_n (n := 17) hx 1 (dq tX10_back 8 rfl) rfl rfl ?_
    refine g_zald (n := 18) (q := k.toNat) hx (aX10_77 (b := 229) (by decide)) (dq tX10_back 9 rfl) rfl (by omega) (by omega) (by omega) rfl (fun h_11l h_11u => ?_)
    have h_11l : 0 ≤ M (229 + 57) k.toNat := h_11l
    have h_11u : M (229 + 57) k.toNat ≤ 1 := h_11u
    refine g_if_ne (n := 21) (t := 23) hx (dq tX10_back 10 rfl) (by decide) rfl (zrI h_11l h_11u (by decide) (by decide)) (fun c_12 => ?_) (fun c_12 => ?_)
    · refine g_aload_n (n := 24) hx 0 (dq tX10_back 13 rfl) rfl rfl ?_
      refine g_iload_n (n := 25) hx 1 (dq tX10_back 14 rfl) rfl rfl ?_
      refine g_iconst (n := 26) hx (dq tX10_back 15 rfl) rfl ?_
      refine g_callVv (n := 29) (As := [vI k, vI 1]) (rest := []) hx (ctX10_carries1 Γ M k (by omega) (by omega) 1 (by decide) (by decide) (ex0 k.toNat (by omega) (by omega)).1) mlX10_651 (obX10 (by decide)) (dq tX10_back 16 rfl) rfl (Nat.le_of_ble_eq_true rfl) (Nat.le_of_ble_eq_true rfl) (Nat.le_of_ble_eq_true rfl) rfl (fun M_14 p_16 => ?_)
      obtain ⟨f_17, h_18⟩ := p_16
      refine g_aload_n (n := 30) hx 0 (dq tX10_back 17 rfl) rfl rfl ?_
      refine g_getR (n := 33) hx glX10_9 (sX10_1 (by decide)) (dq tX10_back 18 rfl) rfl ?_
      refine g_bipush (n := 35) hx (dq tX10_back 19 rfl) rfl (by decide) ?_
      refine g_ialdX (n := 36) (q := 7) hx (aX10_1 (b := 229) (by decide)) (dq tX10_back 20 rfl) rfl (by decide) (by decide) (by decide) rfl (fun h_19l h_19u => ?_)
      have h_19l : 0 ≤ M_14 (229 + 1) 7 := h_19l
      have h_19u : M_14 (229 + 1) 7 ≤ 10100 := h_19u
      exact g_iret hx hr (dq tX10_back 21 rfl) (zrI h_19l h_19u (by decide) (by decide)) ⟨(fun u_ v_ huv_ => (f_17 u_ v_ (by omega))), (fun _ _ _ => h_18), (fun hk => absurd hk (by omega)), (by omega), (by omega)⟩
    · refine g_iconst (n := 22) hx (dq tX10_back 11 rfl) rfl ?_
      exact g_iret hx hr (dq tX10_back 12 rfl) ⟨by decide, by decide⟩ ⟨(fun _ _ _ => rfl), (fun hk0 hk4 hm => absurd hm (by omega)), (fun _ => rfl), (by omega), (by omega)⟩
