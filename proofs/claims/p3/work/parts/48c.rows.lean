abbrev qctX10_force (M : zM) (r : Int) (z : Int) (M' : zM) : Prop := (∀ u_ v_, (u_ ≠ 229 + 1 ∨ v_ ≠ 15) → M' u_ v_ = M u_ v_) ∧ Gm M' ∧ Rl M' ∧ On M'
set_option maxHeartbeats 4000000 in
set_option maxRecDepth 100000 in
theorem ctX10_force (Γ : Gam) (M : zM) (r : Int) (hrl : (-2147483648) ≤ r) (hru : r ≤ 2147483647) (gm : Gm M) (rl : Rl M) (on : On M) : CtI Γ yX10_force cX10_force 3 (some .int) 2 46 [aR Γ 229, vI r] M (qctX10_force M r) := by
  refine met_i (by decide) (Nat.le_of_ble_eq_true rfl) (fun x hx hr => ?_)
  show G Γ x 3 (QI Γ x (qctX10_force M r)) M 0 [(0, aR Γ 229), (1, vI r)] []
  refine g_aload_n (n := 1) hx 0 (dq tX10_force 0 rfl) rfl rfl ?_
  refine g_callVi (n := 4) (As := []) (rest := []) hx (ctX10_isRiver Γ M ) mlX10_413 (obX10 (by decide)) (dq tX10_force 1 rfl) rfl (Nat.le_of_ble_eq_true rfl) (Nat.le_of_ble_eq_true rfl) (Nat.le_of_ble_eq_true rfl) rfl (fun z_1 M_2 h_3 p_4 => ?_)
  obtain ⟨rfl, b_6⟩ := p_4
  refine g_if_eq (n := 7) (t := 15) hx (dq tX10_force 2 rfl) (by decide) rfl h_3 (fun c_8 => ?_) (fun c_8 => ?_)
  · clear b_6
    refine g_bipush (n := 17) hx (dq tX10_force 7 rfl) rfl (by decide) ?_
    exact g_iret hx hr (dq tX10_force 8 rfl) ⟨by decide, by decide⟩ ⟨(fun _ _ _ => rfl), gm, rl, on⟩
  · have b_6 := b_6.resolve_left c_8
    obtain ⟨-, h_7⟩ := b_6
    refine g_aload_n (n := 8) hx 0 (dq tX10_force 3 rfl) rfl rfl ?_
    refine g_iload_n (n := 9) hx 1 (dq tX10_force 4 rfl) rfl rfl ?_
    refine g_callVi (n := 12) (As := [vI r]) (rest := []) hx (ctX10_isRuleOrNone Γ M r (by omega) (by omega)) mlX10_416 (obX10 (by decide)) (dq tX10_force 5 rfl) rfl (Nat.le_of_ble_eq_true rfl) (Nat.le_of_ble_eq_true rfl) (Nat.le_of_ble_eq_true rfl) rfl (fun z_9 M_10 h_11 p_12 => ?_)
    obtain ⟨rfl, b_14⟩ := p_12
    refine g_if_ne (n := 15) (t := 18) hx (dq tX10_force 6 rfl) (by decide) rfl h_11 (fun c_18 => ?_) (fun c_18 => ?_)
    · have b_14 := b_14.resolve_left c_18
      obtain ⟨-, h_15, h_16, h_17⟩ := b_14
      refine g_aload_n (n := 19) hx 0 (dq tX10_force 9 rfl) rfl rfl ?_
      refine g_getR (n := 22) hx glX10_9 (sX10_1 (by decide)) (dq tX10_force 10 rfl) rfl ?_
      refine g_bipush (n := 24) hx (dq tX10_force 11 rfl) rfl (by decide) ?_
      refine g_ialdX (n := 25) (q := 15) hx (aX10_1 (b := 229) (by decide)) (dq tX10_force 12 rfl) rfl (by decide) (by decide) (by decide) rfl (fun h_19l h_19u => ?_)
      have h_19l : (-1) ≤ M (229 + 1) 15 := h_19l
      have h_19u : M (229 + 1) 15 ≤ 5 := h_19u
      refine g_istore_n (n := 26) (lv' := [(2, vI (M (229 + 1) 15)), (0, aR Γ 229), (1, vI r)]) hx (dq tX10_force 13 rfl) (by decide) rfl rfl ?_
      refine g_aload_n (n := 27) hx 1 (dq tX10_force 14 rfl) rfl rfl ?_
      refine g_getR (n := 30) hx glX10_9 (sX10_1 (by decide)) (dq tX10_force 15 rfl) rfl ?_
      refine g_bipush (n := 32) hx (dq tX10_force 16 rfl) rfl (by decide) ?_
      refine g_iload_n (n := 33) hx 2 (dq tX10_force 17 rfl) rfl rfl ?_
      refine g_iastX (n := 34) (q := 15) hx (aX10_1 (b := 229) (by decide)) (dq tX10_force 18 rfl) rfl (by decide) (by decide) (by decide) rfl (show (-1) ≤ r by omega) (show r ≤ 5 by omega) (fun M_20 m_21e m_21 => ?_)
      have g_22 : Gm M_20 := Gm.frame gm (fun c j hcj => m_21 c j (by omega))
      have g_23 : On M_20 := On.frame on (fun c j hcj => m_21 c j (by omega))
      have g_24 : Rl M_20 := Rl.set rl (by rw [m_21 (229 + 1) 5 (by omega), m_21 (229 + 1) 6 (by omega)]; exact rl.1) (by rw [m_21 (229 + 1) 6 (by omega)]; exact Rl.lawr rl) (by have w1 := m_21e; omega) (fun v9 hv => by rw [m_21 (229 + 1) 1 (by omega)] at hv; rw [m_21 (229 + 6) v9 (by omega)]; exact Rl.bound rl v9 hv) (fun c j hcj => m_21 c j (by omega))
      refine g_iload_n (n := 35) hx 0 (dq tX10_force 19 rfl) rfl rfl ?_
      have e_25 : M_20 (229 + 1) 1 = M (229 + 1) 1 := (m_21 (229 + 1) 1 (by omega))
      have e_26 : M_20 (229 + 1) 3 = M (229 + 1) 3 := (m_21 (229 + 1) 3 (by omega))
      exact g_iret hx hr (dq tX10_force 20 rfl) (zrI h_19l h_19u (by decide) (by decide)) ⟨(fun u_ v_ huv_ => (m_21 u_ v_ huv_)), g_22, g_24, g_23⟩
    · clear b_14
      refine g_bipush (n := 17) hx (dq tX10_force 7 rfl) rfl (by decide) ?_
      exact g_iret hx hr (dq tX10_force 8 rfl) ⟨by decide, by decide⟩ ⟨(fun _ _ _ => rfl), gm, rl, on⟩

abbrev qctX10_bind (M : zM) (v : Int) (r : Int) (z : Int) (M' : zM) : Prop := (∀ u_ v_, u_ ≠ 229 + 6 → M' u_ v_ = M u_ v_) ∧ Gm M' ∧ Rl M' ∧ On M'
set_option maxHeartbeats 4000000 in
set_option maxRecDepth 100000 in
theorem ctX10_bind (Γ : Gam) (M : zM) (v : Int) (hvl : (-2147483648) ≤ v) (hvu : v ≤ 2147483647) (r : Int) (hrl : (-2147483648) ≤ r) (hru : r ≤ 2147483647) (gm : Gm M) (rl : Rl M) (on : On M) : CtI Γ yX10_bind cX10_bind 4 (some .int) 2 46 [aR Γ 229, vI v, vI r] M (qctX10_bind M v r) := by
  refine met_i (by decide) (Nat.le_of_ble_eq_true rfl) (fun x hx hr => ?_)
  show G Γ x 4 (QI Γ x (qctX10_bind M v r)) M 0 [(0, aR Γ 229), (1, vI v), (2, vI r)] []
  refine g_aload_n (n := 1) hx 0 (dq tX10_bind 0 rfl) rfl rfl ?_
  refine g_iload_n (n := 2) hx 1 (dq tX10_bind 1 rfl) rfl rfl ?_
  refine g_callVi (n := 5) (As := [vI v]) (rest := []) hx (ctX10_isVillage Γ M v (by omega) (by omega)) mlX10_419 (obX10 (by decide)) (dq tX10_bind 2 rfl) rfl (Nat.le_of_ble_eq_true rfl) (Nat.le_of_ble_eq_true rfl) (Nat.le_of_ble_eq_true rfl) rfl (fun z_1 M_2 h_3 p_4 => ?_)
  obtain ⟨rfl, b_6⟩ := p_4
  refine g_if_eq (n := 8) (t := 16) hx (dq tX10_bind 3 rfl) (by decide) rfl h_3 (fun c_10 => ?_) (fun c_10 => ?_)
  · clear b_6
    refine g_bipush (n := 18) hx (dq tX10_bind 8 rfl) rfl (by decide) ?_
    exact g_iret hx hr (dq tX10_bind 9 rfl) ⟨by decide, by decide⟩ ⟨(fun _ _ _ => rfl), gm, rl, on⟩
  · have b_6 := b_6.resolve_left c_10
    obtain ⟨-, h_7, h_8, h_9⟩ := b_6
    refine g_aload_n (n := 9) hx 0 (dq tX10_bind 4 rfl) rfl rfl ?_
    refine g_iload_n (n := 10) hx 2 (dq tX10_bind 5 rfl) rfl rfl ?_
    refine g_callVi (n := 13) (As := [vI r]) (rest := []) hx (ctX10_isRuleOrNone Γ M r (by omega) (by omega)) mlX10_416 (obX10 (by decide)) (dq tX10_bind 6 rfl) rfl (Nat.le_of_ble_eq_true rfl) (Nat.le_of_ble_eq_true rfl) (Nat.le_of_ble_eq_true rfl) rfl (fun z_11 M_12 h_13 p_14 => ?_)
    obtain ⟨rfl, b_16⟩ := p_14
    refine g_if_ne (n := 16) (t := 19) hx (dq tX10_bind 7 rfl) (by decide) rfl h_13 (fun c_20 => ?_) (fun c_20 => ?_)
    · have b_16 := b_16.resolve_left c_20
      obtain ⟨-, h_17, h_18, h_19⟩ := b_16
      refine g_aload_n (n := 20) hx 0 (dq tX10_bind 10 rfl) rfl rfl ?_
      refine g_getR (n := 23) hx glX10_25 (sX10_6 (by decide)) (dq tX10_bind 11 rfl) rfl ?_
      refine g_iload_n (n := 24) hx 1 (dq tX10_bind 12 rfl) rfl rfl ?_
      refine g_iald (n := 25) (q := v.toNat) hx (aX10_6 (b := 229) (by decide)) (dq tX10_bind 13 rfl) rfl (by omega) (by omega) (by omega) rfl (fun h_21l h_21u => ?_)
      refine g_istore_n (n := 26) (lv' := [(3, vI (M (229 + 6) v.toNat)), (0, aR Γ 229), (1, vI v), (2, vI r)]) hx (dq tX10_bind 14 rfl) (by decide) rfl rfl ?_
      refine g_aload_n (n := 27) hx 1 (dq tX10_bind 15 rfl) rfl rfl ?_
      refine g_getR (n := 30) hx glX10_25 (sX10_6 (by decide)) (dq tX10_bind 16 rfl) rfl ?_
      refine g_iload_n (n := 31) hx 2 (dq tX10_bind 17 rfl) rfl rfl ?_
      refine g_iload_n (n := 32) hx 3 (dq tX10_bind 18 rfl) rfl rfl ?_
      refine g_iast (n := 33) (q := v.toNat) hx (aX10_6 (b := 229) (by decide)) (dq tX10_bind 19 rfl) rfl (by omega) (by omega) (by omega) rfl (by omega) (by omega) (fun M_22 m_23e m_23 => ?_)
      have g_24 : Gm M_22 := Gm.frame gm (fun c j hcj => m_23 c j (by omega))
      have g_25 : On M_22 := On.frame on (fun c j hcj => m_23 c j (by omega))
      have g_26 : Rl M_22 := Rl.set rl (by rw [m_23 (229 + 1) 5 (by omega), m_23 (229 + 1) 6 (by omega)]; exact rl.1) (by rw [m_23 (229 + 1) 6 (by omega)]; exact Rl.lawr rl) (by rw [m_23 (229 + 1) 15 (by omega)]; exact Rl.force rl) (fun v9 hv => by
          rw [m_23 (229 + 1) 1 (by omega)] at hv
          by_cases z : v9 = v.toNat
          · rw [z]; have w1 := m_23e; omega
          · rw [m_23 (229 + 6) v9 (by omega)]; exact Rl.bound rl v9 hv) (fun c j hcj => m_23 c j (by omega))
      refine g_iload_n (n := 34) hx 0 (dq tX10_bind 20 rfl) rfl rfl ?_
      have e_27 : M_22 (229 + 1) 1 = M (229 + 1) 1 := (m_23 (229 + 1) 1 (by omega))
      have e_28 : M_22 (229 + 1) 3 = M (229 + 1) 3 := (m_23 (229 + 1) 3 (by omega))
      exact g_iret hx hr (dq tX10_bind 21 rfl) (zrI h_21l h_21u (by decide) (by decide)) ⟨(fun u_ v_ huv_ => (m_23 u_ v_ (by omega))), g_24, g_26, g_25⟩
    · clear b_16
      refine g_bipush (n := 18) hx (dq tX10_bind 8 rfl) rfl (by decide) ?_
      exact g_iret hx hr (dq tX10_bind 9 rfl) ⟨by decide, by decide⟩ ⟨(fun _ _ _ => rfl), gm, rl, on⟩

abbrev qctX10_law (M : zM) (w : Int) (r : Int) (z : Int) (M' : zM) : Prop := (∀ u_ v_, (u_ ≠ 229 + 1 ∨ v_ ≠ 5) ∧ (u_ ≠ 229 + 1 ∨ v_ ≠ 6) → M' u_ v_ = M u_ v_) ∧ Gm M' ∧ Rl M' ∧ On M'
set_option maxHeartbeats 4000000 in
set_option maxRecDepth 100000 in
theorem ctX10_law (Γ : Gam) (M : zM) (w : Int) (hwl : (-2147483648) ≤ w) (hwu : w ≤ 2147483647) (r : Int) (hrl : (-2147483648) ≤ r) (hru : r ≤ 2147483647) (gm : Gm M) (rl : Rl M) (on : On M) : CtI Γ yX10_law cX10_law 4 (some .int) 1 25 [aR Γ 229, vI w, vI r] M (qctX10_law M w r) := by
  refine met_i (by decide) (Nat.le_of_ble_eq_true rfl) (fun x hx hr => ?_)
  show G Γ x 4 (QI Γ x (qctX10_law M w r)) M 0 [(0, aR Γ 229), (1, vI w), (2, vI r)] []
  refine g_iv (fun hI0 => ?_)
  have hI_37 : (0 : Int) ≤ M 229 37 ∧ M 229 37 ≤ 400 := hI0 229 37
  have hI_38 : (0 : Int) ≤ M 229 38 ∧ M 229 38 ≤ 402 := hI0 229 38
  have hI_45 : (0 : Int) ≤ M 229 45 ∧ M 229 45 ≤ 402 := hI0 229 45
  have hI_42 : (0 : Int) ≤ M 229 42 ∧ M 229 42 ≤ 300 := hI0 229 42
  have hI_39 : (0 : Int) ≤ M 229 39 ∧ M 229 39 ≤ 100000 := hI0 229 39
  have hI_40 : (0 : Int) ≤ M 229 40 ∧ M 229 40 ≤ 5 := hI0 229 40
  have hI_41 : (0 : Int) ≤ M 229 41 ∧ M 229 41 ≤ 6 := hI0 229 41
  clear hI0
  refine g_aload_n (n := 1) hx 0 (dq tX10_law 0 rfl) rfl rfl ?_
  refine g_callVi (n := 4) (As := []) (rest := []) hx (ctX10_isRiver Γ M ) mlX10_413 (obX10 (by decide)) (dq tX10_law 1 rfl) rfl (Nat.le_of_ble_eq_true rfl) (Nat.le_of_ble_eq_true rfl) (Nat.le_of_ble_eq_true rfl) rfl (fun z_1 M_2 h_3 p_4 => ?_)
  obtain ⟨rfl, b_6⟩ := p_4
  refine g_if_eq (n := 7) (t := 40) hx (dq tX10_law 2 rfl) (by decide) rfl h_3 (fun c_8 => ?_) (fun c_8 => ?_)
  · clear b_6
    refine g_bipush (n := 42) hx (dq tX10_law 22 rfl) rfl (by decide) ?_
    exact g_iret hx hr (dq tX10_law 23 rfl) ⟨by decide, by decide⟩ ⟨(fun _ _ _ => rfl), gm, rl, on⟩
  · have b_6 := b_6.resolve_left c_8
    obtain ⟨-, h_7⟩ := b_6
    refine g_iload_n (n := 8) hx 1 (dq tX10_law 3 rfl) rfl rfl ?_
    refine g_i2l (n := 9) hx (dq tX10_law 4 rfl) rfl (zrI hwl hwu (by decide) (by decide)) ?_
    refine g_lconst (n := 10) (z := 0) hx (dq tX10_law 5 rfl) rfl (by decide) ?_
    refine g_ldc2 (n := 13) (z := 3) hx wd_1575 (by decide) (dq tX10_law 6 rfl) rfl ?_
    refine g_callSi (n := 16) (As := [vL w, vL 0, vL 3]) (rest := []) hx (ctX10_in Γ M w (by omega) (by omega) 0 (by omega) (by omega) 3 (by omega) (by omega)) mlX10_191 (dq tX10_law 7 rfl) rfl (Nat.le_of_ble_eq_true rfl) (Nat.le_of_ble_eq_true rfl) (Nat.le_of_ble_eq_true rfl) rfl (fun z_9 M_10 h_11 p_12 => ?_)
    obtain ⟨rfl, b_14, h_15⟩ := p_12
    refine g_if_eq (n := 19) (t := 40) hx (dq tX10_law 8 rfl) (by decide) rfl h_11 (fun c_18 => ?_) (fun c_18 => ?_)
    · clear b_14
      refine g_bipush (n := 42) hx (dq tX10_law 22 rfl) rfl (by decide) ?_
      exact g_iret hx hr (dq tX10_law 23 rfl) ⟨by decide, by decide⟩ ⟨(fun _ _ _ => rfl), gm, rl, on⟩
    · have b_14 := b_14.resolve_left c_18
      obtain ⟨-, h_16, h_17⟩ := b_14
      refine g_iload_n (n := 20) hx 1 (dq tX10_law 9 rfl) rfl rfl ?_
      refine g_iconst (n := 21) hx (dq tX10_law 10 rfl) rfl ?_
      refine g_icmp_ne (n := 24) (t := 43) hx (dq tX10_law 11 rfl) (by decide) rfl (zrI hwl hwu (by decide) (by decide)) ⟨by decide, by decide⟩ (fun c_19 => ?_) (fun c_19 => ?_)
      · refine g_aload_n (n := 44) hx 0 (dq tX10_law 24 rfl) rfl rfl ?_
        refine g_getR (n := 47) hx glX10_9 (sX10_1 (by decide)) (dq tX10_law 25 rfl) rfl ?_
        refine g_iconst (n := 48) hx (dq tX10_law 26 rfl) rfl ?_
        refine g_ialdX (n := 49) (q := 5) hx (aX10_1 (b := 229) (by decide)) (dq tX10_law 27 rfl) rfl (by decide) (by decide) (by decide) rfl (fun h_20l h_20u => ?_)
        have h_20l : 0 ≤ M (229 + 1) 5 := h_20l
        have h_20u : M (229 + 1) 5 ≤ 3 := h_20u
        refine g_istore_n (n := 50) (lv' := [(3, vI (M (229 + 1) 5)), (0, aR Γ 229), (1, vI w), (2, vI r)]) hx (dq tX10_law 28 rfl) (by decide) rfl rfl ?_
        refine g_aload_n (n := 51) hx 1 (dq tX10_law 29 rfl) rfl rfl ?_
        refine g_getR (n := 54) hx glX10_9 (sX10_1 (by decide)) (dq tX10_law 30 rfl) rfl ?_
        refine g_iconst (n := 55) hx (dq tX10_law 31 rfl) rfl ?_
        refine g_iload_n (n := 56) hx 2 (dq tX10_law 32 rfl) rfl rfl ?_
        refine g_iastX (n := 57) (q := 5) hx (aX10_1 (b := 229) (by decide)) (dq tX10_law 33 rfl) rfl (by decide) (by decide) (by decide) rfl (show 0 ≤ w by omega) (show w ≤ 3 by omega) (fun M_21 m_22e m_22 => ?_)
        have g_23 : Gm M_21 := Gm.frame gm (fun c j hcj => m_22 c j (by omega))
        have g_24 : On M_21 := On.frame on (fun c j hcj => m_22 c j (by omega))
        refine g_aload_n (n := 58) hx 1 (dq tX10_law 34 rfl) rfl rfl ?_
        refine g_getR (n := 61) hx glX10_9 (sX10_1 (by decide)) (dq tX10_law 35 rfl) rfl ?_
        refine g_bipush (n := 63) hx (dq tX10_law 36 rfl) rfl (by decide) ?_
        refine g_iload_n (n := 64) hx 2 (dq tX10_law 37 rfl) rfl rfl ?_
        refine g_iconst (n := 65) hx (dq tX10_law 38 rfl) rfl ?_
        refine g_icmp_ne (n := 68) (t := 72) hx (dq tX10_law 39 rfl) (by decide) rfl (zrI hwl hwu (by decide) (by decide)) ⟨by decide, by decide⟩ (fun c_25 => ?_) (fun c_25 => ?_)
        · refine g_iconst (n := 73) hx (dq tX10_law 42 rfl) rfl ?_
          have e_26 : M_21 (229 + 1) 1 = M (229 + 1) 1 := (m_22 (229 + 1) 1 (by omega))
          have e_27 : M_21 (229 + 1) 3 = M (229 + 1) 3 := (m_22 (229 + 1) 3 (by omega))
          refine g_iastX (n := 74) (q := 6) hx (aX10_1 (b := 229) (by decide)) (dq tX10_law 43 rfl) rfl (by decide) (by decide) (by decide) rfl (show (-1) ≤ (-1) by omega) (show (-1) ≤ 5 by omega) (fun M_28 m_29e m_29 => ?_)
          have g_30 : Gm M_28 := Gm.frame g_23 (fun c j hcj => m_29 c j (by omega))
          have g_31 : On M_28 := On.frame g_24 (fun c j hcj => m_29 c j (by omega))
          have g_325 : M_28 (229 + 1) 5 = w := ((m_29 (229 + 1) 5 (by omega))).trans m_22e
          have g_326 := m_29e
          have g_32h := Rl.lawr rl
          have g_32 : Rl M_28 := Rl.set rl (by omega) (by omega) (by rw [(((m_29 (229 + 1) 15 (by omega)).trans (m_22 (229 + 1) 15 (by omega))))]; exact Rl.force rl) (fun v9 hv => by rw [(((m_29 (229 + 1) 1 (by omega)).trans (m_22 (229 + 1) 1 (by omega))))] at hv; rw [(((m_29 (229 + 6) v9 (by omega)).trans (m_22 (229 + 6) v9 (by omega))))]; exact Rl.bound rl v9 hv) (fun c j hcj => ((m_29 c j (by omega)).trans (m_22 c j (by omega))))
          refine g_iload_n (n := 75) hx 0 (dq tX10_law 44 rfl) rfl rfl ?_
          have e_33 : M_28 (229 + 1) 1 = M_21 (229 + 1) 1 := (m_29 (229 + 1) 1 (by omega))
          have e_34 : M_28 (229 + 1) 3 = M_21 (229 + 1) 3 := (m_29 (229 + 1) 3 (by omega))
          exact g_iret hx hr (dq tX10_law 45 rfl) (zrI h_20l h_20u (by decide) (by decide)) ⟨(fun u_ v_ huv_ => ((m_29 u_ v_ huv_.2).trans (m_22 u_ v_ huv_.1))), g_30, g_32, g_31⟩
        · omega
      · refine g_iload_n (n := 25) hx 2 (dq tX10_law 12 rfl) rfl rfl ?_
        refine g_i2l (n := 26) hx (dq tX10_law 13 rfl) rfl (zrI hrl hru (by decide) (by decide)) ?_
        refine g_lconst (n := 27) (z := 0) hx (dq tX10_law 14 rfl) rfl (by decide) ?_
        refine g_aload_n (n := 28) hx 0 (dq tX10_law 15 rfl) rfl rfl ?_
        refine g_getI (n := 31) hx glX10_405 (sX10_41 (by decide)) (dq tX10_law 16 rfl) rfl (fun h_35l h_35u => ?_)
        refine g_iconst (n := 32) hx (dq tX10_law 17 rfl) rfl ?_
        refine g_isub (n := 33) hx (dq tX10_law 18 rfl) rfl ?_
        refine g_i2l (n := 34) hx (dq tX10_law 19 rfl) rfl ⟨by omega, by omega⟩ ?_
        refine g_callSi (n := 37) (As := [vL r, vL 0, vL ((M 229 41) - 1)]) (rest := []) hx (ctX10_in Γ M r (by omega) (by omega) 0 (by omega) (by omega) ((M 229 41) - 1) (by omega) (by omega)) mlX10_191 (dq tX10_law 20 rfl) rfl (Nat.le_of_ble_eq_true rfl) (Nat.le_of_ble_eq_true rfl) (Nat.le_of_ble_eq_true rfl) rfl (fun z_36 M_37 h_38 p_39 => ?_)
        obtain ⟨rfl, b_41, h_42⟩ := p_39
        refine g_if_ne (n := 40) (t := 43) hx (dq tX10_law 21 rfl) (by decide) rfl h_38 (fun c_45 => ?_) (fun c_45 => ?_)
        · have b_41 := b_41.resolve_left c_45
          obtain ⟨-, h_43, h_44⟩ := b_41
          refine g_aload_n (n := 44) hx 0 (dq tX10_law 24 rfl) rfl rfl ?_
          refine g_getR (n := 47) hx glX10_9 (sX10_1 (by decide)) (dq tX10_law 25 rfl) rfl ?_
          refine g_iconst (n := 48) hx (dq tX10_law 26 rfl) rfl ?_
          refine g_ialdX (n := 49) (q := 5) hx (aX10_1 (b := 229) (by decide)) (dq tX10_law 27 rfl) rfl (by decide) (by decide) (by decide) rfl (fun h_46l h_46u => ?_)
          have h_46l : 0 ≤ M (229 + 1) 5 := h_46l
          have h_46u : M (229 + 1) 5 ≤ 3 := h_46u
          refine g_istore_n (n := 50) (lv' := [(3, vI (M (229 + 1) 5)), (0, aR Γ 229), (1, vI w), (2, vI r)]) hx (dq tX10_law 28 rfl) (by decide) rfl rfl ?_
          refine g_aload_n (n := 51) hx 1 (dq tX10_law 29 rfl) rfl rfl ?_
          refine g_getR (n := 54) hx glX10_9 (sX10_1 (by decide)) (dq tX10_law 30 rfl) rfl ?_
          refine g_iconst (n := 55) hx (dq tX10_law 31 rfl) rfl ?_
          refine g_iload_n (n := 56) hx 2 (dq tX10_law 32 rfl) rfl rfl ?_
          refine g_iastX (n := 57) (q := 5) hx (aX10_1 (b := 229) (by decide)) (dq tX10_law 33 rfl) rfl (by decide) (by decide) (by decide) rfl (show 0 ≤ w by omega) (show w ≤ 3 by omega) (fun M_47 m_48e m_48 => ?_)
          have g_49 : Gm M_47 := Gm.frame gm (fun c j hcj => m_48 c j (by omega))
          have g_50 : On M_47 := On.frame on (fun c j hcj => m_48 c j (by omega))
          refine g_aload_n (n := 58) hx 1 (dq tX10_law 34 rfl) rfl rfl ?_
          refine g_getR (n := 61) hx glX10_9 (sX10_1 (by decide)) (dq tX10_law 35 rfl) rfl ?_
          refine g_bipush (n := 63) hx (dq tX10_law 36 rfl) rfl (by decide) ?_
          refine g_iload_n (n := 64) hx 2 (dq tX10_law 37 rfl) rfl rfl ?_
          refine g_iconst (n := 65) hx (dq tX10_law 38 rfl) rfl ?_
          refine g_icmp_ne (n := 68) (t := 72) hx (dq tX10_law 39 rfl) (by decide) rfl (zrI hwl hwu (by decide) (by decide)) ⟨by decide, by decide⟩ (fun c_51 => ?_) (fun c_51 => ?_)
          · omega
          · refine g_iload_n (n := 69) hx 3 (dq tX10_law 40 rfl) rfl rfl ?_
            refine g_goto (n := 73) hx (dq tX10_law 41 rfl) (by decide) ?_
            have e_52 : M_47 (229 + 1) 1 = M (229 + 1) 1 := (m_48 (229 + 1) 1 (by omega))
            have e_53 : M_47 (229 + 1) 3 = M (229 + 1) 3 := (m_48 (229 + 1) 3 (by omega))
            refine g_iastX (n := 74) (q := 6) hx (aX10_1 (b := 229) (by decide)) (dq tX10_law 43 rfl) rfl (by decide) (by decide) (by decide) rfl (show (-1) ≤ r by omega) (show r ≤ 5 by omega) (fun M_54 m_55e m_55 => ?_)
            have g_56 : Gm M_54 := Gm.frame g_49 (fun c j hcj => m_55 c j (by omega))
            have g_57 : On M_54 := On.frame g_50 (fun c j hcj => m_55 c j (by omega))
            have g_585 : M_54 (229 + 1) 5 = w := ((m_55 (229 + 1) 5 (by omega))).trans m_48e
            have g_586 := m_55e
            have g_58h := Rl.lawr rl
            have g_58 : Rl M_54 := Rl.set rl (by omega) (by omega) (by rw [(((m_55 (229 + 1) 15 (by omega)).trans (m_48 (229 + 1) 15 (by omega))))]; exact Rl.force rl) (fun v9 hv => by rw [(((m_55 (229 + 1) 1 (by omega)).trans (m_48 (229 + 1) 1 (by omega))))] at hv; rw [(((m_55 (229 + 6) v9 (by omega)).trans (m_48 (229 + 6) v9 (by omega))))]; exact Rl.bound rl v9 hv) (fun c j hcj => ((m_55 c j (by omega)).trans (m_48 c j (by omega))))
            refine g_iload_n (n := 75) hx 0 (dq tX10_law 44 rfl) rfl rfl ?_
            have e_59 : M_54 (229 + 1) 1 = M_47 (229 + 1) 1 := (m_55 (229 + 1) 1 (by omega))
            have e_60 : M_54 (229 + 1) 3 = M_47 (229 + 1) 3 := (m_55 (229 + 1) 3 (by omega))
            exact g_iret hx hr (dq tX10_law 45 rfl) (zrI h_46l h_46u (by decide) (by decide)) ⟨(fun u_ v_ huv_ => ((m_55 u_ v_ huv_.2).trans (m_48 u_ v_ huv_.1))), g_56, g_58, g_57⟩
        · clear b_41
          refine g_bipush (n := 42) hx (dq tX10_law 22 rfl) rfl (by decide) ?_
          exact g_iret hx hr (dq tX10_law 23 rfl) ⟨by decide, by decide⟩ ⟨(fun _ _ _ => rfl), gm, rl, on⟩
