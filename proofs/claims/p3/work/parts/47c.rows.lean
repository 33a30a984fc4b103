abbrev qctX10_amount (M : zM) (low : Int) (top_ : Int) (z : Int) (M' : zM) : Prop := (∀ u_ v_, (u_ ≠ 229 ∨ v_ ≠ 38) ∧ (u_ ≠ 229 ∨ v_ ≠ 39) → M' u_ v_ = M u_ v_) ∧ (M 229 38 ≤ M' 229 38) ∧ (M' 229 38 = M 229 38 ∨ M' 229 38 ≤ M 229 37) ∧ (M' 229 39 = 0 → (M 229 39 = 0 ∧ low ≤ z ∧ z ≤ top_))
set_option maxHeartbeats 4000000 in
set_option maxRecDepth 100000 in
theorem ctX10_amount (Γ : Gam) (M : zM) (low : Int) (hlowl : 0 ≤ low) (hlowu : low ≤ 2) (top_ : Int) (htop_l : (-2147483648) ≤ top_) (htop_u : top_ ≤ 2147483647)  : CtI Γ yX10_amount cX10_amount 5 (some .int) 3 68 [aR Γ 229, vI low, vI top_] M (qctX10_amount M low top_) := by
  refine met_i (by decide) (Nat.le_of_ble_eq_true rfl) (fun x hx hr => ?_)
  show G Γ x 5 (QI Γ x (qctX10_amount M low top_)) M 0 [(0, aR Γ 229), (1, vI low), (2, vI top_)] []
  refine g_iv (fun hI0 => ?_)
  have hI_37 : (0 : Int) ≤ M 229 37 ∧ M 229 37 ≤ 400 := hI0 229 37
  have hI_38 : (0 : Int) ≤ M 229 38 ∧ M 229 38 ≤ 402 := hI0 229 38
  have hI_45 : (0 : Int) ≤ M 229 45 ∧ M 229 45 ≤ 402 := hI0 229 45
  have hI_42 : (0 : Int) ≤ M 229 42 ∧ M 229 42 ≤ 300 := hI0 229 42
  have hI_39 : (0 : Int) ≤ M 229 39 ∧ M 229 39 ≤ 100000 := hI0 229 39
  have hI_40 : (0 : Int) ≤ M 229 40 ∧ M 229 40 ≤ 5 := hI0 229 40
  have hI_41 : (0 : Int) ≤ M 229 41 ∧ M 229 41 ≤ 6 := hI0 229 41
  clear hI0
  refine g_aload_n (n := 1) hx 0 (dq tX10_amount 0 rfl) rfl rfl ?_
  refine g_callVv (n := 4) (As := []) (rest := []) hx (ctX10_blanks Γ M ) mlX10_268 (obX10 (by decide)) (dq tX10_amount 1 rfl) rfl (Nat.le_of_ble_eq_true rfl) (Nat.le_of_ble_eq_true rfl) (Nat.le_of_ble_eq_true rfl) rfl (fun M_2 p_4 => ?_)
  obtain ⟨f_5, h_6, h_7⟩ := p_4
  refine g_aload_n (n := 5) hx 0 (dq tX10_amount 2 rfl) rfl rfl ?_
  refine g_getI (n := 8) hx glX10_249 (sX10_38 (by decide)) (dq tX10_amount 3 rfl) rfl (fun h_8l h_8u => ?_)
  refine g_istore_n (n := 9) (lv' := [(3, vI (M_2 229 38)), (0, aR Γ 229), (1, vI low), (2, vI top_)]) hx (dq tX10_amount 4 rfl) (by decide) rfl rfl ?_
  refine g_aload_n (n := 10) hx 1 (dq tX10_amount 5 rfl) rfl rfl ?_
  refine g_getI (n := 13) hx glX10_246 (sX10_39 (by decide)) (dq tX10_amount 6 rfl) rfl (fun h_9l h_9u => ?_)
  have e_10 : M_2 229 39 = M 229 39 := (f_5 229 39 (by omega))
  refine g_if_ne (n := 16) (t := 26) hx (dq tX10_amount 7 rfl) (by decide) rfl (zrI h_9l h_9u (by decide) (by decide)) (fun c_11 => ?_) (fun c_11 => ?_)
  · refine g_iconst (n := 27) hx (dq tX10_amount 12 rfl) rfl ?_
    refine g_istore (n := 29) (lv' := [(4, vI 0), (3, vI (M_2 229 38)), (0, aR Γ 229), (1, vI low), (2, vI top_)]) hx (dq tX10_amount 13 rfl) (by decide) rfl rfl ?_
    refine g_aload_n (n := 30) hx 2 (dq tX10_amount 14 rfl) rfl rfl ?_
    refine g_getI (n := 33) hx glX10_246 (sX10_39 (by decide)) (dq tX10_amount 15 rfl) rfl (fun h_12l h_12u => ?_)
    refine g_if_ne (n := 36) (t := 55) hx (dq tX10_amount 16 rfl) (by decide) rfl (zrI h_12l h_12u (by decide) (by decide)) (fun c_13 => ?_) (fun c_13 => ?_)
    · refine g_iload (n := 57) hx 0 (dq tX10_amount 29 rfl) rfl rfl ?_
      have e_14 : M_2 229 37 = M 229 37 := (f_5 229 37 (by omega))
      exact g_iret hx hr (dq tX10_amount 30 rfl) ⟨by decide, by decide⟩ ⟨(fun u_ v_ huv_ => (f_5 u_ v_ huv_.1)), (by omega), (by omega), (by omega)⟩
    · omega
  · refine g_aload_n (n := 17) hx 1 (dq tX10_amount 8 rfl) rfl rfl ?_
    refine g_ldcw (n := 20) (z := 99999) hx wd_1440 (by decide) (dq tX10_amount 9 rfl) rfl ?_
    have e_15 : M_2 229 37 = M 229 37 := (f_5 229 37 (by omega))
    refine g_callVi (n := 23) (As := [vI 99999]) (rest := []) hx (ctX10_digits Γ M_2 99999 (by decide) (by decide)) mlX10_293 (obX10 (by decide)) (dq tX10_amount 10 rfl) rfl (Nat.le_of_ble_eq_true rfl) (Nat.le_of_ble_eq_true rfl) (Nat.le_of_ble_eq_true rfl) rfl (fun z_16 M_17 h_18 p_19 => ?_)
    obtain ⟨f_20, h_21, h_22, h_23⟩ := p_19
    refine g_goto (n := 27) hx (dq tX10_amount 11 rfl) (by decide) ?_
    refine g_istore (n := 29) (lv' := [(4, vI z_16), (3, vI (M_2 229 38)), (0, aR Γ 229), (1, vI low), (2, vI top_)]) hx (dq tX10_amount 13 rfl) (by decide) rfl rfl ?_
    refine g_aload_n (n := 30) hx 2 (dq tX10_amount 14 rfl) rfl rfl ?_
    refine g_getI (n := 33) hx glX10_246 (sX10_39 (by decide)) (dq tX10_amount 15 rfl) rfl (fun h_24l h_24u => ?_)
    refine g_if_ne (n := 36) (t := 55) hx (dq tX10_amount 16 rfl) (by decide) rfl (zrI h_24l h_24u (by decide) (by decide)) (fun c_25 => ?_) (fun c_25 => ?_)
    · refine g_iload (n := 57) hx 0 (dq tX10_amount 29 rfl) rfl rfl ?_
      have e_26 : M_17 229 37 = M_2 229 37 := (f_20 229 37 (by omega))
      exact g_iret hx hr (dq tX10_amount 30 rfl) h_18 ⟨(fun u_ v_ huv_ => ((f_20 u_ v_ ⟨huv_.1, huv_.2⟩).trans (f_5 u_ v_ huv_.1))), (by omega), (by omega), (by omega)⟩
    · refine g_iload (n := 38) hx 0 (dq tX10_amount 17 rfl) rfl rfl ?_
      refine g_i2l (n := 39) hx (dq tX10_amount 18 rfl) rfl h_18 ?_
      refine g_iload_n (n := 40) hx 3 (dq tX10_amount 19 rfl) rfl rfl ?_
      refine g_i2l (n := 41) hx (dq tX10_amount 20 rfl) rfl (zrI hlowl hlowu (by decide) (by decide)) ?_
      refine g_iload_n (n := 42) hx 4 (dq tX10_amount 21 rfl) rfl rfl ?_
      refine g_i2l (n := 43) hx (dq tX10_amount 22 rfl) rfl (zrI htop_l htop_u (by decide) (by decide)) ?_
      have e_27 : M_17 229 37 = M_2 229 37 := (f_20 229 37 (by omega))
      refine g_callSi (n := 46) (As := [vL z_16, vL low, vL top_]) (rest := []) hx (ctX10_in Γ M_17 z_16 (by omega) (by omega) low (by omega) (by omega) top_ (by omega) (by omega)) mlX10_191 (dq tX10_amount 23 rfl) rfl (Nat.le_of_ble_eq_true rfl) (Nat.le_of_ble_eq_true rfl) (Nat.le_of_ble_eq_true rfl) rfl (fun z_28 M_29 h_30 p_31 => ?_)
      obtain ⟨rfl, b_33, h_34⟩ := p_31
      refine g_if_ne (n := 49) (t := 55) hx (dq tX10_amount 24 rfl) (by decide) rfl h_30 (fun c_37 => ?_) (fun c_37 => ?_)
      · have b_33 := b_33.resolve_left c_37
        obtain ⟨-, h_35, h_36⟩ := b_33
        refine g_iload (n := 57) hx 0 (dq tX10_amount 29 rfl) rfl rfl ?_
        exact g_iret hx hr (dq tX10_amount 30 rfl) h_18 ⟨(fun u_ v_ huv_ => ((f_20 u_ v_ ⟨huv_.1, huv_.2⟩).trans (f_5 u_ v_ huv_.1))), (by omega), (by omega), (by omega)⟩
      · clear b_33
        refine g_aload_n (n := 50) hx 2 (dq tX10_amount 25 rfl) rfl rfl ?_
        refine g_iconst (n := 51) hx (dq tX10_amount 26 rfl) rfl ?_
        refine g_iload_n (n := 52) hx 1 (dq tX10_amount 27 rfl) rfl rfl ?_
        refine g_callVv (n := 55) (As := [vI 1, vI (M_2 229 38)]) (rest := []) hx (ctX10_fails Γ M_17 1 (by decide) (by decide) (M_2 229 38) (by omega) (by omega)) mlX10_284 (obX10 (by decide)) (dq tX10_amount 28 rfl) rfl (Nat.le_of_ble_eq_true rfl) (Nat.le_of_ble_eq_true rfl) (Nat.le_of_ble_eq_true rfl) rfl (fun M_39 p_41 => ?_)
        obtain ⟨f_42, h_43⟩ := p_41
        refine g_iload (n := 57) hx 0 (dq tX10_amount 29 rfl) rfl rfl ?_
        have e_44 : M_39 229 37 = M_17 229 37 := (f_42 229 37 (by omega))
        have e_45 : M_39 229 38 = M_17 229 38 := (f_42 229 38 (by omega))
        exact g_iret hx hr (dq tX10_amount 30 rfl) h_18 ⟨(fun u_ v_ huv_ => (((f_42 u_ v_ huv_.2).trans (f_20 u_ v_ ⟨huv_.1, huv_.2⟩)).trans (f_5 u_ v_ huv_.1))), (by omega), (by omega), (by omega)⟩

abbrev qctX10_readsLog (M : zM)  (M' : zM) : Prop := (∀ u_ v_, (u_ ≠ 229 ∨ v_ ≠ 38) ∧ (u_ ≠ 229 ∨ v_ ≠ 39) ∧ (u_ ≠ 229 + 29 ∨ v_ ≠ 3) ∧ u_ ≠ 229 + 33 ∧ u_ ≠ 229 + 34 ∧ u_ ≠ 229 + 35 ∧ u_ ≠ 229 + 36 → M' u_ v_ = M u_ v_) ∧ Nw M' ∧ (M 229 38 ≤ M' 229 38) ∧ (M' 229 38 = M 229 38 ∨ M' 229 38 ≤ M 229 37) ∧ (M' 229 39 = 0 → M 229 39 = 0)
set_option maxHeartbeats 4000000 in
set_option maxRecDepth 100000 in
theorem ctX10_readsLog (Γ : Gam) (M : zM)  (pre0 : M (229 + 29) 3 ≤ 11) (nw : Nw M) : CtV Γ yX10_readsLog cX10_readsLog 2 none 4 92 [aR Γ 229] M (qctX10_readsLog M) := by
  refine met_v (by decide) (Nat.le_of_ble_eq_true rfl) (fun x hx hr => ?_)
  show G Γ x 2 (QV Γ x (qctX10_readsLog M)) M 0 [(0, aR Γ 229)] []
  refine g_iv (fun hI0 => ?_)
  have hI_37 : (0 : Int) ≤ M 229 37 ∧ M 229 37 ≤ 400 := hI0 229 37
  have hI_38 : (0 : Int) ≤ M 229 38 ∧ M 229 38 ≤ 402 := hI0 229 38
  have hI_45 : (0 : Int) ≤ M 229 45 ∧ M 229 45 ≤ 402 := hI0 229 45
  have hI_42 : (0 : Int) ≤ M 229 42 ∧ M 229 42 ≤ 300 := hI0 229 42
  have hI_39 : (0 : Int) ≤ M 229 39 ∧ M 229 39 ≤ 100000 := hI0 229 39
  have hI_40 : (0 : Int) ≤ M 229 40 ∧ M 229 40 ≤ 5 := hI0 229 40
  have hI_41 : (0 : Int) ≤ M 229 41 ∧ M 229 41 ≤ 6 := hI0 229 41
  clear hI0
  refine g_aload_n (n := 1) hx 0 (dq tX10_readsLog 0 rfl) rfl rfl ?_
  refine g_getR (n := 4) hx glX10_94 (sX10_29 (by decide)) (dq tX10_readsLog 1 rfl) rfl ?_
  refine g_iconst (n := 5) hx (dq tX10_readsLog 2 rfl) rfl ?_
  refine g_ialdX (n := 6) (q := 3) hx (aX10_29 (b := 229) (by decide)) (dq tX10_readsLog 3 rfl) rfl (by decide) (by decide) (by decide) rfl (fun h_1l h_1u => ?_)
  have h_1l : 0 ≤ M (229 + 29) 3 := h_1l
  have h_1u : M (229 + 29) 3 ≤ 12 := h_1u
  refine g_istore_n (n := 7) (lv' := [(1, vI (M (229 + 29) 3)), (0, aR Γ 229)]) hx (dq tX10_readsLog 4 rfl) (by decide) rfl rfl ?_
  refine g_aload_n (n := 8) hx 1 (dq tX10_readsLog 5 rfl) rfl rfl ?_
  refine g_getR (n := 11) hx glX10_106 (sX10_33 (by decide)) (dq tX10_readsLog 6 rfl) rfl ?_
  refine g_iload_n (n := 12) hx 0 (dq tX10_readsLog 7 rfl) rfl rfl ?_
  refine g_aload_n (n := 13) hx 1 (dq tX10_readsLog 8 rfl) rfl rfl ?_
  refine g_iconst (n := 14) hx (dq tX10_readsLog 9 rfl) rfl ?_
  refine g_aload_n (n := 15) hx 1 (dq tX10_readsLog 10 rfl) rfl rfl ?_
  refine g_getR (n := 18) hx glX10_94 (sX10_29 (by decide)) (dq tX10_readsLog 11 rfl) rfl ?_
  refine g_iconst (n := 19) hx (dq tX10_readsLog 12 rfl) rfl ?_
  refine g_ialdX (n := 20) (q := 2) hx (aX10_29 (b := 229) (by decide)) (dq tX10_readsLog 13 rfl) rfl (by decide) (by decide) (by decide) rfl (fun h_2l h_2u => ?_)
  have h_2l : 0 ≤ M (229 + 29) 2 := h_2l
  have h_2u : M (229 + 29) 2 ≤ 4 := h_2u
  refine g_iconst (n := 21) hx (dq tX10_readsLog 14 rfl) rfl ?_
  refine g_isub (n := 22) hx (dq tX10_readsLog 15 rfl) rfl ?_
  refine g_callVi (n := 25) (As := [vI 0, vI ((M (229 + 29) 2) - 1)]) (rest := [vI (M (229 + 29) 3), aR Γ (229 + 33)]) hx (ctX10_amount Γ M 0 (by decide) (by decide) ((M (229 + 29) 2) - 1) (by omega) (by omega)) mlX10_347 (obX10 (by decide)) (dq tX10_readsLog 16 rfl) rfl (Nat.le_of_ble_eq_true rfl) (Nat.le_of_ble_eq_true rfl) (Nat.le_of_ble_eq_true rfl) rfl (fun z_3 M_4 h_5 p_6 => ?_)
  obtain ⟨f_7, h_8, h_9, h_10⟩ := p_6
  have g_11 : Nw M_4 := Nw.gen nw (by omega) (fun j hj => f_7 _ j (by omega)) (fun v hv => f_7 _ v (by omega)) (fun l hl => f_7 _ l (by omega)) (fun l hl => f_7 _ l (by omega))
  have e_12 : M_4 229 37 = M 229 37 := (f_7 229 37 (by omega))
  have e_13 : M_4 (229 + 29) 0 = M (229 + 29) 0 := (f_7 (229 + 29) 0 (by omega))
  have e_14 : M_4 (229 + 29) 1 = M (229 + 29) 1 := (f_7 (229 + 29) 1 (by omega))
  have e_15 : M_4 (229 + 29) 3 = M (229 + 29) 3 := (f_7 (229 + 29) 3 (by omega))
  refine g_iast (n := 26) (q := (M (229 + 29) 3).toNat) hx (aX10_33 (b := 229) (by decide)) (dq tX10_readsLog 17 rfl) rfl (by omega) (by omega) (by omega) rfl (by omega) (by omega) (fun M_16 m_17e m_17 => ?_)
  have g_18 : Nw M_16 := Nw.gen g_11 (by have q39 := m_17 229 39 (by omega); omega) (fun j hj => m_17 _ j (by omega)) (fun v hv => m_17 _ v (by omega)) (fun l hl => m_17 _ l (by omega)) (fun l hl => m_17 _ l (by omega))
  refine g_aload_n (n := 27) hx 1 (dq tX10_readsLog 18 rfl) rfl rfl ?_
  refine g_getR (n := 30) hx glX10_109 (sX10_34 (by decide)) (dq tX10_readsLog 19 rfl) rfl ?_
  refine g_iload_n (n := 31) hx 0 (dq tX10_readsLog 20 rfl) rfl rfl ?_
  refine g_aload_n (n := 32) hx 1 (dq tX10_readsLog 21 rfl) rfl rfl ?_
  refine g_iconst (n := 33) hx (dq tX10_readsLog 22 rfl) rfl ?_
  refine g_bipush (n := 35) hx (dq tX10_readsLog 23 rfl) rfl (by decide) ?_
  have e_19 : M_16 229 37 = M_4 229 37 := (m_17 229 37 (by omega))
  have e_20 : M_16 229 38 = M_4 229 38 := (m_17 229 38 (by omega))
  have e_21 : M_16 229 39 = M_4 229 39 := (m_17 229 39 (by omega))
  have e_22 : M_16 (229 + 29) 0 = M_4 (229 + 29) 0 := (m_17 (229 + 29) 0 (by omega))
  have e_23 : M_16 (229 + 29) 1 = M_4 (229 + 29) 1 := (m_17 (229 + 29) 1 (by omega))
  have e_24 : M_16 (229 + 29) 3 = M_4 (229 + 29) 3 := (m_17 (229 + 29) 3 (by omega))
  refine g_callVi (n := 38) (As := [vI 1, vI 99]) (rest := [vI (M (229 + 29) 3), aR Γ (229 + 34)]) hx (ctX10_amount Γ M_16 1 (by decide) (by decide) 99 (by decide) (by decide)) mlX10_347 (obX10 (by decide)) (dq tX10_readsLog 24 rfl) rfl (Nat.le_of_ble_eq_true rfl) (Nat.le_of_ble_eq_true rfl) (Nat.le_of_ble_eq_true rfl) rfl (fun z_25 M_26 h_27 p_28 => ?_)
  obtain ⟨f_29, h_30, h_31, h_32⟩ := p_28
  have g_33 : Nw M_26 := Nw.gen g_18 (by omega) (fun j hj => f_29 _ j (by omega)) (fun v hv => f_29 _ v (by omega)) (fun l hl => f_29 _ l (by omega)) (fun l hl => f_29 _ l (by omega))
  have e_34 : M_26 229 37 = M_16 229 37 := (f_29 229 37 (by omega))
  have e_35 : M_26 (229 + 29) 0 = M_16 (229 + 29) 0 := (f_29 (229 + 29) 0 (by omega))
  have e_36 : M_26 (229 + 29) 1 = M_16 (229 + 29) 1 := (f_29 (229 + 29) 1 (by omega))
  have e_37 : M_26 (229 + 29) 3 = M_16 (229 + 29) 3 := (f_29 (229 + 29) 3 (by omega))
  refine g_iast (n := 39) (q := (M (229 + 29) 3).toNat) hx (aX10_34 (b := 229) (by decide)) (dq tX10_readsLog 25 rfl) rfl (by omega) (by omega) (by omega) rfl (by omega) (by omega) (fun M_38 m_39e m_39 => ?_)
  have g_40 : Nw M_38 := Nw.gen g_33 (by have q39 := m_39 229 39 (by omega); omega) (fun j hj => m_39 _ j (by omega)) (fun v hv => m_39 _ v (by omega)) (fun l hl => m_39 _ l (by omega)) (fun l hl => m_39 _ l (by omega))
  refine g_aload_n (n := 40) hx 1 (dq tX10_readsLog 26 rfl) rfl rfl ?_
  refine g_getR (n := 43) hx glX10_112 (sX10_35 (by decide)) (dq tX10_readsLog 27 rfl) rfl ?_
  refine g_iload_n (n := 44) hx 0 (dq tX10_readsLog 28 rfl) rfl rfl ?_
  refine g_aload_n (n := 45) hx 1 (dq tX10_readsLog 29 rfl) rfl rfl ?_
  refine g_iconst (n := 46) hx (dq tX10_readsLog 30 rfl) rfl ?_
  refine g_bipush (n := 48) hx (dq tX10_readsLog 31 rfl) rfl (by decide) ?_
  have e_41 : M_38 229 37 = M_26 229 37 := (m_39 229 37 (by omega))
  have e_42 : M_38 229 38 = M_26 229 38 := (m_39 229 38 (by omega))
  have e_43 : M_38 229 39 = M_26 229 39 := (m_39 229 39 (by omega))
  have e_44 : M_38 (229 + 29) 0 = M_26 (229 + 29) 0 := (m_39 (229 + 29) 0 (by omega))
  have e_45 : M_38 (229 + 29) 1 = M_26 (229 + 29) 1 := (m_39 (229 + 29) 1 (by omega))
  have e_46 : M_38 (229 + 29) 3 = M_26 (229 + 29) 3 := (m_39 (229 + 29) 3 (by omega))
  refine g_callVi (n := 51) (As := [vI 1, vI 99]) (rest := [vI (M (229 + 29) 3), aR Γ (229 + 35)]) hx (ctX10_amount Γ M_38 1 (by decide) (by decide) 99 (by decide) (by decide)) mlX10_347 (obX10 (by decide)) (dq tX10_readsLog 32 rfl) rfl (Nat.le_of_ble_eq_true rfl) (Nat.le_of_ble_eq_true rfl) (Nat.le_of_ble_eq_true rfl) rfl (fun z_47 M_48 h_49 p_50 => ?_)
  obtain ⟨f_51, h_52, h_53, h_54⟩ := p_50
  have g_55 : Nw M_48 := Nw.gen g_40 (by omega) (fun j hj => f_51 _ j (by omega)) (fun v hv => f_51 _ v (by omega)) (fun l hl => f_51 _ l (by omega)) (fun l hl => f_51 _ l (by omega))
  have e_56 : M_48 229 37 = M_38 229 37 := (f_51 229 37 (by omega))
  have e_57 : M_48 (229 + 29) 0 = M_38 (229 + 29) 0 := (f_51 (229 + 29) 0 (by omega))
  have e_58 : M_48 (229 + 29) 1 = M_38 (229 + 29) 1 := (f_51 (229 + 29) 1 (by omega))
  have e_59 : M_48 (229 + 29) 3 = M_38 (229 + 29) 3 := (f_51 (229 + 29) 3 (by omega))
  refine g_iast (n := 52) (q := (M (229 + 29) 3).toNat) hx (aX10_35 (b := 229) (by decide)) (dq tX10_readsLog 33 rfl) rfl (by omega) (by omega) (by omega) rfl (by omega) (by omega) (fun M_60 m_61e m_61 => ?_)
  have g_62 : Nw M_60 := Nw.gen g_55 (by have q39 := m_61 229 39 (by omega); omega) (fun j hj => m_61 _ j (by omega)) (fun v hv => m_61 _ v (by omega)) (fun l hl => m_61 _ l (by omega)) (fun l hl => m_61 _ l (by omega))
  refine g_aload_n (n := 53) hx 1 (dq tX10_readsLog 34 rfl) rfl rfl ?_
  refine g_getR (n := 56) hx glX10_115 (sX10_36 (by decide)) (dq tX10_readsLog 35 rfl) rfl ?_
  refine g_iload_n (n := 57) hx 0 (dq tX10_readsLog 36 rfl) rfl rfl ?_
  refine g_aload_n (n := 58) hx 1 (dq tX10_readsLog 37 rfl) rfl rfl ?_
  refine g_iconst (n := 59) hx (dq tX10_readsLog 38 rfl) rfl ?_
  refine g_aload_n (n := 60) hx 1 (dq tX10_readsLog 39 rfl) rfl rfl ?_
  refine g_getR (n := 63) hx glX10_94 (sX10_29 (by decide)) (dq tX10_readsLog 40 rfl) rfl ?_
  refine g_iconst (n := 64) hx (dq tX10_readsLog 41 rfl) rfl ?_
  refine g_ialdX (n := 65) (q := 1) hx (aX10_29 (b := 229) (by decide)) (dq tX10_readsLog 42 rfl) rfl (by decide) (by decide) (by decide) rfl (fun h_63l h_63u => ?_)
  have h_63l : 0 ≤ M_60 (229 + 29) 1 := h_63l
  have h_63u : M_60 (229 + 29) 1 ≤ 6 := h_63u
  have e_64 : M_60 (229 + 29) 1 = M_48 (229 + 29) 1 := (m_61 (229 + 29) 1 (by omega))
  refine g_iconst (n := 66) hx (dq tX10_readsLog 43 rfl) rfl ?_
  refine g_isub (n := 67) hx (dq tX10_readsLog 44 rfl) rfl ?_
  have e_65 : M_60 229 37 = M_48 229 37 := (m_61 229 37 (by omega))
  have e_66 : M_60 229 38 = M_48 229 38 := (m_61 229 38 (by omega))
  have e_67 : M_60 229 39 = M_48 229 39 := (m_61 229 39 (by omega))
  have e_68 : M_60 (229 + 29) 0 = M_48 (229 + 29) 0 := (m_61 (229 + 29) 0 (by omega))
  have e_69 : M_60 (229 + 29) 3 = M_48 (229 + 29) 3 := (m_61 (229 + 29) 3 (by omega))
  refine g_callVi (n := 70) (As := [vI 0, vI ((M_60 (229 + 29) 1) - 1)]) (rest := [vI (M (229 + 29) 3), aR Γ (229 + 36)]) hx (ctX10_amount Γ M_60 0 (by decide) (by decide) ((M_60 (229 + 29) 1) - 1) (by omega) (by omega)) mlX10_347 (obX10 (by decide)) (dq tX10_readsLog 45 rfl) rfl (Nat.le_of_ble_eq_true rfl) (Nat.le_of_ble_eq_true rfl) (Nat.le_of_ble_eq_true rfl) rfl (fun z_70 M_71 h_72 p_73 => ?_)
  obtain ⟨f_74, h_75, h_76, h_77⟩ := p_73
  have g_78 : Nw M_71 := Nw.gen g_62 (by omega) (fun j hj => f_74 _ j (by omega)) (fun v hv => f_74 _ v (by omega)) (fun l hl => f_74 _ l (by omega)) (fun l hl => f_74 _ l (by omega))
  have e_79 : M_71 229 37 = M_60 229 37 := (f_74 229 37 (by omega))
  have e_80 : M_71 (229 + 29) 0 = M_60 (229 + 29) 0 := (f_74 (229 + 29) 0 (by omega))
  have e_81 : M_71 (229 + 29) 1 = M_60 (229 + 29) 1 := (f_74 (229 + 29) 1 (by omega))
  have e_82 : M_71 (229 + 29) 3 = M_60 (229 + 29) 3 := (f_74 (229 + 29) 3 (by omega))
  refine g_iast (n := 71) (q := (M (229 + 29) 3).toNat) hx (aX10_36 (b := 229) (by decide)) (dq tX10_readsLog 46 rfl) rfl (by omega) (by omega) (by omega) rfl (by omega) (by omega) (fun M_83 m_84e m_84 => ?_)
  have g_85 : Nw M_83 := Nw.gen g_78 (by have q39 := m_84 229 39 (by omega); omega) (fun j hj => m_84 _ j (by omega)) (fun v hv => m_84 _ v (by omega)) (fun l hl => m_84 _ l (by omega)) (fun l hl => m_84 _ l (by omega))
  refine g_aload_n (n := 72) hx 1 (dq tX10_readsLog 47 rfl) rfl rfl ?_
  refine g_getR (n := 75) hx glX10_94 (sX10_29 (by decide)) (dq tX10_readsLog 48 rfl) rfl ?_
  refine g_iconst (n := 76) hx (dq tX10_readsLog 49 rfl) rfl ?_
  refine g_dup2 (n := 77) hx (dq tX10_readsLog 50 rfl) rfl rfl rfl ?_
  refine g_ialdX (n := 78) (q := 3) hx (aX10_29 (b := 229) (by decide)) (dq tX10_readsLog 51 rfl) rfl (by decide) (by decide) (by decide) rfl (fun h_86l h_86u => ?_)
  have h_86l : 0 ≤ M_83 (229 + 29) 3 := h_86l
  have h_86u : M_83 (229 + 29) 3 ≤ 12 := h_86u
  have e_87 : M_83 (229 + 29) 3 = M_71 (229 + 29) 3 := (m_84 (229 + 29) 3 (by omega))
  refine g_iconst (n := 79) hx (dq tX10_readsLog 52 rfl) rfl ?_
  refine g_iadd (n := 80) hx (dq tX10_readsLog 53 rfl) rfl ?_
  have e_88 : M_83 229 37 = M_71 229 37 := (m_84 229 37 (by omega))
  have e_89 : M_83 229 38 = M_71 229 38 := (m_84 229 38 (by omega))
  have e_90 : M_83 229 39 = M_71 229 39 := (m_84 229 39 (by omega))
  have e_91 : M_83 (229 + 29) 0 = M_71 (229 + 29) 0 := (m_84 (229 + 29) 0 (by omega))
  have e_92 : M_83 (229 + 29) 1 = M_71 (229 + 29) 1 := (m_84 (229 + 29) 1 (by omega))
  refine g_iastX (n := 81) (q := 3) hx (aX10_29 (b := 229) (by decide)) (dq tX10_readsLog 54 rfl) rfl (by decide) (by decide) (by decide) rfl (show 0 ≤ (M_83 (229 + 29) 3) + 1 by omega) (show (M_83 (229 + 29) 3) + 1 ≤ 12 by omega) (fun M_93 m_94e m_94 => ?_)
  have g_95 : Nw M_93 := Nw.log (i := (M (229 + 29) 3).toNat) g_85 m_94e (by omega) (by omega) (fun q => by have w1 : M_83 (229 + 33) ((M (229 + 29) 3).toNat) = z_3 := (((((((m_84 (229 + 33) ((M (229 + 29) 3).toNat) (by omega)).trans (f_74 (229 + 33) ((M (229 + 29) 3).toNat) (by omega))).trans (m_61 (229 + 33) ((M (229 + 29) 3).toNat) (by omega))).trans (f_51 (229 + 33) ((M (229 + 29) 3).toNat) (by omega))).trans (m_39 (229 + 33) ((M (229 + 29) 3).toNat) (by omega))).trans (f_29 (229 + 33) ((M (229 + 29) 3).toNat) (by omega)))).trans m_17e; have w2 : M_83 (229 + 36) ((M (229 + 29) 3).toNat) = z_70 := (rfl).trans m_84e; omega) m_94
  have e_96 : M_93 229 37 = M_83 229 37 := (m_94 229 37 (by omega))
  have e_97 : M_93 229 38 = M_83 229 38 := (m_94 229 38 (by omega))
  have e_98 : M_93 229 39 = M_83 229 39 := (m_94 229 39 (by omega))
  have e_99 : M_93 (229 + 29) 0 = M_83 (229 + 29) 0 := (m_94 (229 + 29) 0 (by omega))
  have e_100 : M_93 (229 + 29) 1 = M_83 (229 + 29) 1 := (m_94 (229 + 29) 1 (by omega))
  exact g_vret hx hr (dq tX10_readsLog 55 rfl) ⟨(fun u_ v_ huv_ => (((((((((m_94 u_ v_ huv_.2.2.1).trans (m_84 u_ v_ (by omega))).trans (f_74 u_ v_ ⟨huv_.1, huv_.2.1⟩)).trans (m_61 u_ v_ (by omega))).trans (f_51 u_ v_ ⟨huv_.1, huv_.2.1⟩)).trans (m_39 u_ v_ (by omega))).trans (f_29 u_ v_ ⟨huv_.1, huv_.2.1⟩)).trans (m_17 u_ v_ (by omega))).trans (f_7 u_ v_ ⟨huv_.1, huv_.2.1⟩))), g_95, (by omega), (by omega), (by omega)⟩

abbrev qctX10_riverPart (M : zM) (k : Int) (M' : zM) : Prop := (∀ u_ v_, (u_ ≠ 229 ∨ v_ ≠ 38) ∧ (u_ ≠ 229 ∨ v_ ≠ 39) ∧ (u_ ≠ 229 ∨ v_ ≠ 47) ∧ (u_ < 229 + 29 ∨ 229 + 37 ≤ u_) → M' u_ v_ = M u_ v_) ∧ Nw M' ∧ (M 229 38 ≤ M' 229 38) ∧ (M' 229 38 = M 229 38 ∨ M' 229 38 ≤ M 229 37)
set_option maxHeartbeats 4000000 in
set_option maxRecDepth 100000 in
theorem ctX10_riverPart (Γ : Gam) (M : zM) (k : Int) (hkl : 0 ≤ k) (hku : k ≤ 5) (pre0 : M 229 39 = 0) (pre1 : k = 1 → M (229 + 29) 1 ≤ 5) (pre2 : k = 3 → M (229 + 29) 2 ≤ 3) (pre3 : k = 4 → M (229 + 29) 3 ≤ 11) (nw : Nw M) : CtV Γ yX10_riverPart cX10_riverPart 4 none 5 113 [aR Γ 229, vI k] M (qctX10_riverPart M k) := by
  refine met_v (by decide) (Nat.le_of_ble_eq_true rfl) (fun x hx hr => ?_)
  show G Γ x 4 (QV Γ x (qctX10_riverPart M k)) M 0 [(0, aR Γ 229), (1, vI k)] []
  refine g_iv (fun hI0 => ?_)
  have hI_37 : (0 : Int) ≤ M 229 37 ∧ M 229 37 ≤ 400 := hI0 229 37
  have hI_38 : (0 : Int) ≤ M 229 38 ∧ M 229 38 ≤ 402 := hI0 229 38
  have hI_45 : (0 : Int) ≤ M 229 45 ∧ M 229 45 ≤ 402 := hI0 229 45
  have hI_42 : (0 : Int) ≤ M 229 42 ∧ M 229 42 ≤ 300 := hI0 229 42
  have hI_39 : (0 : Int) ≤ M 229 39 ∧ M 229 39 ≤ 100000 := hI0 229 39
  have hI_40 : (0 : Int) ≤ M 229 40 ∧ M 229 40 ≤ 5 := hI0 229 40
  have hI_41 : (0 : Int) ≤ M 229 41 ∧ M 229 41 ≤ 6 := hI0 229 41
  clear hI0
  refine g_iload_n (n := 1) hx 1 (dq tX10_riverPart 0 rfl) rfl rfl ?_
  by_cases c_1 : k = 0
  · refine g_swI (t := 36) hx (dq tX10_riverPart 1 rfl) c_1 (by decide) (by decide) rfl (by decide) ?_
    refine g_aload_n (n := 37) hx 0 (dq tX10_riverPart 2 rfl) rfl rfl ?_
    refine g_getR (n := 40) hx glX10_94 (sX10_29 (by decide)) (dq tX10_riverPart 3 rfl) rfl ?_
    refine g_iconst (n := 41) hx (dq tX10_riverPart 4 rfl) rfl ?_
    refine g_aload_n (n := 42) hx 0 (dq tX10_riverPart 5 rfl) rfl rfl ?_
    refine g_iconst (n := 43) hx (dq tX10_riverPart 6 rfl) rfl ?_
    refine g_bipush (n := 45) hx (dq tX10_riverPart 7 rfl) rfl (by decide) ?_
    refine g_callVi (n := 48) (As := [vI 2, vI 9]) (rest := [vI 0, aR Γ (229 + 29)]) hx (ctX10_amount Γ M 2 (by decide) (by decide) 9 (by decide) (by decide)) mlX10_347 (obX10 (by decide)) (dq tX10_riverPart 8 rfl) rfl (Nat.le_of_ble_eq_true rfl) (Nat.le_of_ble_eq_true rfl) (Nat.le_of_ble_eq_true rfl) rfl (fun z_2 M_3 h_4 p_5 => ?_)
    obtain ⟨f_6, h_7, h_8, h_9⟩ := p_5
    have g_10 : Nw M_3 := Nw.gen nw (by omega) (fun j hj => f_6 _ j (by omega)) (fun v hv => f_6 _ v (by omega)) (fun l hl => f_6 _ l (by omega)) (fun l hl => f_6 _ l (by omega))
    have e_11 : M_3 229 37 = M 229 37 := (f_6 229 37 (by omega))
    have e_12 : M_3 (229 + 29) 0 = M (229 + 29) 0 := (f_6 (229 + 29) 0 (by omega))
    have e_13 : M_3 (229 + 29) 1 = M (229 + 29) 1 := (f_6 (229 + 29) 1 (by omega))
    have e_14 : M_3 (229 + 29) 3 = M (229 + 29) 3 := (f_6 (229 + 29) 3 (by omega))
    have e_15 : M_3 (229 + 29) 2 = M (229 + 29) 2 := (f_6 (229 + 29) 2 (by omega))
    refine g_iastX (n := 49) (q := 0) hx (aX10_29 (b := 229) (by decide)) (dq tX10_riverPart 9 rfl) rfl (by decide) (by decide) (by decide) rfl (show (-2147483648) ≤ z_2 by omega) (show z_2 ≤ 2147483647 by omega) (fun M_16 m_17e m_17 => ?_)
    have g_18 : Nw M_16 := Nw.bends g_10 m_17e (fun q => by omega) m_17
    refine g_goto (n := 184) hx (dq tX10_riverPart 10 rfl) (by decide) ?_
    have e_19 : M_16 229 37 = M_3 229 37 := (m_17 229 37 (by omega))
    have e_20 : M_16 229 38 = M_3 229 38 := (m_17 229 38 (by omega))
    have e_21 : M_16 229 39 = M_3 229 39 := (m_17 229 39 (by omega))
    have e_22 : M_16 (229 + 29) 1 = M_3 (229 + 29) 1 := (m_17 (229 + 29) 1 (by omega))
    have e_23 : M_16 (229 + 29) 3 = M_3 (229 + 29) 3 := (m_17 (229 + 29) 3 (by omega))
    have e_24 : M_16 (229 + 29) 2 = M_3 (229 + 29) 2 := (m_17 (229 + 29) 2 (by omega))
    exact g_vret hx hr (dq tX10_riverPart 94 rfl) ⟨(fun u_ v_ huv_ => ((m_17 u_ v_ (by have q9 := huv_.2.2.2; clear huv_; omega)).trans (f_6 u_ v_ ⟨huv_.1, huv_.2.1⟩))), g_18, (by omega), (by omega)⟩
  by_cases c_25 : k = 1
  · refine g_swI (t := 52) hx (dq tX10_riverPart 1 rfl) c_25 (by decide) (by decide) rfl (by decide) ?_
    refine g_aload_n (n := 53) hx 0 (dq tX10_riverPart 11 rfl) rfl rfl ?_
    refine g_getR (n := 56) hx glX10_103 (sX10_32 (by decide)) (dq tX10_riverPart 12 rfl) rfl ?_
    refine g_aload_n (n := 57) hx 0 (dq tX10_riverPart 13 rfl) rfl rfl ?_
    refine g_getR (n := 60) hx glX10_94 (sX10_29 (by decide)) (dq tX10_riverPart 14 rfl) rfl ?_
    refine g_iconst (n := 61) hx (dq tX10_riverPart 15 rfl) rfl ?_
    refine g_ialdX (n := 62) (q := 1) hx (aX10_29 (b := 229) (by decide)) (dq tX10_riverPart 16 rfl) rfl (by decide) (by decide) (by decide) rfl (fun h_26l h_26u => ?_)
    have h_26l : 0 ≤ M (229 + 29) 1 := h_26l
    have h_26u : M (229 + 29) 1 ≤ 6 := h_26u
    refine g_aload_n (n := 63) hx 0 (dq tX10_riverPart 17 rfl) rfl rfl ?_
    refine g_iconst (n := 64) hx (dq tX10_riverPart 18 rfl) rfl ?_
    refine g_aload_n (n := 65) hx 0 (dq tX10_riverPart 19 rfl) rfl rfl ?_
    refine g_getR (n := 68) hx glX10_94 (sX10_29 (by decide)) (dq tX10_riverPart 20 rfl) rfl ?_
    refine g_iconst (n := 69) hx (dq tX10_riverPart 21 rfl) rfl ?_
    refine g_ialdX (n := 70) (q := 0) hx (aX10_29 (b := 229) (by decide)) (dq tX10_riverPart 22 rfl) rfl (by decide) (by decide) (by decide) rfl (fun h_27l h_27u => ?_)
    have h_27l : (-2147483648) ≤ M (229 + 29) 0 := h_27l
    have h_27u : M (229 + 29) 0 ≤ 2147483647 := h_27u
    have h_28 := Nw.n0 nw (by omega)
    refine g_iconst (n := 71) hx (dq tX10_riverPart 23 rfl) rfl ?_
    refine g_isub (n := 72) hx (dq tX10_riverPart 24 rfl) rfl ?_
    refine g_callVi (n := 75) (As := [vI 0, vI ((M (229 + 29) 0) - 1)]) (rest := [vI (M (229 + 29) 1), aR Γ (229 + 32)]) hx (ctX10_amount Γ M 0 (by decide) (by decide) ((M (229 + 29) 0) - 1) (by omega) (by omega)) mlX10_347 (obX10 (by decide)) (dq tX10_riverPart 25 rfl) rfl (Nat.le_of_ble_eq_true rfl) (Nat.le_of_ble_eq_true rfl) (Nat.le_of_ble_eq_true rfl) rfl (fun z_29 M_30 h_31 p_32 => ?_)
    obtain ⟨f_33, h_34, h_35, h_36⟩ := p_32
    have g_37 : Nw M_30 := Nw.gen nw (by omega) (fun j hj => f_33 _ j (by omega)) (fun v hv => f_33 _ v (by omega)) (fun l hl => f_33 _ l (by omega)) (fun l hl => f_33 _ l (by omega))
    have e_38 : M_30 229 37 = M 229 37 := (f_33 229 37 (by omega))
    have e_39 : M_30 (229 + 29) 0 = M (229 + 29) 0 := (f_33 (229 + 29) 0 (by omega))
    have e_40 : M_30 (229 + 29) 1 = M (229 + 29) 1 := (f_33 (229 + 29) 1 (by omega))
    have e_41 : M_30 (229 + 29) 3 = M (229 + 29) 3 := (f_33 (229 + 29) 3 (by omega))
    have e_42 : M_30 (229 + 29) 2 = M (229 + 29) 2 := (f_33 (229 + 29) 2 (by omega))
    refine g_iast (n := 76) (q := (M (229 + 29) 1).toNat) hx (aX10_32 (b := 229) (by decide)) (dq tX10_riverPart 26 rfl) rfl (by omega) (by omega) (by omega) rfl (by omega) (by omega) (fun M_43 m_44e m_44 => ?_)
    have g_45 : Nw M_43 := Nw.gen g_37 (by have q39 := m_44 229 39 (by omega); omega) (fun j hj => m_44 _ j (by omega)) (fun v hv => m_44 _ v (by omega)) (fun l hl => m_44 _ l (by omega)) (fun l hl => m_44 _ l (by omega))
    refine g_aload_n (n := 77) hx 0 (dq tX10_riverPart 27 rfl) rfl rfl ?_
    refine g_getR (n := 80) hx glX10_94 (sX10_29 (by decide)) (dq tX10_riverPart 28 rfl) rfl ?_
    refine g_iconst (n := 81) hx (dq tX10_riverPart 29 rfl) rfl ?_
    refine g_dup2 (n := 82) hx (dq tX10_riverPart 30 rfl) rfl rfl rfl ?_
    refine g_ialdX (n := 83) (q := 1) hx (aX10_29 (b := 229) (by decide)) (dq tX10_riverPart 31 rfl) rfl (by decide) (by decide) (by decide) rfl (fun h_46l h_46u => ?_)
    have h_46l : 0 ≤ M_43 (229 + 29) 1 := h_46l
    have h_46u : M_43 (229 + 29) 1 ≤ 6 := h_46u
    have e_47 : M_43 (229 + 29) 1 = M_30 (229 + 29) 1 := (m_44 (229 + 29) 1 (by omega))
    refine g_iconst (n := 84) hx (dq tX10_riverPart 32 rfl) rfl ?_
    refine g_iadd (n := 85) hx (dq tX10_riverPart 33 rfl) rfl ?_
    have e_48 : M_43 229 37 = M_30 229 37 := (m_44 229 37 (by omega))
    have e_49 : M_43 229 38 = M_30 229 38 := (m_44 229 38 (by omega))
    have e_50 : M_43 229 39 = M_30 229 39 := (m_44 229 39 (by omega))
    have e_51 : M_43 (229 + 29) 0 = M_30 (229 + 29) 0 := (m_44 (229 + 29) 0 (by omega))
    have e_52 : M_43 (229 + 29) 3 = M_30 (229 + 29) 3 := (m_44 (229 + 29) 3 (by omega))
    have e_53 : M_43 (229 + 29) 2 = M_30 (229 + 29) 2 := (m_44 (229 + 29) 2 (by omega))
    refine g_iastX (n := 86) (q := 1) hx (aX10_29 (b := 229) (by decide)) (dq tX10_riverPart 34 rfl) rfl (by decide) (by decide) (by decide) rfl (show 0 ≤ (M_43 (229 + 29) 1) + 1 by omega) (show (M_43 (229 + 29) 1) + 1 ≤ 6 by omega) (fun M_54 m_55e m_55 => ?_)
    have g_56 : Nw M_54 := Nw.vil (i := (M (229 + 29) 1).toNat) g_45 m_55e (by omega) (by omega) (fun q => by have w1 : M_43 (229 + 32) ((M (229 + 29) 1).toNat) = z_29 := (rfl).trans m_44e; omega) m_55
    refine g_goto (n := 184) hx (dq tX10_riverPart 35 rfl) (by decide) ?_
    have e_57 : M_54 229 37 = M_43 229 37 := (m_55 229 37 (by omega))
    have e_58 : M_54 229 38 = M_43 229 38 := (m_55 229 38 (by omega))
    have e_59 : M_54 229 39 = M_43 229 39 := (m_55 229 39 (by omega))
    have e_60 : M_54 (229 + 29) 0 = M_43 (229 + 29) 0 := (m_55 (229 + 29) 0 (by omega))
    have e_61 : M_54 (229 + 29) 3 = M_43 (229 + 29) 3 := (m_55 (229 + 29) 3 (by omega))
    have e_62 : M_54 (229 + 29) 2 = M_43 (229 + 29) 2 := (m_55 (229 + 29) 2 (by omega))
    exact g_vret hx hr (dq tX10_riverPart 94 rfl) ⟨(fun u_ v_ huv_ => (((m_55 u_ v_ (by have q9 := huv_.2.2.2; clear huv_; omega)).trans (m_44 u_ v_ (by omega))).trans (f_33 u_ v_ ⟨huv_.1, huv_.2.1⟩))), g_56, (by omega), (by omega)⟩
  by_cases c_63 : k = 2
  · refine g_swI (t := 89) hx (dq tX10_riverPart 1 rfl) c_63 (by decide) (by decide) rfl (by decide) ?_
    refine g_aload_n (n := 90) hx 0 (dq tX10_riverPart 36 rfl) rfl rfl ?_
    refine g_iconst (n := 91) hx (dq tX10_riverPart 37 rfl) rfl ?_
    refine g_aload_n (n := 92) hx 0 (dq tX10_riverPart 38 rfl) rfl rfl ?_
    refine g_getR (n := 95) hx glX10_94 (sX10_29 (by decide)) (dq tX10_riverPart 39 rfl) rfl ?_
    refine g_iconst (n := 96) hx (dq tX10_riverPart 40 rfl) rfl ?_
    refine g_ialdX (n := 97) (q := 0) hx (aX10_29 (b := 229) (by decide)) (dq tX10_riverPart 41 rfl) rfl (by decide) (by decide) (by decide) rfl (fun h_64l h_64u => ?_)
    have h_64l : (-2147483648) ≤ M (229 + 29) 0 := h_64l
    have h_64u : M (229 + 29) 0 ≤ 2147483647 := h_64u
    have h_65 := Nw.n0 nw (by omega)
    refine g_iconst (n := 98) hx (dq tX10_riverPart 42 rfl) rfl ?_
    refine g_isub (n := 99) hx (dq tX10_riverPart 43 rfl) rfl ?_
    refine g_callVi (n := 102) (As := [vI 0, vI ((M (229 + 29) 0) - 1)]) (rest := []) hx (ctX10_amount Γ M 0 (by decide) (by decide) ((M (229 + 29) 0) - 1) (by omega) (by omega)) mlX10_347 (obX10 (by decide)) (dq tX10_riverPart 44 rfl) rfl (Nat.le_of_ble_eq_true rfl) (Nat.le_of_ble_eq_true rfl) (Nat.le_of_ble_eq_true rfl) rfl (fun z_66 M_67 h_68 p_69 => ?_)
    obtain ⟨f_70, h_71, h_72, h_73⟩ := p_69
    have g_74 : Nw M_67 := Nw.gen nw (by omega) (fun j hj => f_70 _ j (by omega)) (fun v hv => f_70 _ v (by omega)) (fun l hl => f_70 _ l (by omega)) (fun l hl => f_70 _ l (by omega))
    refine g_istore_n (n := 103) (lv' := [(2, vI z_66), (0, aR Γ 229), (1, vI k)]) hx (dq tX10_riverPart 45 rfl) (by decide) rfl rfl ?_
    refine g_aload_n (n := 104) hx 1 (dq tX10_riverPart 46 rfl) rfl rfl ?_
    refine g_iconst (n := 105) hx (dq tX10_riverPart 47 rfl) rfl ?_
    refine g_bipush (n := 107) hx (dq tX10_riverPart 48 rfl) rfl (by decide) ?_
    have e_75 : M_67 229 37 = M 229 37 := (f_70 229 37 (by omega))
    have e_76 : M_67 (229 + 29) 0 = M (229 + 29) 0 := (f_70 (229 + 29) 0 (by omega))
    have e_77 : M_67 (229 + 29) 1 = M (229 + 29) 1 := (f_70 (229 + 29) 1 (by omega))
    have e_78 : M_67 (229 + 29) 3 = M (229 + 29) 3 := (f_70 (229 + 29) 3 (by omega))
    have e_79 : M_67 (229 + 29) 2 = M (229 + 29) 2 := (f_70 (229 + 29) 2 (by omega))
    refine g_callVi (n := 110) (As := [vI 1, vI 9]) (rest := []) hx (ctX10_amount Γ M_67 1 (by decide) (by decide) 9 (by decide) (by decide)) mlX10_347 (obX10 (by decide)) (dq tX10_riverPart 49 rfl) rfl (Nat.le_of_ble_eq_true rfl) (Nat.le_of_ble_eq_true rfl) (Nat.le_of_ble_eq_true rfl) rfl (fun z_80 M_81 h_82 p_83 => ?_)
    obtain ⟨f_84, h_85, h_86, h_87⟩ := p_83
    have g_88 : Nw M_81 := Nw.gen g_74 (by omega) (fun j hj => f_84 _ j (by omega)) (fun v hv => f_84 _ v (by omega)) (fun l hl => f_84 _ l (by omega)) (fun l hl => f_84 _ l (by omega))
    refine g_istore_n (n := 111) (lv' := [(3, vI z_80), (2, vI z_66), (0, aR Γ 229), (1, vI k)]) hx (dq tX10_riverPart 50 rfl) (by decide) rfl rfl ?_
    refine g_aload_n (n := 112) hx 2 (dq tX10_riverPart 51 rfl) rfl rfl ?_
    refine g_getI (n := 115) hx glX10_246 (sX10_39 (by decide)) (dq tX10_riverPart 52 rfl) rfl (fun h_89l h_89u => ?_)
    refine g_if_ne (n := 118) (t := 184) hx (dq tX10_riverPart 53 rfl) (by decide) rfl (zrI h_89l h_89u (by decide) (by decide)) (fun c_90 => ?_) (fun c_90 => ?_)
    · have e_91 : M_81 229 37 = M_67 229 37 := (f_84 229 37 (by omega))
      have e_92 : M_81 (229 + 29) 0 = M_67 (229 + 29) 0 := (f_84 (229 + 29) 0 (by omega))
      have e_93 : M_81 (229 + 29) 1 = M_67 (229 + 29) 1 := (f_84 (229 + 29) 1 (by omega))
      have e_94 : M_81 (229 + 29) 3 = M_67 (229 + 29) 3 := (f_84 (229 + 29) 3 (by omega))
      have e_95 : M_81 (229 + 29) 2 = M_67 (229 + 29) 2 := (f_84 (229 + 29) 2 (by omega))
      exact g_vret hx hr (dq tX10_riverPart 94 rfl) ⟨(fun u_ v_ huv_ => ((f_84 u_ v_ ⟨huv_.1, huv_.2.1⟩).trans (f_70 u_ v_ ⟨huv_.1, huv_.2.1⟩))), g_88, (by omega), (by omega)⟩
    · refine g_aload_n (n := 119) hx 2 (dq tX10_riverPart 54 rfl) rfl rfl ?_
      refine g_getR (n := 122) hx glX10_97 (sX10_30 (by decide)) (dq tX10_riverPart 55 rfl) rfl ?_
      refine g_iload_n (n := 123) hx 1 (dq tX10_riverPart 56 rfl) rfl rfl ?_
      refine g_iload_n (n := 124) hx 0 (dq tX10_riverPart 57 rfl) rfl rfl ?_
      have e_96 : M_81 229 37 = M_67 229 37 := (f_84 229 37 (by omega))
      have e_97 : M_81 (229 + 29) 0 = M_67 (229 + 29) 0 := (f_84 (229 + 29) 0 (by omega))
      have e_98 : M_81 (229 + 29) 1 = M_67 (229 + 29) 1 := (f_84 (229 + 29) 1 (by omega))
      have e_99 : M_81 (229 + 29) 3 = M_67 (229 + 29) 3 := (f_84 (229 + 29) 3 (by omega))
      have e_100 : M_81 (229 + 29) 2 = M_67 (229 + 29) 2 := (f_84 (229 + 29) 2 (by omega))
      refine g_iast (n := 125) (q := z_66.toNat) hx (aX10_30 (b := 229) (by decide)) (dq tX10_riverPart 58 rfl) rfl (by omega) (by omega) (by omega) rfl (by omega) (by omega) (fun M_101 m_102e m_102 => ?_)
      have g_103 : Nw M_101 := Nw.gen g_88 (by have q39 := m_102 229 39 (by omega); omega) (fun j hj => m_102 _ j (by omega)) (fun v hv => m_102 _ v (by omega)) (fun l hl => m_102 _ l (by omega)) (fun l hl => m_102 _ l (by omega))
      refine g_goto (n := 184) hx (dq tX10_riverPart 59 rfl) (by decide) ?_
      have e_104 : M_101 229 37 = M_81 229 37 := (m_102 229 37 (by omega))
      have e_105 : M_101 229 38 = M_81 229 38 := (m_102 229 38 (by omega))
      have e_106 : M_101 229 39 = M_81 229 39 := (m_102 229 39 (by omega))
      have e_107 : M_101 (229 + 29) 0 = M_81 (229 + 29) 0 := (m_102 (229 + 29) 0 (by omega))
      have e_108 : M_101 (229 + 29) 1 = M_81 (229 + 29) 1 := (m_102 (229 + 29) 1 (by omega))
      have e_109 : M_101 (229 + 29) 3 = M_81 (229 + 29) 3 := (m_102 (229 + 29) 3 (by omega))
      have e_110 : M_101 (229 + 29) 2 = M_81 (229 + 29) 2 := (m_102 (229 + 29) 2 (by omega))
      exact g_vret hx hr (dq tX10_riverPart 94 rfl) ⟨(fun u_ v_ huv_ => (((m_102 u_ v_ (by omega)).trans (f_84 u_ v_ ⟨huv_.1, huv_.2.1⟩)).trans (f_70 u_ v_ ⟨huv_.1, huv_.2.1⟩))), g_103, (by omega), (by omega)⟩
  by_cases c_111 : k = 3
  · refine g_swI (t := 128) hx (dq tX10_riverPart 1 rfl) c_111 (by decide) (by decide) rfl (by decide) ?_
    refine g_aload_n (n := 129) hx 0 (dq tX10_riverPart 60 rfl) rfl rfl ?_
    refine g_getR (n := 132) hx glX10_100 (sX10_31 (by decide)) (dq tX10_riverPart 61 rfl) rfl ?_
    refine g_aload_n (n := 133) hx 0 (dq tX10_riverPart 62 rfl) rfl rfl ?_
    refine g_getR (n := 136) hx glX10_94 (sX10_29 (by decide)) (dq tX10_riverPart 63 rfl) rfl ?_
    refine g_iconst (n := 137) hx (dq tX10_riverPart 64 rfl) rfl ?_
    refine g_ialdX (n := 138) (q := 2) hx (aX10_29 (b := 229) (by decide)) (dq tX10_riverPart 65 rfl) rfl (by decide) (by decide) (by decide) rfl (fun h_112l h_112u => ?_)
    have h_112l : 0 ≤ M (229 + 29) 2 := h_112l
    have h_112u : M (229 + 29) 2 ≤ 4 := h_112u
    refine g_aload_n (n := 139) hx 0 (dq tX10_riverPart 66 rfl) rfl rfl ?_
    refine g_iconst (n := 140) hx (dq tX10_riverPart 67 rfl) rfl ?_
    refine g_bipush (n := 142) hx (dq tX10_riverPart 68 rfl) rfl (by decide) ?_
    refine g_callVi (n := 145) (As := [vI 1, vI 99]) (rest := [vI (M (229 + 29) 2), aR Γ (229 + 31)]) hx (ctX10_amount Γ M 1 (by decide) (by decide) 99 (by decide) (by decide)) mlX10_347 (obX10 (by decide)) (dq tX10_riverPart 69 rfl) rfl (Nat.le_of_ble_eq_true rfl) (Nat.le_of_ble_eq_true rfl) (Nat.le_of_ble_eq_true rfl) rfl (fun z_113 M_114 h_115 p_116 => ?_)
    obtain ⟨f_117, h_118, h_119, h_120⟩ := p_116
    have g_121 : Nw M_114 := Nw.gen nw (by omega) (fun j hj => f_117 _ j (by omega)) (fun v hv => f_117 _ v (by omega)) (fun l hl => f_117 _ l (by omega)) (fun l hl => f_117 _ l (by omega))
    have e_122 : M_114 229 37 = M 229 37 := (f_117 229 37 (by omega))
    have e_123 : M_114 (229 + 29) 0 = M (229 + 29) 0 := (f_117 (229 + 29) 0 (by omega))
    have e_124 : M_114 (229 + 29) 1 = M (229 + 29) 1 := (f_117 (229 + 29) 1 (by omega))
    have e_125 : M_114 (229 + 29) 3 = M (229 + 29) 3 := (f_117 (229 + 29) 3 (by omega))
    have e_126 : M_114 (229 + 29) 2 = M (229 + 29) 2 := (f_117 (229 + 29) 2 (by omega))
    refine g_iast (n := 146) (q := (M (229 + 29) 2).toNat) hx (aX10_31 (b := 229) (by decide)) (dq tX10_riverPart 70 rfl) rfl (by omega) (by omega) (by omega) rfl (by omega) (by omega) (fun M_127 m_128e m_128 => ?_)
    have g_129 : Nw M_127 := Nw.gen g_121 (by have q39 := m_128 229 39 (by omega); omega) (fun j hj => m_128 _ j (by omega)) (fun v hv => m_128 _ v (by omega)) (fun l hl => m_128 _ l (by omega)) (fun l hl => m_128 _ l (by omega))
    refine g_aload_n (n := 147) hx 0 (dq tX10_riverPart 71 rfl) rfl rfl ?_
    refine g_getR (n := 150) hx glX10_94 (sX10_29 (by decide)) (dq tX10_riverPart 72 rfl) rfl ?_
    refine g_iconst (n := 151) hx (dq tX10_riverPart 73 rfl) rfl ?_
    refine g_dup2 (n := 152) hx (dq tX10_riverPart 74 rfl) rfl rfl rfl ?_
    refine g_ialdX (n := 153) (q := 2) hx (aX10_29 (b := 229) (by decide)) (dq tX10_riverPart 75 rfl) rfl (by decide) (by decide) (by decide) rfl (fun h_130l h_130u => ?_)
    have h_130l : 0 ≤ M_127 (229 + 29) 2 := h_130l
    have h_130u : M_127 (229 + 29) 2 ≤ 4 := h_130u
    have e_131 : M_127 (229 + 29) 2 = M_114 (229 + 29) 2 := (m_128 (229 + 29) 2 (by omega))
    refine g_iconst (n := 154) hx (dq tX10_riverPart 76 rfl) rfl ?_
    refine g_iadd (n := 155) hx (dq tX10_riverPart 77 rfl) rfl ?_
    have e_132 : M_127 229 37 = M_114 229 37 := (m_128 229 37 (by omega))
    have e_133 : M_127 229 38 = M_114 229 38 := (m_128 229 38 (by omega))
    have e_134 : M_127 229 39 = M_114 229 39 := (m_128 229 39 (by omega))
    have e_135 : M_127 (229 + 29) 0 = M_114 (229 + 29) 0 := (m_128 (229 + 29) 0 (by omega))
    have e_136 : M_127 (229 + 29) 1 = M_114 (229 + 29) 1 := (m_128 (229 + 29) 1 (by omega))
    have e_137 : M_127 (229 + 29) 3 = M_114 (229 + 29) 3 := (m_128 (229 + 29) 3 (by omega))
    refine g_iastX (n := 156) (q := 2) hx (aX10_29 (b := 229) (by decide)) (dq tX10_riverPart 78 rfl) rfl (by decide) (by decide) (by decide) rfl (show 0 ≤ (M_127 (229 + 29) 2) + 1 by omega) (show (M_127 (229 + 29) 2) + 1 ≤ 4 by omega) (fun M_138 m_139e m_139 => ?_)
    have g_140 : Nw M_138 := Nw.gen g_129 (by have q39 := m_139 229 39 (by omega); omega) (fun j hj => m_139 _ j (by omega)) (fun v hv => m_139 _ v (by omega)) (fun l hl => m_139 _ l (by omega)) (fun l hl => m_139 _ l (by omega))
    refine g_goto (n := 184) hx (dq tX10_riverPart 79 rfl) (by decide) ?_
    have e_141 : M_138 229 37 = M_127 229 37 := (m_139 229 37 (by omega))
    have e_142 : M_138 229 38 = M_127 229 38 := (m_139 229 38 (by omega))
    have e_143 : M_138 229 39 = M_127 229 39 := (m_139 229 39 (by omega))
    have e_144 : M_138 (229 + 29) 0 = M_127 (229 + 29) 0 := (m_139 (229 + 29) 0 (by omega))
    have e_145 : M_138 (229 + 29) 1 = M_127 (229 + 29) 1 := (m_139 (229 + 29) 1 (by omega))
    have e_146 : M_138 (229 + 29) 3 = M_127 (229 + 29) 3 := (m_139 (229 + 29) 3 (by omega))
    exact g_vret hx hr (dq tX10_riverPart 94 rfl) ⟨(fun u_ v_ huv_ => (((m_139 u_ v_ (by have q9 := huv_.2.2.2; clear huv_; omega)).trans (m_128 u_ v_ (by omega))).trans (f_117 u_ v_ ⟨huv_.1, huv_.2.1⟩))), g_140, (by omega), (by omega)⟩
  by_cases c_147 : k = 4
  · refine g_swI (t := 159) hx (dq tX10_riverPart 1 rfl) c_147 (by decide) (by decide) rfl (by decide) ?_
    refine g_aload_n (n := 160) hx 0 (dq tX10_riverPart 80 rfl) rfl rfl ?_
    refine g_callVv (n := 163) (As := []) (rest := []) hx (ctX10_readsLog Γ M (by omega) nw) mlX10_351 (obX10 (by decide)) (dq tX10_riverPart 81 rfl) rfl (Nat.le_of_ble_eq_true rfl) (Nat.le_of_ble_eq_true rfl) (Nat.le_of_ble_eq_true rfl) rfl (fun M_149 p_151 => ?_)
    obtain ⟨f_152, g_153, h_154, h_155, h_156⟩ := p_151
    refine g_goto (n := 184) hx (dq tX10_riverPart 82 rfl) (by decide) ?_
    have e_157 : M_149 229 37 = M 229 37 := (f_152 229 37 (by omega))
    have e_158 : M_149 (229 + 29) 0 = M (229 + 29) 0 := (f_152 (229 + 29) 0 (by omega))
    have e_159 : M_149 (229 + 29) 1 = M (229 + 29) 1 := (f_152 (229 + 29) 1 (by omega))
    have e_160 : M_149 (229 + 29) 2 = M (229 + 29) 2 := (f_152 (229 + 29) 2 (by omega))
    exact g_vret hx hr (dq tX10_riverPart 94 rfl) ⟨(fun u_ v_ huv_ => (f_152 u_ v_ ⟨huv_.1, huv_.2.1, (by have q9 := huv_.2.2.2; clear huv_; omega), (by have q9 := huv_.2.2.2; clear huv_; omega), (by have q9 := huv_.2.2.2; clear huv_; omega), (by have q9 := huv_.2.2.2; clear huv_; omega), (by have q9 := huv_.2.2.2; clear huv_; omega)⟩)), g_153, (by omega), (by omega)⟩
  refine g_swO (t := 166) hx (dq tX10_riverPart 1 rfl) (zrI hkl hku (by decide) (by decide)) (by omega) (by decide) ?_
  refine g_aload_n (n := 167) hx 0 (dq tX10_riverPart 83 rfl) rfl rfl ?_
  refine g_getR (n := 170) hx glX10_94 (sX10_29 (by decide)) (dq tX10_riverPart 84 rfl) rfl ?_
  refine g_iconst (n := 171) hx (dq tX10_riverPart 85 rfl) rfl ?_
  refine g_aload_n (n := 172) hx 0 (dq tX10_riverPart 86 rfl) rfl rfl ?_
  refine g_iconst (n := 173) hx (dq tX10_riverPart 87 rfl) rfl ?_
  refine g_bipush (n := 175) hx (dq tX10_riverPart 88 rfl) rfl (by decide) ?_
  refine g_callVi (n := 178) (As := [vI 0, vI 9]) (rest := [vI 4, aR Γ (229 + 29)]) hx (ctX10_amount Γ M 0 (by decide) (by decide) 9 (by decide) (by decide)) mlX10_347 (obX10 (by decide)) (dq tX10_riverPart 89 rfl) rfl (Nat.le_of_ble_eq_true rfl) (Nat.le_of_ble_eq_true rfl) (Nat.le_of_ble_eq_true rfl) rfl (fun z_161 M_162 h_163 p_164 => ?_)
  obtain ⟨f_165, h_166, h_167, h_168⟩ := p_164
  have g_169 : Nw M_162 := Nw.gen nw (by omega) (fun j hj => f_165 _ j (by omega)) (fun v hv => f_165 _ v (by omega)) (fun l hl => f_165 _ l (by omega)) (fun l hl => f_165 _ l (by omega))
  have e_170 : M_162 229 37 = M 229 37 := (f_165 229 37 (by omega))
  have e_171 : M_162 (229 + 29) 0 = M (229 + 29) 0 := (f_165 (229 + 29) 0 (by omega))
  have e_172 : M_162 (229 + 29) 1 = M (229 + 29) 1 := (f_165 (229 + 29) 1 (by omega))
  have e_173 : M_162 (229 + 29) 3 = M (229 + 29) 3 := (f_165 (229 + 29) 3 (by omega))
  have e_174 : M_162 (229 + 29) 2 = M (229 + 29) 2 := (f_165 (229 + 29) 2 (by omega))
  refine g_iastX (n := 179) (q := 4) hx (aX10_29 (b := 229) (by decide)) (dq tX10_riverPart 90 rfl) rfl (by decide) (by decide) (by decide) rfl (show (-2147483648) ≤ z_161 by omega) (show z_161 ≤ 2147483647 by omega) (fun M_175 m_176e m_176 => ?_)
  have g_177 : Nw M_175 := Nw.gen g_169 (by have q39 := m_176 229 39 (by omega); omega) (fun j hj => m_176 _ j (by omega)) (fun v hv => m_176 _ v (by omega)) (fun l hl => m_176 _ l (by omega)) (fun l hl => m_176 _ l (by omega))
  refine g_aload_n (n := 180) hx 0 (dq tX10_riverPart 91 rfl) rfl rfl ?_
  refine g_iconst (n := 181) hx (dq tX10_riverPart 92 rfl) rfl ?_
  have e_178 : M_175 229 37 = M_162 229 37 := (m_176 229 37 (by omega))
  have e_179 : M_175 229 38 = M_162 229 38 := (m_176 229 38 (by omega))
  have e_180 : M_175 229 39 = M_162 229 39 := (m_176 229 39 (by omega))
  have e_181 : M_175 (229 + 29) 0 = M_162 (229 + 29) 0 := (m_176 (229 + 29) 0 (by omega))
  have e_182 : M_175 (229 + 29) 1 = M_162 (229 + 29) 1 := (m_176 (229 + 29) 1 (by omega))
  have e_183 : M_175 (229 + 29) 3 = M_162 (229 + 29) 3 := (m_176 (229 + 29) 3 (by omega))
  have e_184 : M_175 (229 + 29) 2 = M_162 (229 + 29) 2 := (m_176 (229 + 29) 2 (by omega))
  refine g_putZ (n := 184) hx plX10_354 (sX10_47 (by decide)) (dq tX10_riverPart 93 rfl) rfl (by omega) (by omega) (by omega) (fun M_185 m_186e m_186 => ?_)
  have g_187 : Nw M_185 := Nw.gen g_177 (by have q39 := m_186 229 39 (by omega); omega) (fun j hj => m_186 _ j (by omega)) (fun v hv => m_186 _ v (by omega)) (fun l hl => m_186 _ l (by omega)) (fun l hl => m_186 _ l (by omega))
  have e_188 : M_185 229 37 = M_175 229 37 := (m_186 229 37 (by omega))
  have e_189 : M_185 229 38 = M_175 229 38 := (m_186 229 38 (by omega))
  have e_190 : M_185 229 39 = M_175 229 39 := (m_186 229 39 (by omega))
  have e_191 : M_185 (229 + 29) 0 = M_175 (229 + 29) 0 := (m_186 (229 + 29) 0 (by omega))
  have e_192 : M_185 (229 + 29) 1 = M_175 (229 + 29) 1 := (m_186 (229 + 29) 1 (by omega))
  have e_193 : M_185 (229 + 29) 3 = M_175 (229 + 29) 3 := (m_186 (229 + 29) 3 (by omega))
  have e_194 : M_185 (229 + 29) 2 = M_175 (229 + 29) 2 := (m_186 (229 + 29) 2 (by omega))
  exact g_vret hx hr (dq tX10_riverPart 94 rfl) ⟨(fun u_ v_ huv_ => (((m_186 u_ v_ huv_.2.2.1).trans (m_176 u_ v_ (by have q9 := huv_.2.2.2; clear huv_; omega))).trans (f_165 u_ v_ ⟨huv_.1, huv_.2.1⟩))), g_187, (by omega), (by omega)⟩

abbrev qctX10_isFull (M : zM) (k : Int) (n : Int) (z : Int) (M' : zM) : Prop := M = M' ∧ 0 ≤ z ∧ z ≤ 1 ∧ (z = 0 → ((k = 1 → M (229 + 29) 1 ≤ 5) ∧ (k = 3 → M (229 + 29) 2 ≤ 3) ∧ (k = 4 → M (229 + 29) 3 ≤ 11)))
set_option maxHeartbeats 4000000 in
set_option maxRecDepth 100000 in
theorem ctX10_isFull (Γ : Gam) (M : zM) (k : Int) (hkl : 0 ≤ k) (hku : k ≤ 5) (n : Int) (hnl : 0 ≤ n) (hnu : n ≤ 402)  : CtI Γ yX10_isFull cX10_isFull 3 (some .boolean) 0 0 [aR Γ 229, vI k, vI n] M (qctX10_isFull M k n) := by
  refine met_i (by decide) (Nat.le_of_ble_eq_true rfl) (fun x hx hr => ?_)
  show G Γ x 3 (QI Γ x (qctX10_isFull M k n)) M 0 [(0, aR Γ 229), (1, vI k), (2, vI n)] []
  refine g_iload_n (n := 1) hx 2 (dq tX10_isFull 0 rfl) rfl rfl ?_
  refine g_bipush (n := 3) hx (dq tX10_isFull 1 rfl) rfl (by decide) ?_
  refine g_icmp_eq (n := 6) (t := 27) hx (dq tX10_isFull 2 rfl) (by decide) rfl (zrI hnl hnu (by decide) (by decide)) ⟨by decide, by decide⟩ (fun c_1 => ?_) (fun c_1 => ?_)
  · refine g_iconst (n := 28) hx (dq tX10_isFull 14 rfl) rfl ?_
    exact g_zret hx hr (dq tX10_isFull 15 rfl) (by omega) ⟨rfl, (by omega), (by omega), (by omega)⟩
  · refine g_iload_n (n := 7) hx 1 (dq tX10_isFull 3 rfl) rfl rfl ?_
    refine g_if_ne (n := 10) (t := 14) hx (dq tX10_isFull 4 rfl) (by decide) rfl (zrI hkl hku (by decide) (by decide)) (fun c_2 => ?_) (fun c_2 => ?_)
    · refine g_iconst (n := 15) hx (dq tX10_isFull 7 rfl) rfl ?_
      refine g_iload_n (n := 16) hx 2 (dq tX10_isFull 8 rfl) rfl rfl ?_
      refine g_if_ne (n := 19) (t := 23) hx (dq tX10_isFull 9 rfl) (by decide) rfl (zrI hnl hnu (by decide) (by decide)) (fun c_3 => ?_) (fun c_3 => ?_)
      · refine g_iconst (n := 24) hx (dq tX10_isFull 12 rfl) rfl ?_
        refine g_icmp_eq (n := 27) (t := 29) hx (dq tX10_isFull 13 rfl) (by decide) rfl ⟨by decide, by decide⟩ ⟨by decide, by decide⟩ (fun c_4 => ?_) (fun c_4 => ?_)
        · refine g_iload_n (n := 30) hx 1 (dq tX10_isFull 16 rfl) rfl rfl ?_
          by_cases c_5 : k = 1
          · refine g_swI (t := 64) hx (dq tX10_isFull 17 rfl) c_5 (by decide) (by decide) rfl (by decide) ?_
            refine g_aload_n (n := 65) hx 0 (dq tX10_isFull 18 rfl) rfl rfl ?_
            refine g_getR (n := 68) hx glX10_94 (sX10_29 (by decide)) (dq tX10_isFull 19 rfl) rfl ?_
            refine g_iconst (n := 69) hx (dq tX10_isFull 20 rfl) rfl ?_
            refine g_ialdX (n := 70) (q := 1) hx (aX10_29 (b := 229) (by decide)) (dq tX10_isFull 21 rfl) rfl (by decide) (by decide) (by decide) rfl (fun h_6l h_6u => ?_)
            have h_6l : 0 ≤ M (229 + 29) 1 := h_6l
            have h_6u : M (229 + 29) 1 ≤ 6 := h_6u
            refine g_bipush (n := 72) hx (dq tX10_isFull 22 rfl) rfl (by decide) ?_
            refine g_icmp_ne (n := 75) (t := 79) hx (dq tX10_isFull 23 rfl) (by decide) rfl (zrI h_6l h_6u (by decide) (by decide)) ⟨by decide, by decide⟩ (fun c_7 => ?_) (fun c_7 => ?_)
            · refine g_iconst (n := 80) hx (dq tX10_isFull 26 rfl) rfl ?_
              exact g_zret hx hr (dq tX10_isFull 27 rfl) (by omega) ⟨rfl, (by omega), (by omega), (by omega)⟩
            · refine g_iconst (n := 76) hx (dq tX10_isFull 24 rfl) rfl ?_
              refine g_goto (n := 80) hx (dq tX10_isFull 25 rfl) (by decide) ?_
              exact g_zret hx hr (dq tX10_isFull 27 rfl) (by omega) ⟨rfl, (by omega), (by omega), (by omega)⟩
          by_cases c_8 : k = 2
          · refine g_swI (t := 119) hx (dq tX10_isFull 17 rfl) c_8 (by decide) (by decide) rfl (by decide) ?_
            refine g_iconst (n := 120) hx (dq tX10_isFull 51 rfl) rfl ?_
            exact g_zret hx hr (dq tX10_isFull 52 rfl) (by omega) ⟨rfl, (by omega), (by omega), (by omega)⟩
          by_cases c_9 : k = 3
          · refine g_swI (t := 81) hx (dq tX10_isFull 17 rfl) c_9 (by decide) (by decide) rfl (by decide) ?_
            refine g_aload_n (n := 82) hx 0 (dq tX10_isFull 28 rfl) rfl rfl ?_
            refine g_getR (n := 85) hx glX10_94 (sX10_29 (by decide)) (dq tX10_isFull 29 rfl) rfl ?_
            refine g_iconst (n := 86) hx (dq tX10_isFull 30 rfl) rfl ?_
            refine g_ialdX (n := 87) (q := 2) hx (aX10_29 (b := 229) (by decide)) (dq tX10_isFull 31 rfl) rfl (by decide) (by decide) (by decide) rfl (fun h_10l h_10u => ?_)
            have h_10l : 0 ≤ M (229 + 29) 2 := h_10l
            have h_10u : M (229 + 29) 2 ≤ 4 := h_10u
            refine g_iconst (n := 88) hx (dq tX10_isFull 32 rfl) rfl ?_
            refine g_icmp_ne (n := 91) (t := 95) hx (dq tX10_isFull 33 rfl) (by decide) rfl (zrI h_10l h_10u (by decide) (by decide)) ⟨by decide, by decide⟩ (fun c_11 => ?_) (fun c_11 => ?_)
            · refine g_iconst (n := 96) hx (dq tX10_isFull 36 rfl) rfl ?_
              exact g_zret hx hr (dq tX10_isFull 37 rfl) (by omega) ⟨rfl, (by omega), (by omega), (by omega)⟩
            · refine g_iconst (n := 92) hx (dq tX10_isFull 34 rfl) rfl ?_
              refine g_goto (n := 96) hx (dq tX10_isFull 35 rfl) (by decide) ?_
              exact g_zret hx hr (dq tX10_isFull 37 rfl) (by omega) ⟨rfl, (by omega), (by omega), (by omega)⟩
          by_cases c_12 : k = 4
          · refine g_swI (t := 97) hx (dq tX10_isFull 17 rfl) c_12 (by decide) (by decide) rfl (by decide) ?_
            refine g_aload_n (n := 98) hx 0 (dq tX10_isFull 38 rfl) rfl rfl ?_
            refine g_getR (n := 101) hx glX10_94 (sX10_29 (by decide)) (dq tX10_isFull 39 rfl) rfl ?_
            refine g_iconst (n := 102) hx (dq tX10_isFull 40 rfl) rfl ?_
            refine g_ialdX (n := 103) (q := 3) hx (aX10_29 (b := 229) (by decide)) (dq tX10_isFull 41 rfl) rfl (by decide) (by decide) (by decide) rfl (fun h_13l h_13u => ?_)
            have h_13l : 0 ≤ M (229 + 29) 3 := h_13l
            have h_13u : M (229 + 29) 3 ≤ 12 := h_13u
            refine g_bipush (n := 105) hx (dq tX10_isFull 42 rfl) rfl (by decide) ?_
            refine g_icmp_ne (n := 108) (t := 112) hx (dq tX10_isFull 43 rfl) (by decide) rfl (zrI h_13l h_13u (by decide) (by decide)) ⟨by decide, by decide⟩ (fun c_14 => ?_) (fun c_14 => ?_)
            · refine g_iconst (n := 113) hx (dq tX10_isFull 46 rfl) rfl ?_
              exact g_zret hx hr (dq tX10_isFull 47 rfl) (by omega) ⟨rfl, (by omega), (by omega), (by omega)⟩
            · refine g_iconst (n := 109) hx (dq tX10_isFull 44 rfl) rfl ?_
              refine g_goto (n := 113) hx (dq tX10_isFull 45 rfl) (by decide) ?_
              exact g_zret hx hr (dq tX10_isFull 47 rfl) (by omega) ⟨rfl, (by omega), (by omega), (by omega)⟩
          by_cases c_15 : k = 5
          · refine g_swI (t := 114) hx (dq tX10_isFull 17 rfl) c_15 (by decide) (by decide) rfl (by decide) ?_
            refine g_aload_n (n := 115) hx 0 (dq tX10_isFull 48 rfl) rfl rfl ?_
            refine g_getI (n := 118) hx glX10_354 (sX10_47 (by decide)) (dq tX10_isFull 49 rfl) rfl (fun h_16l h_16u => ?_)
            exact g_zret hx hr (dq tX10_isFull 50 rfl) (by omega) ⟨rfl, (by omega), (by omega), (by omega)⟩
          refine g_swO (t := 119) hx (dq tX10_isFull 17 rfl) (zrI hkl hku (by decide) (by decide)) (by omega) (by decide) ?_
          refine g_iconst (n := 120) hx (dq tX10_isFull 51 rfl) rfl ?_
          exact g_zret hx hr (dq tX10_isFull 52 rfl) (by omega) ⟨rfl, (by omega), (by omega), (by omega)⟩
        · omega
      · refine g_iconst (n := 20) hx (dq tX10_isFull 10 rfl) rfl ?_
        refine g_goto (n := 24) hx (dq tX10_isFull 11 rfl) (by decide) ?_
        refine g_icmp_eq (n := 27) (t := 29) hx (dq tX10_isFull 13 rfl) (by decide) rfl ⟨by decide, by decide⟩ ⟨by decide, by decide⟩ (fun c_17 => ?_) (fun c_17 => ?_)
        · omega
        · refine g_iconst (n := 28) hx (dq tX10_isFull 14 rfl) rfl ?_
          exact g_zret hx hr (dq tX10_isFull 15 rfl) (by omega) ⟨rfl, (by omega), (by omega), (by omega)⟩
    · refine g_iconst (n := 11) hx (dq tX10_isFull 5 rfl) rfl ?_
      refine g_goto (n := 15) hx (dq tX10_isFull 6 rfl) (by decide) ?_
      refine g_iload_n (n := 16) hx 2 (dq tX10_isFull 8 rfl) rfl rfl ?_
      refine g_if_ne (n := 19) (t := 23) hx (dq tX10_isFull 9 rfl) (by decide) rfl (zrI hnl hnu (by decide) (by decide)) (fun c_18 => ?_) (fun c_18 => ?_)
      · refine g_iconst (n := 24) hx (dq tX10_isFull 12 rfl) rfl ?_
        refine g_icmp_eq (n := 27) (t := 29) hx (dq tX10_isFull 13 rfl) (by decide) rfl ⟨by decide, by decide⟩ ⟨by decide, by decide⟩ (fun c_19 => ?_) (fun c_19 => ?_)
        · omega
        · refine g_iconst (n := 28) hx (dq tX10_isFull 14 rfl) rfl ?_
          exact g_zret hx hr (dq tX10_isFull 15 rfl) (by omega) ⟨rfl, (by omega), (by omega), (by omega)⟩
      · refine g_iconst (n := 20) hx (dq tX10_isFull 10 rfl) rfl ?_
        refine g_goto (n := 24) hx (dq tX10_isFull 11 rfl) (by decide) ?_
        refine g_icmp_eq (n := 27) (t := 29) hx (dq tX10_isFull 13 rfl) (by decide) rfl ⟨by decide, by decide⟩ ⟨by decide, by decide⟩ (fun c_20 => ?_) (fun c_20 => ?_)
        · refine g_iload_n (n := 30) hx 1 (dq tX10_isFull 16 rfl) rfl rfl ?_
          refine g_swO (t := 119) hx (dq tX10_isFull 17 rfl) (zrI hkl hku (by decide) (by decide)) (by omega) (by decide) ?_
          refine g_iconst (n := 120) hx (dq tX10_isFull 51 rfl) rfl ?_
          exact g_zret hx hr (dq tX10_isFull 52 rfl) (by omega) ⟨rfl, (by omega), (by omega), (by omega)⟩
        · omega

abbrev qctX10_riverClause (M : zM) (n : Int) (M' : zM) : Prop := (∀ u_ v_, (u_ ≠ 229 ∨ v_ ≠ 38) ∧ (u_ ≠ 229 ∨ v_ ≠ 39) ∧ (u_ ≠ 229 ∨ v_ ≠ 47) ∧ (u_ < 229 + 29 ∨ 229 + 37 ≤ u_) → M' u_ v_ = M u_ v_) ∧ Nw M' ∧ (M 229 38 ≤ M' 229 38) ∧ (M' 229 38 ≤ M 229 37)
set_option maxHeartbeats 4000000 in
set_option maxRecDepth 100000 in
theorem ctX10_riverClause (Γ : Gam) (M : zM) (n : Int) (hnl : 0 ≤ n) (hnu : n ≤ 402) (pre0 : M 229 39 = 0) (pre1 : M 229 38 ≤ M 229 37) (nw : Nw M) : CtV Γ yX10_riverClause cX10_riverClause 4 none 6 136 [aR Γ 229, vI n] M (qctX10_riverClause M n) := by
  refine met_v (by decide) (Nat.le_of_ble_eq_true rfl) (fun x hx hr => ?_)
  show G Γ x 4 (QV Γ x (qctX10_riverClause M n)) M 0 [(0, aR Γ 229), (1, vI n)] []
  refine g_iv (fun hI0 => ?_)
  have hI_37 : (0 : Int) ≤ M 229 37 ∧ M 229 37 ≤ 400 := hI0 229 37
  have hI_38 : (0 : Int) ≤ M 229 38 ∧ M 229 38 ≤ 402 := hI0 229 38
  have hI_45 : (0 : Int) ≤ M 229 45 ∧ M 229 45 ≤ 402 := hI0 229 45
  have hI_42 : (0 : Int) ≤ M 229 42 ∧ M 229 42 ≤ 300 := hI0 229 42
  have hI_39 : (0 : Int) ≤ M 229 39 ∧ M 229 39 ≤ 100000 := hI0 229 39
  have hI_40 : (0 : Int) ≤ M 229 40 ∧ M 229 40 ≤ 5 := hI0 229 40
  have hI_41 : (0 : Int) ≤ M 229 41 ∧ M 229 41 ≤ 6 := hI0 229 41
  clear hI0
  refine g_aload_n (n := 1) hx 0 (dq tX10_riverClause 0 rfl) rfl rfl ?_
  refine g_callVv (n := 4) (As := []) (rest := []) hx (ctX10_blanks Γ M ) mlX10_268 (obX10 (by decide)) (dq tX10_riverClause 1 rfl) rfl (Nat.le_of_ble_eq_true rfl) (Nat.le_of_ble_eq_true rfl) (Nat.le_of_ble_eq_true rfl) rfl (fun M_2 p_4 => ?_)
  obtain ⟨f_5, h_6, h_7⟩ := p_4
  have g_8 : Nw M_2 := Nw.gen nw (by have q39 := f_5 229 39 (by omega); omega) (fun j hj => f_5 _ j (by omega)) (fun v hv => f_5 _ v (by omega)) (fun l hl => f_5 _ l (by omega)) (fun l hl => f_5 _ l (by omega))
  refine g_aload_n (n := 5) hx 0 (dq tX10_riverClause 2 rfl) rfl rfl ?_
  refine g_getI (n := 8) hx glX10_249 (sX10_38 (by decide)) (dq tX10_riverClause 3 rfl) rfl (fun h_9l h_9u => ?_)
  refine g_istore_n (n := 9) (lv' := [(2, vI (M_2 229 38)), (0, aR Γ 229), (1, vI n)]) hx (dq tX10_riverClause 4 rfl) (by decide) rfl rfl ?_
  refine g_iconst (n := 10) hx (dq tX10_riverClause 5 rfl) rfl ?_
  refine g_istore_n (n := 11) (lv' := [(3, vI 0), (2, vI (M_2 229 38)), (0, aR Γ 229), (1, vI n)]) hx (dq tX10_riverClause 6 rfl) (by decide) rfl rfl ?_
  have L_11 : ∀ (n_ : Nat) (i_10 : Int), (0 ≤ i_10) → (i_10 ≤ 6) → ((6 - i_10).toNat = n_) → G Γ x 4 (QV Γ x (qctX10_riverClause M n)) M_2 11 [(3, vI i_10), (2, vI (M_2 229 38)), (0, aR Γ 229), (1, vI n)] [] := by
    intro n_
    induction n_ using Nat.strongRecOn with
    | _ n_ ih_12 =>
      intro i_10 h_15 h_16 hm_14
      refine g_iload_n (n := 12) hx 0 (dq tX10_riverClause 7 rfl) rfl rfl ?_
      refine g_bipush (n := 14) hx (dq tX10_riverClause 8 rfl) rfl (by decide) ?_
      refine g_icmp_ge (n := 17) (t := 34) hx (dq tX10_riverClause 9 rfl) (by decide) rfl ⟨by omega, by omega⟩ ⟨by decide, by decide⟩ (fun c_17 => ?_) (fun c_17 => ?_)
      · refine g_iload_n (n := 35) hx 0 (dq tX10_riverClause 17 rfl) rfl rfl ?_
        refine g_bipush (n := 37) hx (dq tX10_riverClause 18 rfl) rfl (by decide) ?_
        refine g_icmp_ne (n := 40) (t := 47) hx (dq tX10_riverClause 19 rfl) (by decide) rfl ⟨by omega, by omega⟩ ⟨by decide, by decide⟩ (fun c_18 => ?_) (fun c_18 => ?_)
        · omega
        · refine g_aload_n (n := 41) hx 2 (dq tX10_riverClause 20 rfl) rfl rfl ?_
          refine g_iconst (n := 42) hx (dq tX10_riverClause 21 rfl) rfl ?_
          refine g_iload_n (n := 43) hx 1 (dq tX10_riverClause 22 rfl) rfl rfl ?_
          have e_19 : M_2 229 37 = M 229 37 := (f_5 229 37 (by omega))
          have e_20 : M_2 229 39 = M 229 39 := (f_5 229 39 (by omega))
          have e_21 : M_2 (229 + 29) 0 = M (229 + 29) 0 := (f_5 (229 + 29) 0 (by omega))
          have e_22 : M_2 (229 + 29) 1 = M (229 + 29) 1 := (f_5 (229 + 29) 1 (by omega))
          have e_23 : M_2 (229 + 29) 3 = M (229 + 29) 3 := (f_5 (229 + 29) 3 (by omega))
          have e_24 : M_2 (229 + 29) 2 = M (229 + 29) 2 := (f_5 (229 + 29) 2 (by omega))
          refine g_callVv (n := 46) (As := [vI 0, vI (M_2 229 38)]) (rest := []) hx (ctX10_fails Γ M_2 0 (by decide) (by decide) (M_2 229 38) (by omega) (by omega)) mlX10_284 (obX10 (by decide)) (dq tX10_riverClause 23 rfl) rfl (Nat.le_of_ble_eq_true rfl) (Nat.le_of_ble_eq_true rfl) (Nat.le_of_ble_eq_true rfl) rfl (fun M_26 p_28 => ?_)
          obtain ⟨f_29, h_30⟩ := p_28
          have g_31 : Nw M_26 := Nw.vac (by omega)
          have e_32 : M_26 229 37 = M_2 229 37 := (f_29 229 37 (by omega))
          have e_33 : M_26 229 38 = M_2 229 38 := (f_29 229 38 (by omega))
          have e_34 : M_26 (229 + 29) 0 = M_2 (229 + 29) 0 := (f_29 (229 + 29) 0 (by omega))
          have e_35 : M_26 (229 + 29) 1 = M_2 (229 + 29) 1 := (f_29 (229 + 29) 1 (by omega))
          have e_36 : M_26 (229 + 29) 3 = M_2 (229 + 29) 3 := (f_29 (229 + 29) 3 (by omega))
          have e_37 : M_26 (229 + 29) 2 = M_2 (229 + 29) 2 := (f_29 (229 + 29) 2 (by omega))
          exact g_vret hx hr (dq tX10_riverClause 24 rfl) ⟨(fun u_ v_ huv_ => ((f_29 u_ v_ huv_.2.1).trans (f_5 u_ v_ huv_.1))), g_31, (by omega), (by omega)⟩
      · refine g_aload_n (n := 18) hx 2 (dq tX10_riverClause 10 rfl) rfl rfl ?_
        refine g_iload_n (n := 19) hx 0 (dq tX10_riverClause 11 rfl) rfl rfl ?_
        have e_38 : M_2 229 37 = M 229 37 := (f_5 229 37 (by omega))
        have e_39 : M_2 229 39 = M 229 39 := (f_5 229 39 (by omega))
        have e_40 : M_2 (229 + 29) 0 = M (229 + 29) 0 := (f_5 (229 + 29) 0 (by omega))
        have e_41 : M_2 (229 + 29) 1 = M (229 + 29) 1 := (f_5 (229 + 29) 1 (by omega))
        have e_42 : M_2 (229 + 29) 3 = M (229 + 29) 3 := (f_5 (229 + 29) 3 (by omega))
        have e_43 : M_2 (229 + 29) 2 = M (229 + 29) 2 := (f_5 (229 + 29) 2 (by omega))
        refine g_callSs (n := 22) (As := [vI i_10]) (rest := [aR Γ 229]) hx (ctX10_riverWord Γ M_2 i_10 (by omega) (by omega)) mlX10_358 (dq tX10_riverClause 12 rfl) rfl (Nat.le_of_ble_eq_true rfl) (Nat.le_of_ble_eq_true rfl) (Nat.le_of_ble_eq_true rfl) rfl (fun z_44 M_45 p_47 => ?_)
        obtain ⟨rfl, h_49, h_50⟩ := p_47
        obtain ⟨qz_44, hz_44⟩ := sN_some z_44 (by omega)
        have hz_44n := sNle z_44 _ hz_44
        have hz_44l := sln_eq hz_44
        have h_51 := rlF_pos (k := i_10) (by omega) (by omega)
        refine g_callVi (n := 25) (As := [sR Γ z_44]) (rest := []) hx (ctX10_stood Γ M_2 z_44 _ hz_44 hz_44n (by omega)) mlX10_271 (obX10 (by decide)) (dq tX10_riverClause 13 rfl) rfl (Nat.le_of_ble_eq_true rfl) (Nat.le_of_ble_eq_true rfl) (Nat.le_of_ble_eq_true rfl) rfl (fun z_52 M_53 h_54 p_55 => ?_)
        obtain ⟨rfl, b_57⟩ := p_55
        refine g_if_ne (n := 28) (t := 34) hx (dq tX10_riverClause 14 rfl) (by decide) rfl h_54 (fun c_59 => ?_) (fun c_59 => ?_)
        · have b_57 := b_57.resolve_left c_59
          obtain ⟨-, h_58⟩ := b_57
          refine g_iload_n (n := 35) hx 0 (dq tX10_riverClause 17 rfl) rfl rfl ?_
          refine g_bipush (n := 37) hx (dq tX10_riverClause 18 rfl) rfl (by decide) ?_
          refine g_icmp_ne (n := 40) (t := 47) hx (dq tX10_riverClause 19 rfl) (by decide) rfl ⟨by omega, by omega⟩ ⟨by decide, by decide⟩ (fun c_60 => ?_) (fun c_60 => ?_)
          · refine g_aload_n (n := 48) hx 2 (dq tX10_riverClause 25 rfl) rfl rfl ?_
            refine g_iload_n (n := 49) hx 0 (dq tX10_riverClause 26 rfl) rfl rfl ?_
            refine g_iload_n (n := 50) hx 3 (dq tX10_riverClause 27 rfl) rfl rfl ?_
            refine g_callVi (n := 53) (As := [vI i_10, vI n]) (rest := []) hx (ctX10_isFull Γ M_2 i_10 (by omega) (by omega) n (by omega) (by omega)) mlX10_361 (obX10 (by decide)) (dq tX10_riverClause 28 rfl) rfl (Nat.le_of_ble_eq_true rfl) (Nat.le_of_ble_eq_true rfl) (Nat.le_of_ble_eq_true rfl) rfl (fun z_61 M_62 h_63 p_64 => ?_)
            obtain ⟨rfl, h_66, h_67, h_68⟩ := p_64
            refine g_if_eq (n := 56) (t := 63) hx (dq tX10_riverClause 29 rfl) (by decide) rfl h_63 (fun c_69 => ?_) (fun c_69 => ?_)
            · refine g_aload_n (n := 64) hx 2 (dq tX10_riverClause 35 rfl) rfl rfl ?_
              refine g_dup (n := 65) hx (dq tX10_riverClause 36 rfl) rfl rfl ?_
              refine g_getI (n := 68) hx glX10_249 (sX10_38 (by decide)) (dq tX10_riverClause 37 rfl) rfl (fun h_70l h_70u => ?_)
              refine g_iload_n (n := 69) hx 0 (dq tX10_riverClause 38 rfl) rfl rfl ?_
              refine g_callSs (n := 72) (As := [vI i_10]) (rest := [vI (M_2 229 38), aR Γ 229]) hx (ctX10_riverWord Γ M_2 i_10 (by omega) (by omega)) mlX10_358 (dq tX10_riverClause 39 rfl) rfl (Nat.le_of_ble_eq_true rfl) (Nat.le_of_ble_eq_true rfl) (Nat.le_of_ble_eq_true rfl) rfl (fun z_71 M_72 p_74 => ?_)
              obtain ⟨rfl, h_76, h_77⟩ := p_74
              obtain ⟨qz_71, hz_71⟩ := sN_some z_71 (by omega)
              have hz_71n := sNle z_71 _ hz_71
              have hz_71l := sln_eq hz_71
              have h_78 := rlF_pos (k := i_10) (by omega) (by omega)
              refine g_callSt (n := 75) (As := []) (rest := [vI (M_2 229 38), aR Γ 229]) hx (ctJ0_length_8abf5 Γ M_2 z_71 _ hz_71) mlX10_260 rfl hz_71 (dq tX10_riverClause 40 rfl) rfl (Nat.le_of_ble_eq_true rfl) (Nat.le_of_ble_eq_true rfl) (Nat.le_of_ble_eq_true rfl) rfl (fun z_79 M_80 h_81 p_82 => ?_)
              obtain ⟨rfl, h_83⟩ := p_82
              refine g_iadd (n := 76) hx (dq tX10_riverClause 41 rfl) rfl ?_
              refine g_putI (n := 79) hx plX10_249 (sX10_38 (by decide)) (dq tX10_riverClause 42 rfl) rfl (by omega) (by omega) (fun M_84 m_85e m_85 => ?_)
              have g_86 : Nw M_84 := Nw.gen g_8 (by have q39 := m_85 229 39 (by omega); omega) (fun j hj => m_85 _ j (by omega)) (fun v hv => m_85 _ v (by omega)) (fun l hl => m_85 _ l (by omega)) (fun l hl => m_85 _ l (by omega))
              refine g_aload_n (n := 80) hx 2 (dq tX10_riverClause 43 rfl) rfl rfl ?_
              refine g_iload_n (n := 81) hx 0 (dq tX10_riverClause 44 rfl) rfl rfl ?_
              have e_87 : M_84 229 37 = M_2 229 37 := (m_85 229 37 (by omega))
              have e_88 : M_84 229 39 = M_2 229 39 := (m_85 229 39 (by omega))
              have e_89 : M_84 (229 + 29) 0 = M_2 (229 + 29) 0 := (m_85 (229 + 29) 0 (by omega))
              have e_90 : M_84 (229 + 29) 1 = M_2 (229 + 29) 1 := (m_85 (229 + 29) 1 (by omega))
              have e_91 : M_84 (229 + 29) 3 = M_2 (229 + 29) 3 := (m_85 (229 + 29) 3 (by omega))
              have e_92 : M_84 (229 + 29) 2 = M_2 (229 + 29) 2 := (m_85 (229 + 29) 2 (by omega))
              refine g_callVv (n := 84) (As := [vI i_10]) (rest := []) hx (ctX10_riverPart Γ M_84 i_10 (by omega) (by omega) (by omega) (by omega) (by omega) (by omega) g_86) mlX10_365 (obX10 (by decide)) (dq tX10_riverClause 45 rfl) rfl (Nat.le_of_ble_eq_true rfl) (Nat.le_of_ble_eq_true rfl) (Nat.le_of_ble_eq_true rfl) rfl (fun M_94 p_96 => ?_)
              obtain ⟨f_97, g_98, h_99, h_100⟩ := p_96
              have e_101 : M_94 229 37 = M_84 229 37 := (f_97 229 37 (by omega))
              exact g_vret hx hr (dq tX10_riverClause 46 rfl) ⟨(fun u_ v_ huv_ => (((f_97 u_ v_ ⟨huv_.1, huv_.2.1, huv_.2.2.1, huv_.2.2.2⟩).trans (m_85 u_ v_ huv_.1)).trans (f_5 u_ v_ huv_.1))), g_98, (by omega), (by omega)⟩
            · refine g_aload_n (n := 57) hx 2 (dq tX10_riverClause 30 rfl) rfl rfl ?_
              refine g_iconst (n := 58) hx (dq tX10_riverClause 31 rfl) rfl ?_
              refine g_iload_n (n := 59) hx 1 (dq tX10_riverClause 32 rfl) rfl rfl ?_
              refine g_callVv (n := 62) (As := [vI 4, vI (M_2 229 38)]) (rest := []) hx (ctX10_fails Γ M_2 4 (by decide) (by decide) (M_2 229 38) (by omega) (by omega)) mlX10_284 (obX10 (by decide)) (dq tX10_riverClause 33 rfl) rfl (Nat.le_of_ble_eq_true rfl) (Nat.le_of_ble_eq_true rfl) (Nat.le_of_ble_eq_true rfl) rfl (fun M_103 p_105 => ?_)
              obtain ⟨f_106, h_107⟩ := p_105
              have g_108 : Nw M_103 := Nw.vac (by omega)
              have e_109 : M_103 229 37 = M_2 229 37 := (f_106 229 37 (by omega))
              have e_110 : M_103 229 38 = M_2 229 38 := (f_106 229 38 (by omega))
              have e_111 : M_103 (229 + 29) 0 = M_2 (229 + 29) 0 := (f_106 (229 + 29) 0 (by omega))
              have e_112 : M_103 (229 + 29) 1 = M_2 (229 + 29) 1 := (f_106 (229 + 29) 1 (by omega))
              have e_113 : M_103 (229 + 29) 3 = M_2 (229 + 29) 3 := (f_106 (229 + 29) 3 (by omega))
              have e_114 : M_103 (229 + 29) 2 = M_2 (229 + 29) 2 := (f_106 (229 + 29) 2 (by omega))
              exact g_vret hx hr (dq tX10_riverClause 34 rfl) ⟨(fun u_ v_ huv_ => ((f_106 u_ v_ huv_.2.1).trans (f_5 u_ v_ huv_.1))), g_108, (by omega), (by omega)⟩
          · omega
        · clear b_57
          refine g_iinc (n := 31) (lv' := [(3, vI (i_10 + 1)), (2, vI (M_2 229 38)), (0, aR Γ 229), (1, vI n)]) hx 0 (dq tX10_riverClause 15 rfl) rfl (by decide) rfl rfl ?_
          refine g_goto (n := 11) hx (dq tX10_riverClause 16 rfl) (by decide) ?_
          exact ih_12 _ (by omega) (i_10 + 1) (by omega) (by omega) rfl
  have e_115 : M_2 229 37 = M 229 37 := (f_5 229 37 (by omega))
  have e_116 : M_2 229 39 = M 229 39 := (f_5 229 39 (by omega))
  have e_117 : M_2 (229 + 29) 0 = M (229 + 29) 0 := (f_5 (229 + 29) 0 (by omega))
  have e_118 : M_2 (229 + 29) 1 = M (229 + 29) 1 := (f_5 (229 + 29) 1 (by omega))
  have e_119 : M_2 (229 + 29) 3 = M (229 + 29) 3 := (f_5 (229 + 29) 3 (by omega))
  have e_120 : M_2 (229 + 29) 2 = M (229 + 29) 2 := (f_5 (229 + 29) 2 (by omega))
  exact L_11 _ 0 (by omega) (by omega) rfl

abbrev qctX10_goesOn (M : zM)  (z : Int) (M' : zM) : Prop := (∀ u_ v_, (u_ ≠ 229 ∨ v_ ≠ 38) ∧ (u_ ≠ 229 ∨ v_ ≠ 39) → M' u_ v_ = M u_ v_) ∧ (z = 0 ∨ (z = 1 ∧ M' 229 39 = 0 ∧ M' 229 38 ≤ M 229 37)) ∧ (M 229 38 + 1 ≤ M' 229 38) ∧ (M' 229 39 = 0 → M 229 39 = 0) ∧ (M' 229 38 ≤ 402)
set_option maxHeartbeats 4000000 in
set_option maxRecDepth 100000 in
theorem ctX10_goesOn (Γ : Gam) (M : zM)  (pre0 : M 229 38 ≤ 401) : CtI Γ yX10_goesOn cX10_goesOn 2 (some .boolean) 2 40 [aR Γ 229] M (qctX10_goesOn M) := by
  refine met_i (by decide) (Nat.le_of_ble_eq_true rfl) (fun x hx hr => ?_)
  show G Γ x 2 (QI Γ x (qctX10_goesOn M)) M 0 [(0, aR Γ 229)] []
  refine g_iv (fun hI0 => ?_)
  have hI_37 : (0 : Int) ≤ M 229 37 ∧ M 229 37 ≤ 400 := hI0 229 37
  have hI_38 : (0 : Int) ≤ M 229 38 ∧ M 229 38 ≤ 402 := hI0 229 38
  have hI_45 : (0 : Int) ≤ M 229 45 ∧ M 229 45 ≤ 402 := hI0 229 45
  have hI_42 : (0 : Int) ≤ M 229 42 ∧ M 229 42 ≤ 300 := hI0 229 42
  have hI_39 : (0 : Int) ≤ M 229 39 ∧ M 229 39 ≤ 100000 := hI0 229 39
  have hI_40 : (0 : Int) ≤ M 229 40 ∧ M 229 40 ≤ 5 := hI0 229 40
  have hI_41 : (0 : Int) ≤ M 229 41 ∧ M 229 41 ≤ 6 := hI0 229 41
  clear hI0
  refine g_aload_n (n := 1) hx 0 (dq tX10_goesOn 0 rfl) rfl rfl ?_
  refine g_callVv (n := 4) (As := []) (rest := []) hx (ctX10_blanks Γ M ) mlX10_268 (obX10 (by decide)) (dq tX10_goesOn 1 rfl) rfl (Nat.le_of_ble_eq_true rfl) (Nat.le_of_ble_eq_true rfl) (Nat.le_of_ble_eq_true rfl) rfl (fun M_2 p_4 => ?_)
  obtain ⟨f_5, h_6, h_7⟩ := p_4
  refine g_aload_n (n := 5) hx 0 (dq tX10_goesOn 2 rfl) rfl rfl ?_
  refine g_getI (n := 8) hx glX10_246 (sX10_39 (by decide)) (dq tX10_goesOn 3 rfl) rfl (fun h_8l h_8u => ?_)
  have e_9 : M_2 229 39 = M 229 39 := (f_5 229 39 (by omega))
  refine g_if_ne (n := 11) (t := 40) hx (dq tX10_goesOn 4 rfl) (by decide) rfl (zrI h_8l h_8u (by decide) (by decide)) (fun c_10 => ?_) (fun c_10 => ?_)
  · refine g_aload_n (n := 41) hx 0 (dq tX10_goesOn 19 rfl) rfl rfl ?_
    refine g_getI (n := 44) hx glX10_246 (sX10_39 (by decide)) (dq tX10_goesOn 20 rfl) rfl (fun h_11l h_11u => ?_)
    refine g_if_ne (n := 47) (t := 62) hx (dq tX10_goesOn 21 rfl) (by decide) rfl (zrI h_11l h_11u (by decide) (by decide)) (fun c_12 => ?_) (fun c_12 => ?_)
    · refine g_iconst (n := 63) hx (dq tX10_goesOn 29 rfl) rfl ?_
      refine g_istore_n (n := 64) (lv' := [(1, vI 0), (0, aR Γ 229)]) hx (dq tX10_goesOn 30 rfl) (by decide) rfl rfl ?_
      refine g_aload_n (n := 65) hx 1 (dq tX10_goesOn 31 rfl) rfl rfl ?_
      refine g_dup (n := 66) hx (dq tX10_goesOn 32 rfl) rfl rfl ?_
      refine g_getI (n := 69) hx glX10_249 (sX10_38 (by decide)) (dq tX10_goesOn 33 rfl) rfl (fun h_13l h_13u => ?_)
      refine g_iconst (n := 70) hx (dq tX10_goesOn 34 rfl) rfl ?_
      refine g_iadd (n := 71) hx (dq tX10_goesOn 35 rfl) rfl ?_
      have e_14 : M_2 229 37 = M 229 37 := (f_5 229 37 (by omega))
      refine g_putI (n := 74) hx plX10_249 (sX10_38 (by decide)) (dq tX10_goesOn 36 rfl) rfl (by omega) (by omega) (fun M_15 m_16e m_16 => ?_)
      refine g_iload_n (n := 75) hx 0 (dq tX10_goesOn 37 rfl) rfl rfl ?_
      have e_17 : M_15 229 37 = M_2 229 37 := (m_16 229 37 (by omega))
      have e_18 : M_15 229 39 = M_2 229 39 := (m_16 229 39 (by omega))
      exact g_zret hx hr (dq tX10_goesOn 38 rfl) (by omega) ⟨(fun u_ v_ huv_ => ((m_16 u_ v_ huv_.1).trans (f_5 u_ v_ huv_.1))), (by omega), (by omega), (by omega), (by omega)⟩
    · omega
  · refine g_aload_n (n := 12) hx 0 (dq tX10_goesOn 5 rfl) rfl rfl ?_
    refine g_getI (n := 15) hx glX10_249 (sX10_38 (by decide)) (dq tX10_goesOn 6 rfl) rfl (fun h_19l h_19u => ?_)
    refine g_aload_n (n := 16) hx 0 (dq tX10_goesOn 7 rfl) rfl rfl ?_
    refine g_getI (n := 19) hx glX10_216 (sX10_37 (by decide)) (dq tX10_goesOn 8 rfl) rfl (fun h_20l h_20u => ?_)
    have e_21 : M_2 229 37 = M 229 37 := (f_5 229 37 (by omega))
    refine g_icmp_ge (n := 22) (t := 40) hx (dq tX10_goesOn 9 rfl) (by decide) rfl (zrI h_19l h_19u (by decide) (by decide)) (zrI h_20l h_20u (by decide) (by decide)) (fun c_22 => ?_) (fun c_22 => ?_)
    · refine g_aload_n (n := 41) hx 0 (dq tX10_goesOn 19 rfl) rfl rfl ?_
      refine g_getI (n := 44) hx glX10_246 (sX10_39 (by decide)) (dq tX10_goesOn 20 rfl) rfl (fun h_23l h_23u => ?_)
      refine g_if_ne (n := 47) (t := 62) hx (dq tX10_goesOn 21 rfl) (by decide) rfl (zrI h_23l h_23u (by decide) (by decide)) (fun c_24 => ?_) (fun c_24 => ?_)
      · omega
      · refine g_aload_n (n := 48) hx 0 (dq tX10_goesOn 22 rfl) rfl rfl ?_
        refine g_getI (n := 51) hx glX10_249 (sX10_38 (by decide)) (dq tX10_goesOn 23 rfl) rfl (fun h_25l h_25u => ?_)
        refine g_aload_n (n := 52) hx 0 (dq tX10_goesOn 24 rfl) rfl rfl ?_
        refine g_getI (n := 55) hx glX10_216 (sX10_37 (by decide)) (dq tX10_goesOn 25 rfl) rfl (fun h_26l h_26u => ?_)
        refine g_icmp_ge (n := 58) (t := 62) hx (dq tX10_goesOn 26 rfl) (by decide) rfl (zrI h_25l h_25u (by decide) (by decide)) (zrI h_26l h_26u (by decide) (by decide)) (fun c_27 => ?_) (fun c_27 => ?_)
        · refine g_iconst (n := 63) hx (dq tX10_goesOn 29 rfl) rfl ?_
          refine g_istore_n (n := 64) (lv' := [(1, vI 0), (0, aR Γ 229)]) hx (dq tX10_goesOn 30 rfl) (by decide) rfl rfl ?_
          refine g_aload_n (n := 65) hx 1 (dq tX10_goesOn 31 rfl) rfl rfl ?_
          refine g_dup (n := 66) hx (dq tX10_goesOn 32 rfl) rfl rfl ?_
          refine g_getI (n := 69) hx glX10_249 (sX10_38 (by decide)) (dq tX10_goesOn 33 rfl) rfl (fun h_28l h_28u => ?_)
          refine g_iconst (n := 70) hx (dq tX10_goesOn 34 rfl) rfl ?_
          refine g_iadd (n := 71) hx (dq tX10_goesOn 35 rfl) rfl ?_
          refine g_putI (n := 74) hx plX10_249 (sX10_38 (by decide)) (dq tX10_goesOn 36 rfl) rfl (by omega) (by omega) (fun M_29 m_30e m_30 => ?_)
          refine g_iload_n (n := 75) hx 0 (dq tX10_goesOn 37 rfl) rfl rfl ?_
          have e_31 : M_29 229 37 = M_2 229 37 := (m_30 229 37 (by omega))
          have e_32 : M_29 229 39 = M_2 229 39 := (m_30 229 39 (by omega))
          exact g_zret hx hr (dq tX10_goesOn 38 rfl) (by omega) ⟨(fun u_ v_ huv_ => ((m_30 u_ v_ huv_.1).trans (f_5 u_ v_ huv_.1))), (by omega), (by omega), (by omega), (by omega)⟩
        · refine g_iconst (n := 59) hx (dq tX10_goesOn 27 rfl) rfl ?_
          refine g_goto (n := 63) hx (dq tX10_goesOn 28 rfl) (by decide) ?_
          refine g_istore_n (n := 64) (lv' := [(1, vI 1), (0, aR Γ 229)]) hx (dq tX10_goesOn 30 rfl) (by decide) rfl rfl ?_
          refine g_aload_n (n := 65) hx 1 (dq tX10_goesOn 31 rfl) rfl rfl ?_
          refine g_dup (n := 66) hx (dq tX10_goesOn 32 rfl) rfl rfl ?_
          refine g_getI (n := 69) hx glX10_249 (sX10_38 (by decide)) (dq tX10_goesOn 33 rfl) rfl (fun h_33l h_33u => ?_)
          refine g_iconst (n := 70) hx (dq tX10_goesOn 34 rfl) rfl ?_
          refine g_iadd (n := 71) hx (dq tX10_goesOn 35 rfl) rfl ?_
          refine g_putI (n := 74) hx plX10_249 (sX10_38 (by decide)) (dq tX10_goesOn 36 rfl) rfl (by omega) (by omega) (fun M_34 m_35e m_35 => ?_)
          refine g_iload_n (n := 75) hx 0 (dq tX10_goesOn 37 rfl) rfl rfl ?_
          have e_36 : M_34 229 37 = M_2 229 37 := (m_35 229 37 (by omega))
          have e_37 : M_34 229 39 = M_2 229 39 := (m_35 229 39 (by omega))
          exact g_zret hx hr (dq tX10_goesOn 38 rfl) (by omega) ⟨(fun u_ v_ huv_ => ((m_35 u_ v_ huv_.1).trans (f_5 u_ v_ huv_.1))), (by omega), (by omega), (by omega), (by omega)⟩
    · refine g_aload_n (n := 23) hx 0 (dq tX10_goesOn 10 rfl) rfl rfl ?_
      refine g_callVi (n := 26) (As := []) (rest := []) hx (ctX10_sign Γ M_2 ) mlX10_252 (obX10 (by decide)) (dq tX10_goesOn 11 rfl) rfl (Nat.le_of_ble_eq_true rfl) (Nat.le_of_ble_eq_true rfl) (Nat.le_of_ble_eq_true rfl) rfl (fun z_38 M_39 h_40 p_41 => ?_)
      obtain ⟨rfl, h_43, h_44, h_45⟩ := p_41
      refine g_bipush (n := 28) hx (dq tX10_goesOn 12 rfl) rfl (by decide) ?_
      refine g_icmp_eq (n := 31) (t := 40) hx (dq tX10_goesOn 13 rfl) (by decide) rfl h_40 ⟨by decide, by decide⟩ (fun c_46 => ?_) (fun c_46 => ?_)
      · refine g_aload_n (n := 41) hx 0 (dq tX10_goesOn 19 rfl) rfl rfl ?_
        refine g_getI (n := 44) hx glX10_246 (sX10_39 (by decide)) (dq tX10_goesOn 20 rfl) rfl (fun h_47l h_47u => ?_)
        refine g_if_ne (n := 47) (t := 62) hx (dq tX10_goesOn 21 rfl) (by decide) rfl (zrI h_47l h_47u (by decide) (by decide)) (fun c_48 => ?_) (fun c_48 => ?_)
        · omega
        · refine g_aload_n (n := 48) hx 0 (dq tX10_goesOn 22 rfl) rfl rfl ?_
          refine g_getI (n := 51) hx glX10_249 (sX10_38 (by decide)) (dq tX10_goesOn 23 rfl) rfl (fun h_49l h_49u => ?_)
          refine g_aload_n (n := 52) hx 0 (dq tX10_goesOn 24 rfl) rfl rfl ?_
          refine g_getI (n := 55) hx glX10_216 (sX10_37 (by decide)) (dq tX10_goesOn 25 rfl) rfl (fun h_50l h_50u => ?_)
          refine g_icmp_ge (n := 58) (t := 62) hx (dq tX10_goesOn 26 rfl) (by decide) rfl (zrI h_49l h_49u (by decide) (by decide)) (zrI h_50l h_50u (by decide) (by decide)) (fun c_51 => ?_) (fun c_51 => ?_)
          · refine g_iconst (n := 63) hx (dq tX10_goesOn 29 rfl) rfl ?_
            refine g_istore_n (n := 64) (lv' := [(1, vI 0), (0, aR Γ 229)]) hx (dq tX10_goesOn 30 rfl) (by decide) rfl rfl ?_
            refine g_aload_n (n := 65) hx 1 (dq tX10_goesOn 31 rfl) rfl rfl ?_
            refine g_dup (n := 66) hx (dq tX10_goesOn 32 rfl) rfl rfl ?_
            refine g_getI (n := 69) hx glX10_249 (sX10_38 (by decide)) (dq tX10_goesOn 33 rfl) rfl (fun h_52l h_52u => ?_)
            refine g_iconst (n := 70) hx (dq tX10_goesOn 34 rfl) rfl ?_
            refine g_iadd (n := 71) hx (dq tX10_goesOn 35 rfl) rfl ?_
            refine g_putI (n := 74) hx plX10_249 (sX10_38 (by decide)) (dq tX10_goesOn 36 rfl) rfl (by omega) (by omega) (fun M_53 m_54e m_54 => ?_)
            refine g_iload_n (n := 75) hx 0 (dq tX10_goesOn 37 rfl) rfl rfl ?_
            have e_55 : M_53 229 37 = M_2 229 37 := (m_54 229 37 (by omega))
            have e_56 : M_53 229 39 = M_2 229 39 := (m_54 229 39 (by omega))
            exact g_zret hx hr (dq tX10_goesOn 38 rfl) (by omega) ⟨(fun u_ v_ huv_ => ((m_54 u_ v_ huv_.1).trans (f_5 u_ v_ huv_.1))), (by omega), (by omega), (by omega), (by omega)⟩
          · refine g_iconst (n := 59) hx (dq tX10_goesOn 27 rfl) rfl ?_
            refine g_goto (n := 63) hx (dq tX10_goesOn 28 rfl) (by decide) ?_
            refine g_istore_n (n := 64) (lv' := [(1, vI 1), (0, aR Γ 229)]) hx (dq tX10_goesOn 30 rfl) (by decide) rfl rfl ?_
            refine g_aload_n (n := 65) hx 1 (dq tX10_goesOn 31 rfl) rfl rfl ?_
            refine g_dup (n := 66) hx (dq tX10_goesOn 32 rfl) rfl rfl ?_
            refine g_getI (n := 69) hx glX10_249 (sX10_38 (by decide)) (dq tX10_goesOn 33 rfl) rfl (fun h_57l h_57u => ?_)
            refine g_iconst (n := 70) hx (dq tX10_goesOn 34 rfl) rfl ?_
            refine g_iadd (n := 71) hx (dq tX10_goesOn 35 rfl) rfl ?_
            refine g_putI (n := 74) hx plX10_249 (sX10_38 (by decide)) (dq tX10_goesOn 36 rfl) rfl (by omega) (by omega) (fun M_58 m_59e m_59 => ?_)
            refine g_iload_n (n := 75) hx 0 (dq tX10_goesOn 37 rfl) rfl rfl ?_
            have e_60 : M_58 229 37 = M_2 229 37 := (m_59 229 37 (by omega))
            have e_61 : M_58 229 39 = M_2 229 39 := (m_59 229 39 (by omega))
            exact g_zret hx hr (dq tX10_goesOn 38 rfl) (by omega) ⟨(fun u_ v_ huv_ => ((m_59 u_ v_ huv_.1).trans (f_5 u_ v_ huv_.1))), (by omega), (by omega), (by omega), (by omega)⟩
      · refine g_aload_n (n := 32) hx 0 (dq tX10_goesOn 14 rfl) rfl rfl ?_
        refine g_iconst (n := 33) hx (dq tX10_goesOn 15 rfl) rfl ?_
        refine g_aload_n (n := 34) hx 0 (dq tX10_goesOn 16 rfl) rfl rfl ?_
        refine g_getI (n := 37) hx glX10_249 (sX10_38 (by decide)) (dq tX10_goesOn 17 rfl) rfl (fun h_62l h_62u => ?_)
        refine g_callVv (n := 40) (As := [vI 0, vI (M_2 229 38)]) (rest := []) hx (ctX10_fails Γ M_2 0 (by decide) (by decide) (M_2 229 38) (by omega) (by omega)) mlX10_284 (obX10 (by decide)) (dq tX10_goesOn 18 rfl) rfl (Nat.le_of_ble_eq_true rfl) (Nat.le_of_ble_eq_true rfl) (Nat.le_of_ble_eq_true rfl) rfl (fun M_64 p_66 => ?_)
        obtain ⟨f_67, h_68⟩ := p_66
        refine g_aload_n (n := 41) hx 0 (dq tX10_goesOn 19 rfl) rfl rfl ?_
        refine g_getI (n := 44) hx glX10_246 (sX10_39 (by decide)) (dq tX10_goesOn 20 rfl) rfl (fun h_69l h_69u => ?_)
        refine g_if_ne (n := 47) (t := 62) hx (dq tX10_goesOn 21 rfl) (by decide) rfl (zrI h_69l h_69u (by decide) (by decide)) (fun c_70 => ?_) (fun c_70 => ?_)
        · refine g_iconst (n := 63) hx (dq tX10_goesOn 29 rfl) rfl ?_
          refine g_istore_n (n := 64) (lv' := [(1, vI 0), (0, aR Γ 229)]) hx (dq tX10_goesOn 30 rfl) (by decide) rfl rfl ?_
          refine g_aload_n (n := 65) hx 1 (dq tX10_goesOn 31 rfl) rfl rfl ?_
          refine g_dup (n := 66) hx (dq tX10_goesOn 32 rfl) rfl rfl ?_
          refine g_getI (n := 69) hx glX10_249 (sX10_38 (by decide)) (dq tX10_goesOn 33 rfl) rfl (fun h_71l h_71u => ?_)
          have e_72 : M_64 229 38 = M_2 229 38 := (f_67 229 38 (by omega))
          refine g_iconst (n := 70) hx (dq tX10_goesOn 34 rfl) rfl ?_
          refine g_iadd (n := 71) hx (dq tX10_goesOn 35 rfl) rfl ?_
          have e_73 : M_64 229 37 = M_2 229 37 := (f_67 229 37 (by omega))
          refine g_putI (n := 74) hx plX10_249 (sX10_38 (by decide)) (dq tX10_goesOn 36 rfl) rfl (by omega) (by omega) (fun M_74 m_75e m_75 => ?_)
          refine g_iload_n (n := 75) hx 0 (dq tX10_goesOn 37 rfl) rfl rfl ?_
          have e_76 : M_74 229 37 = M_64 229 37 := (m_75 229 37 (by omega))
          have e_77 : M_74 229 39 = M_64 229 39 := (m_75 229 39 (by omega))
          exact g_zret hx hr (dq tX10_goesOn 38 rfl) (by omega) ⟨(fun u_ v_ huv_ => (((m_75 u_ v_ huv_.1).trans (f_67 u_ v_ huv_.2)).trans (f_5 u_ v_ huv_.1))), (by omega), (by omega), (by omega), (by omega)⟩
        · refine g_aload_n (n := 48) hx 0 (dq tX10_goesOn 22 rfl) rfl rfl ?_
          refine g_getI (n := 51) hx glX10_249 (sX10_38 (by decide)) (dq tX10_goesOn 23 rfl) rfl (fun h_78l h_78u => ?_)
          have e_79 : M_64 229 38 = M_2 229 38 := (f_67 229 38 (by omega))
          refine g_aload_n (n := 52) hx 0 (dq tX10_goesOn 24 rfl) rfl rfl ?_
          refine g_getI (n := 55) hx glX10_216 (sX10_37 (by decide)) (dq tX10_goesOn 25 rfl) rfl (fun h_80l h_80u => ?_)
          have e_81 : M_64 229 37 = M_2 229 37 := (f_67 229 37 (by omega))
          refine g_icmp_ge (n := 58) (t := 62) hx (dq tX10_goesOn 26 rfl) (by decide) rfl (zrI h_78l h_78u (by decide) (by decide)) (zrI h_80l h_80u (by decide) (by decide)) (fun c_82 => ?_) (fun c_82 => ?_)
          · refine g_iconst (n := 63) hx (dq tX10_goesOn 29 rfl) rfl ?_
            refine g_istore_n (n := 64) (lv' := [(1, vI 0), (0, aR Γ 229)]) hx (dq tX10_goesOn 30 rfl) (by decide) rfl rfl ?_
            refine g_aload_n (n := 65) hx 1 (dq tX10_goesOn 31 rfl) rfl rfl ?_
            refine g_dup (n := 66) hx (dq tX10_goesOn 32 rfl) rfl rfl ?_
            refine g_getI (n := 69) hx glX10_249 (sX10_38 (by decide)) (dq tX10_goesOn 33 rfl) rfl (fun h_83l h_83u => ?_)
            refine g_iconst (n := 70) hx (dq tX10_goesOn 34 rfl) rfl ?_
            refine g_iadd (n := 71) hx (dq tX10_goesOn 35 rfl) rfl ?_
            refine g_putI (n := 74) hx plX10_249 (sX10_38 (by decide)) (dq tX10_goesOn 36 rfl) rfl (by omega) (by omega) (fun M_84 m_85e m_85 => ?_)
            refine g_iload_n (n := 75) hx 0 (dq tX10_goesOn 37 rfl) rfl rfl ?_
            have e_86 : M_84 229 37 = M_64 229 37 := (m_85 229 37 (by omega))
            have e_87 : M_84 229 39 = M_64 229 39 := (m_85 229 39 (by omega))
            exact g_zret hx hr (dq tX10_goesOn 38 rfl) (by omega) ⟨(fun u_ v_ huv_ => (((m_85 u_ v_ huv_.1).trans (f_67 u_ v_ huv_.2)).trans (f_5 u_ v_ huv_.1))), (by omega), (by omega), (by omega), (by omega)⟩
          · refine g_iconst (n := 59) hx (dq tX10_goesOn 27 rfl) rfl ?_
            refine g_goto (n := 63) hx (dq tX10_goesOn 28 rfl) (by decide) ?_
            refine g_istore_n (n := 64) (lv' := [(1, vI 1), (0, aR Γ 229)]) hx (dq tX10_goesOn 30 rfl) (by decide) rfl rfl ?_
            refine g_aload_n (n := 65) hx 1 (dq tX10_goesOn 31 rfl) rfl rfl ?_
            refine g_dup (n := 66) hx (dq tX10_goesOn 32 rfl) rfl rfl ?_
            refine g_getI (n := 69) hx glX10_249 (sX10_38 (by decide)) (dq tX10_goesOn 33 rfl) rfl (fun h_88l h_88u => ?_)
            refine g_iconst (n := 70) hx (dq tX10_goesOn 34 rfl) rfl ?_
            refine g_iadd (n := 71) hx (dq tX10_goesOn 35 rfl) rfl ?_
            refine g_putI (n := 74) hx plX10_249 (sX10_38 (by decide)) (dq tX10_goesOn 36 rfl) rfl (by omega) (by omega) (fun M_89 m_90e m_90 => ?_)
            refine g_iload_n (n := 75) hx 0 (dq tX10_goesOn 37 rfl) rfl rfl ?_
            have e_91 : M_89 229 37 = M_64 229 37 := (m_90 229 37 (by omega))
            have e_92 : M_89 229 39 = M_64 229 39 := (m_90 229 39 (by omega))
            exact g_zret hx hr (dq tX10_goesOn 38 rfl) (by omega) ⟨(fun u_ v_ huv_ => (((m_90 u_ v_ huv_.1).trans (f_67 u_ v_ huv_.2)).trans (f_5 u_ v_ huv_.1))), (by omega), (by omega), (by omega), (by omega)⟩

abbrev qctX10_starts (M : zM)  (M' : zM) : Prop := (∀ u_ v_, (u_ ≠ 229 ∨ v_ ≠ 38) ∧ (u_ ≠ 229 ∨ v_ ≠ 39) ∧ (u_ ≠ 229 ∨ v_ ≠ 42) ∧ (u_ ≠ 229 ∨ v_ ≠ 43) ∧ (u_ ≠ 229 ∨ v_ ≠ 44) → M' u_ v_ = M u_ v_) ∧ (M' 229 38 = 0) ∧ (M' 229 39 = 0) ∧ (M' 229 42 = 0) ∧ (M' 229 44 = 0)
set_option maxHeartbeats 4000000 in
set_option maxRecDepth 100000 in
theorem ctX10_starts (Γ : Gam) (M : zM)   : CtV Γ yX10_starts cX10_starts 1 none 0 0 [aR Γ 229] M (qctX10_starts M) := by
  refine met_v (by decide) (Nat.le_of_ble_eq_true rfl) (fun x hx hr => ?_)
  show G Γ x 1 (QV Γ x (qctX10_starts M)) M 0 [(0, aR Γ 229)] []
  refine g_aload_n (n := 1) hx 0 (dq tX10_starts 0 rfl) rfl rfl ?_
  refine g_iconst (n := 2) hx (dq tX10_starts 1 rfl) rfl ?_
  refine g_putI (n := 5) hx plX10_249 (sX10_38 (by decide)) (dq tX10_starts 2 rfl) rfl (by omega) (by omega) (fun M_1 m_2e m_2 => ?_)
  refine g_aload_n (n := 6) hx 0 (dq tX10_starts 3 rfl) rfl rfl ?_
  refine g_iconst (n := 7) hx (dq tX10_starts 4 rfl) rfl ?_
  refine g_putI (n := 10) hx plX10_246 (sX10_39 (by decide)) (dq tX10_starts 5 rfl) rfl (by omega) (by omega) (fun M_3 m_4e m_4 => ?_)
  refine g_aload_n (n := 11) hx 0 (dq tX10_starts 6 rfl) rfl rfl ?_
  refine g_iconst (n := 12) hx (dq tX10_starts 7 rfl) rfl ?_
  refine g_putI (n := 15) hx plX10_278 (sX10_42 (by decide)) (dq tX10_starts 8 rfl) rfl (by omega) (by omega) (fun M_5 m_6e m_6 => ?_)
  refine g_aload_n (n := 16) hx 0 (dq tX10_starts 9 rfl) rfl rfl ?_
  refine g_iconst (n := 17) hx (dq tX10_starts 10 rfl) rfl ?_
  refine g_putI (n := 20) hx plX10_318 (sX10_43 (by decide)) (dq tX10_starts 11 rfl) rfl (by omega) (by omega) (fun M_7 m_8e m_8 => ?_)
  refine g_aload_n (n := 21) hx 0 (dq tX10_starts 12 rfl) rfl rfl ?_
  refine g_iconst (n := 22) hx (dq tX10_starts 13 rfl) rfl ?_
  refine g_putI (n := 25) hx plX10_281 (sX10_44 (by decide)) (dq tX10_starts 14 rfl) rfl (by omega) (by omega) (fun M_9 m_10e m_10 => ?_)
  exact g_vret hx hr (dq tX10_starts 15 rfl) ⟨(fun u_ v_ huv_ => (((((m_10 u_ v_ huv_.2.2.2.2).trans (m_8 u_ v_ huv_.2.2.2.1)).trans (m_6 u_ v_ huv_.2.2.1)).trans (m_4 u_ v_ huv_.2.1)).trans (m_2 u_ v_ huv_.1))), ((((((m_10 229 38 (by omega)).trans (m_8 229 38 (by omega))).trans (m_6 229 38 (by omega))).trans (m_4 229 38 (by omega)))).trans m_2e), (((((m_10 229 39 (by omega)).trans (m_8 229 39 (by omega))).trans (m_6 229 39 (by omega)))).trans m_4e), ((((m_10 229 42 (by omega)).trans (m_8 229 42 (by omega)))).trans m_6e), ((rfl).trans m_10e)⟩

abbrev qctX10_begins (M : zM)  (M' : zM) : Prop := (∀ u_ v_, (u_ ≠ 229 + 1 ∨ v_ < 0 ∨ 16 ≤ v_) ∧ (u_ < 229 + 2 ∨ 229 + 19 ≤ u_) → M' u_ v_ = M u_ v_) ∧ (Gm M') ∧ (On M') ∧ (Rl M') ∧ (M' (229 + 1) 7 = 0)
set_option maxHeartbeats 4000000 in
set_option maxRecDepth 100000 in
theorem ctX10_begins (Γ : Gam) (M : zM)  (pre0 : M 229 39 = 0) (ex0 : Gm M) (ex1 : Nw M) (ex2 : Rl M) : CtV Γ yX10_begins cX10_begins 2 none 1 22 [aR Γ 229] M (qctX10_begins M) := by
  refine met_v (by decide) (Nat.le_of_ble_eq_true rfl) (fun x hx hr => ?_)
  show G Γ x 2 (QV Γ x (qctX10_begins M)) M 0 [(0, aR Γ 229)] []
  refine g_iv (fun hIb => ?_)
  have hn0 := Nw.n0 ex1 (by omega)
  refine g_iconst (n := 1) hx (dq tX10_begins 0 rfl) rfl ?_
  refine g_istore_n (n := 2) (lv' := [(1, vI 0), (0, aR Γ 229)]) hx (dq tX10_begins 1 rfl) (by decide) rfl rfl ?_
  refine g_iload_n (n := 3) hx 0 (dq tX10_begins 2 rfl) rfl rfl ?_
  refine g_bipush (n := 5) hx (dq tX10_begins 3 rfl) rfl (by decide) ?_
  refine g_icmp_ge (n := 8) (t := 35) hx (dq tX10_begins 4 rfl) (by decide) rfl ⟨by decide, by decide⟩ ⟨by decide, by decide⟩ (fun c_1 => ?_) (fun c_1 => ?_)
  · omega
  · refine g_aload_n (n := 9) hx 1 (dq tX10_begins 5 rfl) rfl rfl ?_
    refine g_getR (n := 12) hx glX10_9 (sX10_1 (by decide)) (dq tX10_begins 6 rfl) rfl ?_
    refine g_iload_n (n := 13) hx 0 (dq tX10_begins 7 rfl) rfl rfl ?_
    refine g_iload_n (n := 14) hx 0 (dq tX10_begins 8 rfl) rfl rfl ?_
    refine g_iconst (n := 15) hx (dq tX10_begins 9 rfl) rfl ?_
    refine g_icmp_ge (n := 18) (t := 27) hx (dq tX10_begins 10 rfl) (by decide) rfl ⟨by decide, by decide⟩ ⟨by decide, by decide⟩ (fun c_2 => ?_) (fun c_2 => ?_)
    · omega
    · refine g_aload_n (n := 19) hx 1 (dq tX10_begins 11 rfl) rfl rfl ?_
      refine g_getR (n := 22) hx glX10_94 (sX10_29 (by decide)) (dq tX10_begins 12 rfl) rfl ?_
      refine g_iload_n (n := 23) hx 0 (dq tX10_begins 13 rfl) rfl rfl ?_
      refine g_ialdX (n := 24) (q := 0) hx (aX10_29 (b := 229) (by decide)) (dq tX10_begins 14 rfl) rfl (by decide) (by decide) (by decide) rfl (fun h_3l h_3u => ?_)
      have h_3l : (-2147483648) ≤ M (229 + 29) 0 := h_3l
      have h_3u : M (229 + 29) 0 ≤ 2147483647 := h_3u
      have h_4 := (rfl : M (229 + 29) 0 = M (229 + 29) 0)
      refine g_goto (n := 28) hx (dq tX10_begins 15 rfl) (by decide) ?_
      refine g_iastX (n := 29) (q := 0) hx (aX10_1 (b := 229) (by decide)) (dq tX10_begins 17 rfl) rfl (by decide) (by decide) (by decide) rfl (show 0 ≤ M (229 + 29) 0 by omega) (show M (229 + 29) 0 ≤ 9 by omega) (fun M_5 m_6e m_6 => ?_)
      refine g_iinc (n := 32) (lv' := [(1, vI 1), (0, aR Γ 229)]) hx 0 (dq tX10_begins 18 rfl) rfl (by decide) rfl rfl ?_
      refine g_goto (n := 2) hx (dq tX10_begins 19 rfl) (by decide) ?_
      refine g_iload_n (n := 3) hx 0 (dq tX10_begins 2 rfl) rfl rfl ?_
      refine g_bipush (n := 5) hx (dq tX10_begins 3 rfl) rfl (by decide) ?_
      refine g_icmp_ge (n := 8) (t := 35) hx (dq tX10_begins 4 rfl) (by decide) rfl ⟨by decide, by decide⟩ ⟨by decide, by decide⟩ (fun c_7 => ?_) (fun c_7 => ?_)
      · omega
      · refine g_aload_n (n := 9) hx 1 (dq tX10_begins 5 rfl) rfl rfl ?_
        refine g_getR (n := 12) hx glX10_9 (sX10_1 (by decide)) (dq tX10_begins 6 rfl) rfl ?_
        refine g_iload_n (n := 13) hx 0 (dq tX10_begins 7 rfl) rfl rfl ?_
        refine g_iload_n (n := 14) hx 0 (dq tX10_begins 8 rfl) rfl rfl ?_
        refine g_iconst (n := 15) hx (dq tX10_begins 9 rfl) rfl ?_
        refine g_icmp_ge (n := 18) (t := 27) hx (dq tX10_begins 10 rfl) (by decide) rfl ⟨by decide, by decide⟩ ⟨by decide, by decide⟩ (fun c_8 => ?_) (fun c_8 => ?_)
        · omega
        · refine g_aload_n (n := 19) hx 1 (dq tX10_begins 11 rfl) rfl rfl ?_
          refine g_getR (n := 22) hx glX10_94 (sX10_29 (by decide)) (dq tX10_begins 12 rfl) rfl ?_
          refine g_iload_n (n := 23) hx 0 (dq tX10_begins 13 rfl) rfl rfl ?_
          refine g_ialdX (n := 24) (q := 1) hx (aX10_29 (b := 229) (by decide)) (dq tX10_begins 14 rfl) rfl (by decide) (by decide) (by decide) rfl (fun h_9l h_9u => ?_)
          have h_9l : 0 ≤ M_5 (229 + 29) 1 := h_9l
          have h_9u : M_5 (229 + 29) 1 ≤ 6 := h_9u
          refine g_goto (n := 28) hx (dq tX10_begins 15 rfl) (by decide) ?_
          have e_10 : M_5 229 39 = M 229 39 := (m_6 229 39 (by omega))
          refine g_iastX (n := 29) (q := 1) hx (aX10_1 (b := 229) (by decide)) (dq tX10_begins 17 rfl) rfl (by decide) (by decide) (by decide) rfl (show 0 ≤ M_5 (229 + 29) 1 by omega) (show M_5 (229 + 29) 1 ≤ 6 by omega) (fun M_11 m_12e m_12 => ?_)
          refine g_iinc (n := 32) (lv' := [(1, vI 2), (0, aR Γ 229)]) hx 0 (dq tX10_begins 18 rfl) rfl (by decide) rfl rfl ?_
          refine g_goto (n := 2) hx (dq tX10_begins 19 rfl) (by decide) ?_
          refine g_iload_n (n := 3) hx 0 (dq tX10_begins 2 rfl) rfl rfl ?_
          refine g_bipush (n := 5) hx (dq tX10_begins 3 rfl) rfl (by decide) ?_
          refine g_icmp_ge (n := 8) (t := 35) hx (dq tX10_begins 4 rfl) (by decide) rfl ⟨by decide, by decide⟩ ⟨by decide, by decide⟩ (fun c_13 => ?_) (fun c_13 => ?_)
          · omega
          · refine g_aload_n (n := 9) hx 1 (dq tX10_begins 5 rfl) rfl rfl ?_
            refine g_getR (n := 12) hx glX10_9 (sX10_1 (by decide)) (dq tX10_begins 6 rfl) rfl ?_
            refine g_iload_n (n := 13) hx 0 (dq tX10_begins 7 rfl) rfl rfl ?_
            refine g_iload_n (n := 14) hx 0 (dq tX10_begins 8 rfl) rfl rfl ?_
            refine g_iconst (n := 15) hx (dq tX10_begins 9 rfl) rfl ?_
            refine g_icmp_ge (n := 18) (t := 27) hx (dq tX10_begins 10 rfl) (by decide) rfl ⟨by decide, by decide⟩ ⟨by decide, by decide⟩ (fun c_14 => ?_) (fun c_14 => ?_)
            · omega
            · refine g_aload_n (n := 19) hx 1 (dq tX10_begins 11 rfl) rfl rfl ?_
              refine g_getR (n := 22) hx glX10_94 (sX10_29 (by decide)) (dq tX10_begins 12 rfl) rfl ?_
              refine g_iload_n (n := 23) hx 0 (dq tX10_begins 13 rfl) rfl rfl ?_
              refine g_ialdX (n := 24) (q := 2) hx (aX10_29 (b := 229) (by decide)) (dq tX10_begins 14 rfl) rfl (by decide) (by decide) (by decide) rfl (fun h_15l h_15u => ?_)
              have h_15l : 0 ≤ M_11 (229 + 29) 2 := h_15l
              have h_15u : M_11 (229 + 29) 2 ≤ 4 := h_15u
              refine g_goto (n := 28) hx (dq tX10_begins 15 rfl) (by decide) ?_
              have e_16 : M_11 229 39 = M_5 229 39 := (m_12 229 39 (by omega))
              refine g_iastX (n := 29) (q := 2) hx (aX10_1 (b := 229) (by decide)) (dq tX10_begins 17 rfl) rfl (by decide) (by decide) (by decide) rfl (show 0 ≤ M_11 (229 + 29) 2 by omega) (show M_11 (229 + 29) 2 ≤ 4 by omega) (fun M_17 m_18e m_18 => ?_)
              refine g_iinc (n := 32) (lv' := [(1, vI 3), (0, aR Γ 229)]) hx 0 (dq tX10_begins 18 rfl) rfl (by decide) rfl rfl ?_
              refine g_goto (n := 2) hx (dq tX10_begins 19 rfl) (by decide) ?_
              refine g_iload_n (n := 3) hx 0 (dq tX10_begins 2 rfl) rfl rfl ?_
              refine g_bipush (n := 5) hx (dq tX10_begins 3 rfl) rfl (by decide) ?_
              refine g_icmp_ge (n := 8) (t := 35) hx (dq tX10_begins 4 rfl) (by decide) rfl ⟨by decide, by decide⟩ ⟨by decide, by decide⟩ (fun c_19 => ?_) (fun c_19 => ?_)
              · omega
              · refine g_aload_n (n := 9) hx 1 (dq tX10_begins 5 rfl) rfl rfl ?_
                refine g_getR (n := 12) hx glX10_9 (sX10_1 (by decide)) (dq tX10_begins 6 rfl) rfl ?_
                refine g_iload_n (n := 13) hx 0 (dq tX10_begins 7 rfl) rfl rfl ?_
                refine g_iload_n (n := 14) hx 0 (dq tX10_begins 8 rfl) rfl rfl ?_
                refine g_iconst (n := 15) hx (dq tX10_begins 9 rfl) rfl ?_
                refine g_icmp_ge (n := 18) (t := 27) hx (dq tX10_begins 10 rfl) (by decide) rfl ⟨by decide, by decide⟩ ⟨by decide, by decide⟩ (fun c_20 => ?_) (fun c_20 => ?_)
                · omega
                · refine g_aload_n (n := 19) hx 1 (dq tX10_begins 11 rfl) rfl rfl ?_
                  refine g_getR (n := 22) hx glX10_94 (sX10_29 (by decide)) (dq tX10_begins 12 rfl) rfl ?_
                  refine g_iload_n (n := 23) hx 0 (dq tX10_begins 13 rfl) rfl rfl ?_
                  refine g_ialdX (n := 24) (q := 3) hx (aX10_29 (b := 229) (by decide)) (dq tX10_begins 14 rfl) rfl (by decide) (by decide) (by decide) rfl (fun h_21l h_21u => ?_)
                  have h_21l : 0 ≤ M_17 (229 + 29) 3 := h_21l
                  have h_21u : M_17 (229 + 29) 3 ≤ 12 := h_21u
                  refine g_goto (n := 28) hx (dq tX10_begins 15 rfl) (by decide) ?_
                  have e_22 : M_17 229 39 = M_11 229 39 := (m_18 229 39 (by omega))
                  refine g_iastX (n := 29) (q := 3) hx (aX10_1 (b := 229) (by decide)) (dq tX10_begins 17 rfl) rfl (by decide) (by decide) (by decide) rfl (show 0 ≤ M_17 (229 + 29) 3 by omega) (show M_17 (229 + 29) 3 ≤ 12 by omega) (fun M_23 m_24e m_24 => ?_)
                  refine g_iinc (n := 32) (lv' := [(1, vI 4), (0, aR Γ 229)]) hx 0 (dq tX10_begins 18 rfl) rfl (by decide) rfl rfl ?_
                  refine g_goto (n := 2) hx (dq tX10_begins 19 rfl) (by decide) ?_
                  refine g_iload_n (n := 3) hx 0 (dq tX10_begins 2 rfl) rfl rfl ?_
                  refine g_bipush (n := 5) hx (dq tX10_begins 3 rfl) rfl (by decide) ?_
                  refine g_icmp_ge (n := 8) (t := 35) hx (dq tX10_begins 4 rfl) (by decide) rfl ⟨by decide, by decide⟩ ⟨by decide, by decide⟩ (fun c_25 => ?_) (fun c_25 => ?_)
                  · omega
                  · refine g_aload_n (n := 9) hx 1 (dq tX10_begins 5 rfl) rfl rfl ?_
                    refine g_getR (n := 12) hx glX10_9 (sX10_1 (by decide)) (dq tX10_begins 6 rfl) rfl ?_
                    refine g_iload_n (n := 13) hx 0 (dq tX10_begins 7 rfl) rfl rfl ?_
                    refine g_iload_n (n := 14) hx 0 (dq tX10_begins 8 rfl) rfl rfl ?_
                    refine g_iconst (n := 15) hx (dq tX10_begins 9 rfl) rfl ?_
                    refine g_icmp_ge (n := 18) (t := 27) hx (dq tX10_begins 10 rfl) (by decide) rfl ⟨by decide, by decide⟩ ⟨by decide, by decide⟩ (fun c_26 => ?_) (fun c_26 => ?_)
                    · omega
                    · refine g_aload_n (n := 19) hx 1 (dq tX10_begins 11 rfl) rfl rfl ?_
                      refine g_getR (n := 22) hx glX10_94 (sX10_29 (by decide)) (dq tX10_begins 12 rfl) rfl ?_
                      refine g_iload_n (n := 23) hx 0 (dq tX10_begins 13 rfl) rfl rfl ?_
                      refine g_ialdX (n := 24) (q := 4) hx (aX10_29 (b := 229) (by decide)) (dq tX10_begins 14 rfl) rfl (by decide) (by decide) (by decide) rfl (fun h_27l h_27u => ?_)
                      have h_27l : (-2147483648) ≤ M_23 (229 + 29) 4 := h_27l
                      have h_27u : M_23 (229 + 29) 4 ≤ 2147483647 := h_27u
                      refine g_goto (n := 28) hx (dq tX10_begins 15 rfl) (by decide) ?_
                      have e_28 : M_23 229 39 = M_17 229 39 := (m_24 229 39 (by omega))
                      refine g_iastX (n := 29) (q := 4) hx (aX10_1 (b := 229) (by decide)) (dq tX10_begins 17 rfl) rfl (by decide) (by decide) (by decide) rfl (show (-2147483648) ≤ M_23 (229 + 29) 4 by omega) (show M_23 (229 + 29) 4 ≤ 2147483647 by omega) (fun M_29 m_30e m_30 => ?_)
                      refine g_iinc (n := 32) (lv' := [(1, vI 5), (0, aR Γ 229)]) hx 0 (dq tX10_begins 18 rfl) rfl (by decide) rfl rfl ?_
                      refine g_goto (n := 2) hx (dq tX10_begins 19 rfl) (by decide) ?_
                      refine g_iload_n (n := 3) hx 0 (dq tX10_begins 2 rfl) rfl rfl ?_
                      refine g_bipush (n := 5) hx (dq tX10_begins 3 rfl) rfl (by decide) ?_
                      refine g_icmp_ge (n := 8) (t := 35) hx (dq tX10_begins 4 rfl) (by decide) rfl ⟨by decide, by decide⟩ ⟨by decide, by decide⟩ (fun c_31 => ?_) (fun c_31 => ?_)
                      · omega
                      · refine g_aload_n (n := 9) hx 1 (dq tX10_begins 5 rfl) rfl rfl ?_
                        refine g_getR (n := 12) hx glX10_9 (sX10_1 (by decide)) (dq tX10_begins 6 rfl) rfl ?_
                        refine g_iload_n (n := 13) hx 0 (dq tX10_begins 7 rfl) rfl rfl ?_
                        refine g_iload_n (n := 14) hx 0 (dq tX10_begins 8 rfl) rfl rfl ?_
                        refine g_iconst (n := 15) hx (dq tX10_begins 9 rfl) rfl ?_
                        refine g_icmp_ge (n := 18) (t := 27) hx (dq tX10_begins 10 rfl) (by decide) rfl ⟨by decide, by decide⟩ ⟨by decide, by decide⟩ (fun c_32 => ?_) (fun c_32 => ?_)
                        · refine g_iconst (n := 28) hx (dq tX10_begins 16 rfl) rfl ?_
                          have e_33 : M_29 229 39 = M_23 229 39 := (m_30 229 39 (by omega))
                          refine g_iastX (n := 29) (q := 5) hx (aX10_1 (b := 229) (by decide)) (dq tX10_begins 17 rfl) rfl (by decide) (by decide) (by decide) rfl (show 0 ≤ 0 by omega) (show 0 ≤ 3 by omega) (fun M_34 m_35e m_35 => ?_)
                          refine g_iinc (n := 32) (lv' := [(1, vI 6), (0, aR Γ 229)]) hx 0 (dq tX10_begins 18 rfl) rfl (by decide) rfl rfl ?_
                          refine g_goto (n := 2) hx (dq tX10_begins 19 rfl) (by decide) ?_
                          refine g_iload_n (n := 3) hx 0 (dq tX10_begins 2 rfl) rfl rfl ?_
                          refine g_bipush (n := 5) hx (dq tX10_begins 3 rfl) rfl (by decide) ?_
                          refine g_icmp_ge (n := 8) (t := 35) hx (dq tX10_begins 4 rfl) (by decide) rfl ⟨by decide, by decide⟩ ⟨by decide, by decide⟩ (fun c_36 => ?_) (fun c_36 => ?_)
                          · omega
                          · refine g_aload_n (n := 9) hx 1 (dq tX10_begins 5 rfl) rfl rfl ?_
                            refine g_getR (n := 12) hx glX10_9 (sX10_1 (by decide)) (dq tX10_begins 6 rfl) rfl ?_
                            refine g_iload_n (n := 13) hx 0 (dq tX10_begins 7 rfl) rfl rfl ?_
                            refine g_iload_n (n := 14) hx 0 (dq tX10_begins 8 rfl) rfl rfl ?_
                            refine g_iconst (n := 15) hx (dq tX10_begins 9 rfl) rfl ?_
                            refine g_icmp_ge (n := 18) (t := 27) hx (dq tX10_begins 10 rfl) (by decide) rfl ⟨by decide, by decide⟩ ⟨by decide, by decide⟩ (fun c_37 => ?_) (fun c_37 => ?_)
                            · refine g_iconst (n := 28) hx (dq tX10_begins 16 rfl) rfl ?_
                              have e_38 : M_34 229 39 = M_29 229 39 := (m_35 229 39 (by omega))
                              refine g_iastX (n := 29) (q := 6) hx (aX10_1 (b := 229) (by decide)) (dq tX10_begins 17 rfl) rfl (by decide) (by decide) (by decide) rfl (show (-1) ≤ 0 by omega) (show 0 ≤ 5 by omega) (fun M_39 m_40e m_40 => ?_)
                              refine g_iinc (n := 32) (lv' := [(1, vI 7), (0, aR Γ 229)]) hx 0 (dq tX10_begins 18 rfl) rfl (by decide) rfl rfl ?_
                              refine g_goto (n := 2) hx (dq tX10_begins 19 rfl) (by decide) ?_
                              refine g_iload_n (n := 3) hx 0 (dq tX10_begins 2 rfl) rfl rfl ?_
                              refine g_bipush (n := 5) hx (dq tX10_begins 3 rfl) rfl (by decide) ?_
                              refine g_icmp_ge (n := 8) (t := 35) hx (dq tX10_begins 4 rfl) (by decide) rfl ⟨by decide, by decide⟩ ⟨by decide, by decide⟩ (fun c_41 => ?_) (fun c_41 => ?_)
                              · omega
                              · refine g_aload_n (n := 9) hx 1 (dq tX10_begins 5 rfl) rfl rfl ?_
                                refine g_getR (n := 12) hx glX10_9 (sX10_1 (by decide)) (dq tX10_begins 6 rfl) rfl ?_
                                refine g_iload_n (n := 13) hx 0 (dq tX10_begins 7 rfl) rfl rfl ?_
                                refine g_iload_n (n := 14) hx 0 (dq tX10_begins 8 rfl) rfl rfl ?_
                                refine g_iconst (n := 15) hx (dq tX10_begins 9 rfl) rfl ?_
                                refine g_icmp_ge (n := 18) (t := 27) hx (dq tX10_begins 10 rfl) (by decide) rfl ⟨by decide, by decide⟩ ⟨by decide, by decide⟩ (fun c_42 => ?_) (fun c_42 => ?_)
                                · refine g_iconst (n := 28) hx (dq tX10_begins 16 rfl) rfl ?_
                                  have e_43 : M_39 229 39 = M_34 229 39 := (m_40 229 39 (by omega))
                                  refine g_iastX (n := 29) (q := 7) hx (aX10_1 (b := 229) (by decide)) (dq tX10_begins 17 rfl) rfl (by decide) (by decide) (by decide) rfl (show 0 ≤ 0 by omega) (show 0 ≤ 10100 by omega) (fun M_44 m_45e m_45 => ?_)
                                  refine g_iinc (n := 32) (lv' := [(1, vI 8), (0, aR Γ 229)]) hx 0 (dq tX10_begins 18 rfl) rfl (by decide) rfl rfl ?_
                                  refine g_goto (n := 2) hx (dq tX10_begins 19 rfl) (by decide) ?_
                                  refine g_iload_n (n := 3) hx 0 (dq tX10_begins 2 rfl) rfl rfl ?_
                                  refine g_bipush (n := 5) hx (dq tX10_begins 3 rfl) rfl (by decide) ?_
                                  refine g_icmp_ge (n := 8) (t := 35) hx (dq tX10_begins 4 rfl) (by decide) rfl ⟨by decide, by decide⟩ ⟨by decide, by decide⟩ (fun c_46 => ?_) (fun c_46 => ?_)
                                  · omega
                                  · refine g_aload_n (n := 9) hx 1 (dq tX10_begins 5 rfl) rfl rfl ?_
                                    refine g_getR (n := 12) hx glX10_9 (sX10_1 (by decide)) (dq tX10_begins 6 rfl) rfl ?_
                                    refine g_iload_n (n := 13) hx 0 (dq tX10_begins 7 rfl) rfl rfl ?_
                                    refine g_iload_n (n := 14) hx 0 (dq tX10_begins 8 rfl) rfl rfl ?_
                                    refine g_iconst (n := 15) hx (dq tX10_begins 9 rfl) rfl ?_
                                    refine g_icmp_ge (n := 18) (t := 27) hx (dq tX10_begins 10 rfl) (by decide) rfl ⟨by decide, by decide⟩ ⟨by decide, by decide⟩ (fun c_47 => ?_) (fun c_47 => ?_)
                                    · refine g_iconst (n := 28) hx (dq tX10_begins 16 rfl) rfl ?_
                                      have e_48 : M_44 229 39 = M_39 229 39 := (m_45 229 39 (by omega))
                                      refine g_iastX (n := 29) (q := 8) hx (aX10_1 (b := 229) (by decide)) (dq tX10_begins 17 rfl) rfl (by decide) (by decide) (by decide) rfl (show (-2147483648) ≤ 0 by omega) (show 0 ≤ 2147483647 by omega) (fun M_49 m_50e m_50 => ?_)
                                      refine g_iinc (n := 32) (lv' := [(1, vI 9), (0, aR Γ 229)]) hx 0 (dq tX10_begins 18 rfl) rfl (by decide) rfl rfl ?_
                                      refine g_goto (n := 2) hx (dq tX10_begins 19 rfl) (by decide) ?_
                                      refine g_iload_n (n := 3) hx 0 (dq tX10_begins 2 rfl) rfl rfl ?_
                                      refine g_bipush (n := 5) hx (dq tX10_begins 3 rfl) rfl (by decide) ?_
                                      refine g_icmp_ge (n := 8) (t := 35) hx (dq tX10_begins 4 rfl) (by decide) rfl ⟨by decide, by decide⟩ ⟨by decide, by decide⟩ (fun c_51 => ?_) (fun c_51 => ?_)
                                      · omega
                                      · refine g_aload_n (n := 9) hx 1 (dq tX10_begins 5 rfl) rfl rfl ?_
                                        refine g_getR (n := 12) hx glX10_9 (sX10_1 (by decide)) (dq tX10_begins 6 rfl) rfl ?_
                                        refine g_iload_n (n := 13) hx 0 (dq tX10_begins 7 rfl) rfl rfl ?_
                                        refine g_iload_n (n := 14) hx 0 (dq tX10_begins 8 rfl) rfl rfl ?_
                                        refine g_iconst (n := 15) hx (dq tX10_begins 9 rfl) rfl ?_
                                        refine g_icmp_ge (n := 18) (t := 27) hx (dq tX10_begins 10 rfl) (by decide) rfl ⟨by decide, by decide⟩ ⟨by decide, by decide⟩ (fun c_52 => ?_) (fun c_52 => ?_)
                                        · refine g_iconst (n := 28) hx (dq tX10_begins 16 rfl) rfl ?_
                                          have e_53 : M_49 229 39 = M_44 229 39 := (m_50 229 39 (by omega))
                                          refine g_iastX (n := 29) (q := 9) hx (aX10_1 (b := 229) (by decide)) (dq tX10_begins 17 rfl) rfl (by decide) (by decide) (by decide) rfl (show (-2147483648) ≤ 0 by omega) (show 0 ≤ 2147483647 by omega) (fun M_54 m_55e m_55 => ?_)
                                          refine g_iinc (n := 32) (lv' := [(1, vI 10), (0, aR Γ 229)]) hx 0 (dq tX10_begins 18 rfl) rfl (by decide) rfl rfl ?_
                                          refine g_goto (n := 2) hx (dq tX10_begins 19 rfl) (by decide) ?_
                                          refine g_iload_n (n := 3) hx 0 (dq tX10_begins 2 rfl) rfl rfl ?_
                                          refine g_bipush (n := 5) hx (dq tX10_begins 3 rfl) rfl (by decide) ?_
                                          refine g_icmp_ge (n := 8) (t := 35) hx (dq tX10_begins 4 rfl) (by decide) rfl ⟨by decide, by decide⟩ ⟨by decide, by decide⟩ (fun c_56 => ?_) (fun c_56 => ?_)
                                          · omega
                                          · refine g_aload_n (n := 9) hx 1 (dq tX10_begins 5 rfl) rfl rfl ?_
                                            refine g_getR (n := 12) hx glX10_9 (sX10_1 (by decide)) (dq tX10_begins 6 rfl) rfl ?_
                                            refine g_iload_n (n := 13) hx 0 (dq tX10_begins 7 rfl) rfl rfl ?_
                                            refine g_iload_n (n := 14) hx 0 (dq tX10_begins 8 rfl) rfl rfl ?_
                                            refine g_iconst (n := 15) hx (dq tX10_begins 9 rfl) rfl ?_
                                            refine g_icmp_ge (n := 18) (t := 27) hx (dq tX10_begins 10 rfl) (by decide) rfl ⟨by decide, by decide⟩ ⟨by decide, by decide⟩ (fun c_57 => ?_) (fun c_57 => ?_)
                                            · refine g_iconst (n := 28) hx (dq tX10_begins 16 rfl) rfl ?_
                                              have e_58 : M_54 229 39 = M_49 229 39 := (m_55 229 39 (by omega))
                                              refine g_iastX (n := 29) (q := 10) hx (aX10_1 (b := 229) (by decide)) (dq tX10_begins 17 rfl) rfl (by decide) (by decide) (by decide) rfl (show 0 ≤ 0 by omega) (show 0 ≤ 20 by omega) (fun M_59 m_60e m_60 => ?_)
                                              refine g_iinc (n := 32) (lv' := [(1, vI 11), (0, aR Γ 229)]) hx 0 (dq tX10_begins 18 rfl) rfl (by decide) rfl rfl ?_
                                              refine g_goto (n := 2) hx (dq tX10_begins 19 rfl) (by decide) ?_
                                              refine g_iload_n (n := 3) hx 0 (dq tX10_begins 2 rfl) rfl rfl ?_
                                              refine g_bipush (n := 5) hx (dq tX10_begins 3 rfl) rfl (by decide) ?_
                                              refine g_icmp_ge (n := 8) (t := 35) hx (dq tX10_begins 4 rfl) (by decide) rfl ⟨by decide, by decide⟩ ⟨by decide, by decide⟩ (fun c_61 => ?_) (fun c_61 => ?_)
                                              · omega
                                              · refine g_aload_n (n := 9) hx 1 (dq tX10_begins 5 rfl) rfl rfl ?_
                                                refine g_getR (n := 12) hx glX10_9 (sX10_1 (by decide)) (dq tX10_begins 6 rfl) rfl ?_
                                                refine g_iload_n (n := 13) hx 0 (dq tX10_begins 7 rfl) rfl rfl ?_
                                                refine g_iload_n (n := 14) hx 0 (dq tX10_begins 8 rfl) rfl rfl ?_
                                                refine g_iconst (n := 15) hx (dq tX10_begins 9 rfl) rfl ?_
                                                refine g_icmp_ge (n := 18) (t := 27) hx (dq tX10_begins 10 rfl) (by decide) rfl ⟨by decide, by decide⟩ ⟨by decide, by decide⟩ (fun c_62 => ?_) (fun c_62 => ?_)
                                                · refine g_iconst (n := 28) hx (dq tX10_begins 16 rfl) rfl ?_
                                                  have e_63 : M_59 229 39 = M_54 229 39 := (m_60 229 39 (by omega))
                                                  refine g_iastX (n := 29) (q := 11) hx (aX10_1 (b := 229) (by decide)) (dq tX10_begins 17 rfl) rfl (by decide) (by decide) (by decide) rfl (show 0 ≤ 0 by omega) (show 0 ≤ 20 by omega) (fun M_64 m_65e m_65 => ?_)
                                                  refine g_iinc (n := 32) (lv' := [(1, vI 12), (0, aR Γ 229)]) hx 0 (dq tX10_begins 18 rfl) rfl (by decide) rfl rfl ?_
                                                  refine g_goto (n := 2) hx (dq tX10_begins 19 rfl) (by decide) ?_
                                                  refine g_iload_n (n := 3) hx 0 (dq tX10_begins 2 rfl) rfl rfl ?_
                                                  refine g_bipush (n := 5) hx (dq tX10_begins 3 rfl) rfl (by decide) ?_
                                                  refine g_icmp_ge (n := 8) (t := 35) hx (dq tX10_begins 4 rfl) (by decide) rfl ⟨by decide, by decide⟩ ⟨by decide, by decide⟩ (fun c_66 => ?_) (fun c_66 => ?_)
                                                  · omega
                                                  · refine g_aload_n (n := 9) hx 1 (dq tX10_begins 5 rfl) rfl rfl ?_
                                                    refine g_getR (n := 12) hx glX10_9 (sX10_1 (by decide)) (dq tX10_begins 6 rfl) rfl ?_
                                                    refine g_iload_n (n := 13) hx 0 (dq tX10_begins 7 rfl) rfl rfl ?_
                                                    refine g_iload_n (n := 14) hx 0 (dq tX10_begins 8 rfl) rfl rfl ?_
                                                    refine g_iconst (n := 15) hx (dq tX10_begins 9 rfl) rfl ?_
                                                    refine g_icmp_ge (n := 18) (t := 27) hx (dq tX10_begins 10 rfl) (by decide) rfl ⟨by decide, by decide⟩ ⟨by decide, by decide⟩ (fun c_67 => ?_) (fun c_67 => ?_)
                                                    · refine g_iconst (n := 28) hx (dq tX10_begins 16 rfl) rfl ?_
                                                      have e_68 : M_64 229 39 = M_59 229 39 := (m_65 229 39 (by omega))
                                                      refine g_iastX (n := 29) (q := 12) hx (aX10_1 (b := 229) (by decide)) (dq tX10_begins 17 rfl) rfl (by decide) (by decide) (by decide) rfl (show 0 ≤ 0 by omega) (show 0 ≤ 12 by omega) (fun M_69 m_70e m_70 => ?_)
                                                      refine g_iinc (n := 32) (lv' := [(1, vI 13), (0, aR Γ 229)]) hx 0 (dq tX10_begins 18 rfl) rfl (by decide) rfl rfl ?_
                                                      refine g_goto (n := 2) hx (dq tX10_begins 19 rfl) (by decide) ?_
                                                      refine g_iload_n (n := 3) hx 0 (dq tX10_begins 2 rfl) rfl rfl ?_
                                                      refine g_bipush (n := 5) hx (dq tX10_begins 3 rfl) rfl (by decide) ?_
                                                      refine g_icmp_ge (n := 8) (t := 35) hx (dq tX10_begins 4 rfl) (by decide) rfl ⟨by decide, by decide⟩ ⟨by decide, by decide⟩ (fun c_71 => ?_) (fun c_71 => ?_)
                                                      · omega
                                                      · refine g_aload_n (n := 9) hx 1 (dq tX10_begins 5 rfl) rfl rfl ?_
                                                        refine g_getR (n := 12) hx glX10_9 (sX10_1 (by decide)) (dq tX10_begins 6 rfl) rfl ?_
                                                        refine g_iload_n (n := 13) hx 0 (dq tX10_begins 7 rfl) rfl rfl ?_
                                                        refine g_iload_n (n := 14) hx 0 (dq tX10_begins 8 rfl) rfl rfl ?_
                                                        refine g_iconst (n := 15) hx (dq tX10_begins 9 rfl) rfl ?_
                                                        refine g_icmp_ge (n := 18) (t := 27) hx (dq tX10_begins 10 rfl) (by decide) rfl ⟨by decide, by decide⟩ ⟨by decide, by decide⟩ (fun c_72 => ?_) (fun c_72 => ?_)
                                                        · refine g_iconst (n := 28) hx (dq tX10_begins 16 rfl) rfl ?_
                                                          have e_73 : M_69 229 39 = M_64 229 39 := (m_70 229 39 (by omega))
                                                          refine g_iastX (n := 29) (q := 13) hx (aX10_1 (b := 229) (by decide)) (dq tX10_begins 17 rfl) rfl (by decide) (by decide) (by decide) rfl (show (-2147483648) ≤ 0 by omega) (show 0 ≤ 2147483647 by omega) (fun M_74 m_75e m_75 => ?_)
                                                          refine g_iinc (n := 32) (lv' := [(1, vI 14), (0, aR Γ 229)]) hx 0 (dq tX10_begins 18 rfl) rfl (by decide) rfl rfl ?_
                                                          refine g_goto (n := 2) hx (dq tX10_begins 19 rfl) (by decide) ?_
                                                          refine g_iload_n (n := 3) hx 0 (dq tX10_begins 2 rfl) rfl rfl ?_
                                                          refine g_bipush (n := 5) hx (dq tX10_begins 3 rfl) rfl (by decide) ?_
                                                          refine g_icmp_ge (n := 8) (t := 35) hx (dq tX10_begins 4 rfl) (by decide) rfl ⟨by decide, by decide⟩ ⟨by decide, by decide⟩ (fun c_76 => ?_) (fun c_76 => ?_)
                                                          · omega
                                                          · refine g_aload_n (n := 9) hx 1 (dq tX10_begins 5 rfl) rfl rfl ?_
                                                            refine g_getR (n := 12) hx glX10_9 (sX10_1 (by decide)) (dq tX10_begins 6 rfl) rfl ?_
                                                            refine g_iload_n (n := 13) hx 0 (dq tX10_begins 7 rfl) rfl rfl ?_
                                                            refine g_iload_n (n := 14) hx 0 (dq tX10_begins 8 rfl) rfl rfl ?_
                                                            refine g_iconst (n := 15) hx (dq tX10_begins 9 rfl) rfl ?_
                                                            refine g_icmp_ge (n := 18) (t := 27) hx (dq tX10_begins 10 rfl) (by decide) rfl ⟨by decide, by decide⟩ ⟨by decide, by decide⟩ (fun c_77 => ?_) (fun c_77 => ?_)
                                                            · refine g_iconst (n := 28) hx (dq tX10_begins 16 rfl) rfl ?_
                                                              have e_78 : M_74 229 39 = M_69 229 39 := (m_75 229 39 (by omega))
                                                              refine g_iastX (n := 29) (q := 14) hx (aX10_1 (b := 229) (by decide)) (dq tX10_begins 17 rfl) rfl (by decide) (by decide) (by decide) rfl (show 0 ≤ 0 by omega) (show 0 ≤ 30 by omega) (fun M_79 m_80e m_80 => ?_)
                                                              refine g_iinc (n := 32) (lv' := [(1, vI 15), (0, aR Γ 229)]) hx 0 (dq tX10_begins 18 rfl) rfl (by decide) rfl rfl ?_
                                                              refine g_goto (n := 2) hx (dq tX10_begins 19 rfl) (by decide) ?_
                                                              refine g_iload_n (n := 3) hx 0 (dq tX10_begins 2 rfl) rfl rfl ?_
                                                              refine g_bipush (n := 5) hx (dq tX10_begins 3 rfl) rfl (by decide) ?_
                                                              refine g_icmp_ge (n := 8) (t := 35) hx (dq tX10_begins 4 rfl) (by decide) rfl ⟨by decide, by decide⟩ ⟨by decide, by decide⟩ (fun c_81 => ?_) (fun c_81 => ?_)
                                                              · omega
                                                              · refine g_aload_n (n := 9) hx 1 (dq tX10_begins 5 rfl) rfl rfl ?_
                                                                refine g_getR (n := 12) hx glX10_9 (sX10_1 (by decide)) (dq tX10_begins 6 rfl) rfl ?_
                                                                refine g_iload_n (n := 13) hx 0 (dq tX10_begins 7 rfl) rfl rfl ?_
                                                                refine g_iload_n (n := 14) hx 0 (dq tX10_begins 8 rfl) rfl rfl ?_
                                                                refine g_iconst (n := 15) hx (dq tX10_begins 9 rfl) rfl ?_
                                                                refine g_icmp_ge (n := 18) (t := 27) hx (dq tX10_begins 10 rfl) (by decide) rfl ⟨by decide, by decide⟩ ⟨by decide, by decide⟩ (fun c_82 => ?_) (fun c_82 => ?_)
                                                                · refine g_iconst (n := 28) hx (dq tX10_begins 16 rfl) rfl ?_
                                                                  have e_83 : M_79 229 39 = M_74 229 39 := (m_80 229 39 (by omega))
                                                                  refine g_iastX (n := 29) (q := 15) hx (aX10_1 (b := 229) (by decide)) (dq tX10_begins 17 rfl) rfl (by decide) (by decide) (by decide) rfl (show (-1) ≤ 0 by omega) (show 0 ≤ 5 by omega) (fun M_84 m_85e m_85 => ?_)
                                                                  refine g_iinc (n := 32) (lv' := [(1, vI 16), (0, aR Γ 229)]) hx 0 (dq tX10_begins 18 rfl) rfl (by decide) rfl rfl ?_
                                                                  refine g_goto (n := 2) hx (dq tX10_begins 19 rfl) (by decide) ?_
                                                                  refine g_iload_n (n := 3) hx 0 (dq tX10_begins 2 rfl) rfl rfl ?_
                                                                  refine g_bipush (n := 5) hx (dq tX10_begins 3 rfl) rfl (by decide) ?_
                                                                  refine g_icmp_ge (n := 8) (t := 35) hx (dq tX10_begins 4 rfl) (by decide) rfl ⟨by decide, by decide⟩ ⟨by decide, by decide⟩ (fun c_86 => ?_) (fun c_86 => ?_)
                                                                  · refine g_aload_n (n := 36) hx 1 (dq tX10_begins 20 rfl) rfl rfl ?_
                                                                    refine g_getR (n := 39) hx glX10_9 (sX10_1 (by decide)) (dq tX10_begins 21 rfl) rfl ?_
                                                                    refine g_bipush (n := 41) hx (dq tX10_begins 22 rfl) rfl (by decide) ?_
                                                                    refine g_iconst (n := 42) hx (dq tX10_begins 23 rfl) rfl ?_
                                                                    have e_87 : M_84 229 39 = M_79 229 39 := (m_85 229 39 (by omega))
                                                                    refine g_iastX (n := 43) (q := 6) hx (aX10_1 (b := 229) (by decide)) (dq tX10_begins 24 rfl) rfl (by decide) (by decide) (by decide) rfl (show (-1) ≤ (-1) by omega) (show (-1) ≤ 5 by omega) (fun M_88 m_89e m_89 => ?_)
                                                                    refine g_aload_n (n := 44) hx 1 (dq tX10_begins 25 rfl) rfl rfl ?_
                                                                    refine g_getR (n := 47) hx glX10_9 (sX10_1 (by decide)) (dq tX10_begins 26 rfl) rfl ?_
                                                                    refine g_bipush (n := 49) hx (dq tX10_begins 27 rfl) rfl (by decide) ?_
                                                                    refine g_iconst (n := 50) hx (dq tX10_begins 28 rfl) rfl ?_
                                                                    have e_90 : M_88 229 39 = M_84 229 39 := (m_89 229 39 (by omega))
                                                                    refine g_iastX (n := 51) (q := 15) hx (aX10_1 (b := 229) (by decide)) (dq tX10_begins 29 rfl) rfl (by decide) (by decide) (by decide) rfl (show (-1) ≤ (-1) by omega) (show (-1) ≤ 5 by omega) (fun M_91 m_92e m_92 => ?_)
                                                                    refine g_aload_n (n := 52) hx 1 (dq tX10_begins 30 rfl) rfl rfl ?_
                                                                    refine g_getR (n := 55) hx glX10_9 (sX10_1 (by decide)) (dq tX10_begins 31 rfl) rfl ?_
                                                                    refine g_bipush (n := 57) hx (dq tX10_begins 32 rfl) rfl (by decide) ?_
                                                                    refine g_bipush (n := 59) hx (dq tX10_begins 33 rfl) rfl (by decide) ?_
                                                                    have e_93 : M_91 229 39 = M_88 229 39 := (m_92 229 39 (by omega))
                                                                    refine g_iastX (n := 60) (q := 8) hx (aX10_1 (b := 229) (by decide)) (dq tX10_begins 34 rfl) rfl (by decide) (by decide) (by decide) rfl (show (-2147483648) ≤ 50 by omega) (show 50 ≤ 2147483647 by omega) (fun M_94 m_95e m_95 => ?_)
                                                                    refine g_aload_n (n := 61) hx 1 (dq tX10_begins 35 rfl) rfl rfl ?_
                                                                    refine g_getR (n := 64) hx glX10_97 (sX10_30 (by decide)) (dq tX10_begins 36 rfl) rfl ?_
                                                                    refine g_aload_n (n := 65) hx 1 (dq tX10_begins 37 rfl) rfl rfl ?_
                                                                    refine g_getR (n := 68) hx glX10_13 (sX10_2 (by decide)) (dq tX10_begins 38 rfl) rfl ?_
                                                                    have e_96 : M_94 229 39 = M_91 229 39 := (m_95 229 39 (by omega))
                                                                    refine g_callSv (n := 71) (As := [aR Γ (229 + 30), aR Γ (229 + 2)]) (rest := []) hx (ctX10_lay Γ M_94 (229 + 30) (229 + 2) 9 (aX10_30 (b := 229) (by decide)) (aX10_2 (b := 229) (by decide)) (by decide) (by decide) (by decide) (by decide)) mlX10_368 (dq tX10_begins 39 rfl) rfl (Nat.le_of_ble_eq_true rfl) (Nat.le_of_ble_eq_true rfl) (Nat.le_of_ble_eq_true rfl) rfl (fun M_98 p_100 => ?_)
                                                                    obtain ⟨f_101, e_102⟩ := p_100
                                                                    refine g_aload_n (n := 72) hx 1 (dq tX10_begins 40 rfl) rfl rfl ?_
                                                                    refine g_getR (n := 75) hx glX10_100 (sX10_31 (by decide)) (dq tX10_begins 41 rfl) rfl ?_
                                                                    refine g_aload_n (n := 76) hx 1 (dq tX10_begins 42 rfl) rfl rfl ?_
                                                                    refine g_getR (n := 79) hx glX10_19 (sX10_4 (by decide)) (dq tX10_begins 43 rfl) rfl ?_
                                                                    have e_103 : M_98 229 39 = M_94 229 39 := (f_101 229 39 (by omega))
                                                                    refine g_callSv (n := 82) (As := [aR Γ (229 + 31), aR Γ (229 + 4)]) (rest := []) hx (ctX10_lay Γ M_98 (229 + 31) (229 + 4) 4 (aX10_31 (b := 229) (by decide)) (aX10_4 (b := 229) (by decide)) (by decide) (by decide) (by decide) (by decide)) mlX10_368 (dq tX10_begins 44 rfl) rfl (Nat.le_of_ble_eq_true rfl) (Nat.le_of_ble_eq_true rfl) (Nat.le_of_ble_eq_true rfl) rfl (fun M_105 p_107 => ?_)
                                                                    obtain ⟨f_108, e_109⟩ := p_107
                                                                    refine g_aload_n (n := 83) hx 1 (dq tX10_begins 45 rfl) rfl rfl ?_
                                                                    refine g_getR (n := 86) hx glX10_103 (sX10_32 (by decide)) (dq tX10_begins 46 rfl) rfl ?_
                                                                    refine g_aload_n (n := 87) hx 1 (dq tX10_begins 47 rfl) rfl rfl ?_
                                                                    refine g_getR (n := 90) hx glX10_22 (sX10_5 (by decide)) (dq tX10_begins 48 rfl) rfl ?_
                                                                    have e_110 : M_105 229 39 = M_98 229 39 := (f_108 229 39 (by omega))
                                                                    refine g_callSv (n := 93) (As := [aR Γ (229 + 32), aR Γ (229 + 5)]) (rest := []) hx (ctX10_lay Γ M_105 (229 + 32) (229 + 5) 6 (aX10_32 (b := 229) (by decide)) (aX10_5 (b := 229) (by decide)) (by decide) (by decide) (by decide) (by decide)) mlX10_368 (dq tX10_begins 49 rfl) rfl (Nat.le_of_ble_eq_true rfl) (Nat.le_of_ble_eq_true rfl) (Nat.le_of_ble_eq_true rfl) rfl (fun M_112 p_114 => ?_)
                                                                    obtain ⟨f_115, e_116⟩ := p_114
                                                                    refine g_aload_n (n := 94) hx 1 (dq tX10_begins 50 rfl) rfl rfl ?_
                                                                    refine g_getR (n := 97) hx glX10_106 (sX10_33 (by decide)) (dq tX10_begins 51 rfl) rfl ?_
                                                                    refine g_aload_n (n := 98) hx 1 (dq tX10_begins 52 rfl) rfl rfl ?_
                                                                    refine g_getR (n := 101) hx glX10_34 (sX10_9 (by decide)) (dq tX10_begins 53 rfl) rfl ?_
                                                                    have e_117 : M_112 229 39 = M_105 229 39 := (f_115 229 39 (by omega))
                                                                    refine g_callSv (n := 104) (As := [aR Γ (229 + 33), aR Γ (229 + 9)]) (rest := []) hx (ctX10_lay Γ M_112 (229 + 33) (229 + 9) 12 (aX10_33 (b := 229) (by decide)) (aX10_9 (b := 229) (by decide)) (by decide) (by decide) (by decide) (by decide)) mlX10_368 (dq tX10_begins 54 rfl) rfl (Nat.le_of_ble_eq_true rfl) (Nat.le_of_ble_eq_true rfl) (Nat.le_of_ble_eq_true rfl) rfl (fun M_119 p_121 => ?_)
                                                                    obtain ⟨f_122, e_123⟩ := p_121
                                                                    refine g_aload_n (n := 105) hx 1 (dq tX10_begins 55 rfl) rfl rfl ?_
                                                                    refine g_getR (n := 108) hx glX10_109 (sX10_34 (by decide)) (dq tX10_begins 56 rfl) rfl ?_
                                                                    refine g_aload_n (n := 109) hx 1 (dq tX10_begins 57 rfl) rfl rfl ?_
                                                                    refine g_getR (n := 112) hx glX10_37 (sX10_10 (by decide)) (dq tX10_begins 58 rfl) rfl ?_
                                                                    have e_124 : M_119 229 39 = M_112 229 39 := (f_122 229 39 (by omega))
                                                                    refine g_callSv (n := 115) (As := [aR Γ (229 + 34), aR Γ (229 + 10)]) (rest := []) hx (ctX10_lay Γ M_119 (229 + 34) (229 + 10) 12 (aX10_34 (b := 229) (by decide)) (aX10_10 (b := 229) (by decide)) (by decide) (by decide) (by decide) (by decide)) mlX10_368 (dq tX10_begins 59 rfl) rfl (Nat.le_of_ble_eq_true rfl) (Nat.le_of_ble_eq_true rfl) (Nat.le_of_ble_eq_true rfl) rfl (fun M_126 p_128 => ?_)
                                                                    obtain ⟨f_129, e_130⟩ := p_128
                                                                    refine g_aload_n (n := 116) hx 1 (dq tX10_begins 60 rfl) rfl rfl ?_
                                                                    refine g_getR (n := 119) hx glX10_112 (sX10_35 (by decide)) (dq tX10_begins 61 rfl) rfl ?_
                                                                    refine g_aload_n (n := 120) hx 1 (dq tX10_begins 62 rfl) rfl rfl ?_
                                                                    refine g_getR (n := 123) hx glX10_40 (sX10_11 (by decide)) (dq tX10_begins 63 rfl) rfl ?_
                                                                    have e_131 : M_126 229 39 = M_119 229 39 := (f_129 229 39 (by omega))
                                                                    refine g_callSv (n := 126) (As := [aR Γ (229 + 35), aR Γ (229 + 11)]) (rest := []) hx (ctX10_lay Γ M_126 (229 + 35) (229 + 11) 12 (aX10_35 (b := 229) (by decide)) (aX10_11 (b := 229) (by decide)) (by decide) (by decide) (by decide) (by decide)) mlX10_368 (dq tX10_begins 64 rfl) rfl (Nat.le_of_ble_eq_true rfl) (Nat.le_of_ble_eq_true rfl) (Nat.le_of_ble_eq_true rfl) rfl (fun M_133 p_135 => ?_)
                                                                    obtain ⟨f_136, e_137⟩ := p_135
                                                                    refine g_iconst (n := 127) hx (dq tX10_begins 65 rfl) rfl ?_
                                                                    refine g_istore_n (n := 128) (lv' := [(1, vI 0), (0, aR Γ 229)]) hx (dq tX10_begins 66 rfl) (by decide) rfl rfl ?_
                                                                    have L_140 : ∀ (n_ : Nat) (i_138 : Int) (M_139 : zM), (0 ≤ i_138) → (i_138 ≤ 9) → (∀ u_ v_, u_ ≠ 229 + 3 → M_139 u_ v_ = M_133 u_ v_) → ((9 - i_138).toNat = n_) → G Γ x 2 (QV Γ x (qctX10_begins M)) M_139 128 [(1, vI i_138), (0, aR Γ 229)] [] := by
                                                                      intro n_
                                                                      induction n_ using Nat.strongRecOn with
                                                                      | _ n_ ih_141 =>
                                                                        intro i_138 M_139 h_144 h_145 f_142 hm_143
                                                                        refine g_iload_n (n := 129) hx 0 (dq tX10_begins 67 rfl) rfl rfl ?_
                                                                        refine g_bipush (n := 131) hx (dq tX10_begins 68 rfl) rfl (by decide) ?_
                                                                        refine g_icmp_ge (n := 134) (t := 147) hx (dq tX10_begins 69 rfl) (by decide) rfl ⟨by omega, by omega⟩ ⟨by decide, by decide⟩ (fun c_146 => ?_) (fun c_146 => ?_)
                                                                        · refine g_iconst (n := 148) hx (dq tX10_begins 77 rfl) rfl ?_
                                                                          refine g_istore_n (n := 149) (lv' := [(1, vI 0), (0, aR Γ 229)]) hx (dq tX10_begins 78 rfl) (by decide) rfl rfl ?_
                                                                          have L_149 : ∀ (n_ : Nat) (i_147 : Int) (M_148 : zM), (0 ≤ i_147) → (i_147 ≤ 6) → (∀ u_ v_, u_ ≠ 229 + 7 ∧ u_ ≠ 229 + 6 → M_148 u_ v_ = M_139 u_ v_) → (Vr M_148 i_147) → ((6 - i_147).toNat = n_) → G Γ x 2 (QV Γ x (qctX10_begins M)) M_148 149 [(1, vI i_147), (0, aR Γ 229)] [] := by
                                                                            intro n_
                                                                            induction n_ using Nat.strongRecOn with
                                                                            | _ n_ ih_150 =>
                                                                              intro i_147 M_148 h_154 h_155 f_151 h_153 hm_152
                                                                              refine g_iload_n (n := 150) hx 0 (dq tX10_begins 79 rfl) rfl rfl ?_
                                                                              refine g_bipush (n := 152) hx (dq tX10_begins 80 rfl) rfl (by decide) ?_
                                                                              refine g_icmp_ge (n := 155) (t := 175) hx (dq tX10_begins 81 rfl) (by decide) rfl ⟨by omega, by omega⟩ ⟨by decide, by decide⟩ (fun c_156 => ?_) (fun c_156 => ?_)
                                                                              · refine g_iconst (n := 176) hx (dq tX10_begins 94 rfl) rfl ?_
                                                                                refine g_istore_n (n := 177) (lv' := [(1, vI 0), (0, aR Γ 229)]) hx (dq tX10_begins 95 rfl) (by decide) rfl rfl ?_
                                                                                have L_159 : ∀ (n_ : Nat) (i_157 : Int) (M_158 : zM), (0 ≤ i_157) → (i_157 ≤ 36) → (∀ u_ v_, u_ ≠ 229 + 8 → M_158 u_ v_ = M_148 u_ v_) → ((36 - i_157).toNat = n_) → G Γ x 2 (QV Γ x (qctX10_begins M)) M_158 177 [(1, vI i_157), (0, aR Γ 229)] [] := by
                                                                                  intro n_
                                                                                  induction n_ using Nat.strongRecOn with
                                                                                  | _ n_ ih_160 =>
                                                                                    intro i_157 M_158 h_163 h_164 f_161 hm_162
                                                                                    refine g_iload_n (n := 178) hx 0 (dq tX10_begins 96 rfl) rfl rfl ?_
                                                                                    refine g_aload_n (n := 179) hx 1 (dq tX10_begins 97 rfl) rfl rfl ?_
                                                                                    refine g_getR (n := 182) hx glX10_31 (sX10_8 (by decide)) (dq tX10_begins 98 rfl) rfl ?_
                                                                                    refine g_alen (n := 183) hx (akI (aX10_8 (b := 229) (by decide))) (dq tX10_begins 99 rfl) rfl ?_
                                                                                    refine g_icmp_ge (n := 186) (t := 199) hx (dq tX10_begins 100 rfl) (by decide) rfl ⟨by omega, by omega⟩ ⟨by decide, by decide⟩ (fun c_165 => ?_) (fun c_165 => ?_)
                                                                                    · refine g_iconst (n := 200) hx (dq tX10_begins 108 rfl) rfl ?_
                                                                                      refine g_istore_n (n := 201) (lv' := [(1, vI 0), (0, aR Γ 229)]) hx (dq tX10_begins 109 rfl) (by decide) rfl rfl ?_
                                                                                      have L_168 : ∀ (n_ : Nat) (i_166 : Int) (M_167 : zM), (0 ≤ i_166) → (i_166 ≤ 12) → (∀ u_ v_, u_ ≠ 229 + 17 ∧ u_ ≠ 229 + 16 ∧ u_ ≠ 229 + 15 ∧ u_ ≠ 229 + 14 ∧ u_ ≠ 229 + 18 ∧ u_ ≠ 229 + 13 ∧ u_ ≠ 229 + 12 → M_167 u_ v_ = M_158 u_ v_) → (Bg M_167 M i_166) → ((12 - i_166).toNat = n_) → G Γ x 2 (QV Γ x (qctX10_begins M)) M_167 201 [(1, vI i_166), (0, aR Γ 229)] [] := by
                                                                                        intro n_
                                                                                        induction n_ using Nat.strongRecOn with
                                                                                        | _ n_ ih_169 =>
                                                                                          intro i_166 M_167 h_173 h_174 f_170 h_172 hm_171
                                                                                          refine g_iload_n (n := 202) hx 0 (dq tX10_begins 110 rfl) rfl rfl ?_
                                                                                          refine g_bipush (n := 204) hx (dq tX10_begins 111 rfl) rfl (by decide) ?_
                                                                                          refine g_icmp_ge (n := 207) (t := 278) hx (dq tX10_begins 112 rfl) (by decide) rfl ⟨by omega, by omega⟩ ⟨by decide, by decide⟩ (fun c_175 => ?_) (fun c_175 => ?_)
                                                                                          · have e_176 : M_167 229 39 = M_126 229 39 := (((((f_170 229 39 (by omega))).trans (f_161 229 39 (by omega))).trans (f_151 229 39 (by omega))).trans (f_142 229 39 (by omega))).trans (f_136 229 39 (by omega))
                                                                                            exact g_vret hx hr (dq tX10_begins 160 rfl) ⟨(fun u_ v_ huv_ => (((((((((((((((((((((((((((((f_170 u_ v_ ⟨(by have q9 := huv_.2; clear huv_; omega), (by have q9 := huv_.2; clear huv_; omega), (by have q9 := huv_.2; clear huv_; omega), (by have q9 := huv_.2; clear huv_; omega), (by have q9 := huv_.2; clear huv_; omega), (by have q9 := huv_.2; clear huv_; omega), (by have q9 := huv_.2; clear huv_; omega)⟩).trans (f_161 u_ v_ (by have q9 := huv_.2; clear huv_; omega))).trans (f_151 u_ v_ ⟨(by have q9 := huv_.2; clear huv_; omega), (by have q9 := huv_.2; clear huv_; omega)⟩)).trans (f_142 u_ v_ (by have q9 := huv_.2; clear huv_; omega))).trans (f_136 u_ v_ (by have q9 := huv_.2; clear huv_; omega))).trans (f_129 u_ v_ (by have q9 := huv_.2; clear huv_; omega))).trans (f_122 u_ v_ (by have q9 := huv_.2; clear huv_; omega))).trans (f_115 u_ v_ (by have q9 := huv_.2; clear huv_; omega))).trans (f_108 u_ v_ (by have q9 := huv_.2; clear huv_; omega))).trans (f_101 u_ v_ (by have q9 := huv_.2; clear huv_; omega))).trans (m_95 u_ v_ (by have q9 := huv_.1; clear huv_; omega))).trans (m_92 u_ v_ (by have q9 := huv_.1; clear huv_; omega))).trans (m_89 u_ v_ (by have q9 := huv_.1; clear huv_; omega))).trans (m_85 u_ v_ (by have q9 := huv_.1; clear huv_; omega))).trans (m_80 u_ v_ (by have q9 := huv_.1; clear huv_; omega))).trans (m_75 u_ v_ (by have q9 := huv_.1; clear huv_; omega))).trans (m_70 u_ v_ (by have q9 := huv_.1; clear huv_; omega))).trans (m_65 u_ v_ (by have q9 := huv_.1; clear huv_; omega))).trans (m_60 u_ v_ (by have q9 := huv_.1; clear huv_; omega))).trans (m_55 u_ v_ (by have q9 := huv_.1; clear huv_; omega))).trans (m_50 u_ v_ (by have q9 := huv_.1; clear huv_; omega))).trans (m_45 u_ v_ (by have q9 := huv_.1; clear huv_; omega))).trans (m_40 u_ v_ (by have q9 := huv_.1; clear huv_; omega))).trans (m_35 u_ v_ (by have q9 := huv_.1; clear huv_; omega))).trans (m_30 u_ v_ (by have q9 := huv_.1; clear huv_; omega))).trans (m_24 u_ v_ (by have q9 := huv_.1; clear huv_; omega))).trans (m_18 u_ v_ (by have q9 := huv_.1; clear huv_; omega))).trans (m_12 u_ v_ (by have q9 := huv_.1; clear huv_; omega))).trans (m_6 u_ v_ (by have q9 := huv_.1; clear huv_; omega)))), (Gm.begins hIb ex0 ex1 (by omega) (Bg.to h_172 (by omega)) ((((((((((((((((((((((((((((((f_170 (229 + 1) 1 (by omega)).trans (f_161 (229 + 1) 1 (by omega))).trans (f_151 (229 + 1) 1 (by omega))).trans (f_142 (229 + 1) 1 (by omega))).trans (f_136 (229 + 1) 1 (by omega))).trans (f_129 (229 + 1) 1 (by omega))).trans (f_122 (229 + 1) 1 (by omega))).trans (f_115 (229 + 1) 1 (by omega))).trans (f_108 (229 + 1) 1 (by omega))).trans (f_101 (229 + 1) 1 (by omega))).trans (m_95 (229 + 1) 1 (by omega))).trans (m_92 (229 + 1) 1 (by omega))).trans (m_89 (229 + 1) 1 (by omega))).trans (m_85 (229 + 1) 1 (by omega))).trans (m_80 (229 + 1) 1 (by omega))).trans (m_75 (229 + 1) 1 (by omega))).trans (m_70 (229 + 1) 1 (by omega))).trans (m_65 (229 + 1) 1 (by omega))).trans (m_60 (229 + 1) 1 (by omega))).trans (m_55 (229 + 1) 1 (by omega))).trans (m_50 (229 + 1) 1 (by omega))).trans (m_45 (229 + 1) 1 (by omega))).trans (m_40 (229 + 1) 1 (by omega))).trans (m_35 (229 + 1) 1 (by omega))).trans (m_30 (229 + 1) 1 (by omega))).trans (m_24 (229 + 1) 1 (by omega))).trans (m_18 (229 + 1) 1 (by omega)))).trans m_12e).trans (m_6 (229 + 29) 1 (by omega))) ((((((((((((((((((((((((((((f_170 (229 + 1) 3 (by omega)).trans (f_161 (229 + 1) 3 (by omega))).trans (f_151 (229 + 1) 3 (by omega))).trans (f_142 (229 + 1) 3 (by omega))).trans (f_136 (229 + 1) 3 (by omega))).trans (f_129 (229 + 1) 3 (by omega))).trans (f_122 (229 + 1) 3 (by omega))).trans (f_115 (229 + 1) 3 (by omega))).trans (f_108 (229 + 1) 3 (by omega))).trans (f_101 (229 + 1) 3 (by omega))).trans (m_95 (229 + 1) 3 (by omega))).trans (m_92 (229 + 1) 3 (by omega))).trans (m_89 (229 + 1) 3 (by omega))).trans (m_85 (229 + 1) 3 (by omega))).trans (m_80 (229 + 1) 3 (by omega))).trans (m_75 (229 + 1) 3 (by omega))).trans (m_70 (229 + 1) 3 (by omega))).trans (m_65 (229 + 1) 3 (by omega))).trans (m_60 (229 + 1) 3 (by omega))).trans (m_55 (229 + 1) 3 (by omega))).trans (m_50 (229 + 1) 3 (by omega))).trans (m_45 (229 + 1) 3 (by omega))).trans (m_40 (229 + 1) 3 (by omega))).trans (m_35 (229 + 1) 3 (by omega))).trans (m_30 (229 + 1) 3 (by omega)))).trans m_24e).trans (((m_18 (229 + 29) 3 (by omega)).trans (m_12 (229 + 29) 3 (by omega))).trans (m_6 (229 + 29) 3 (by omega)))) (fun j hj => ((((((((f_170 (229 + 5) j (by omega)).trans (f_161 (229 + 5) j (by omega))).trans (f_151 (229 + 5) j (by omega))).trans (f_142 (229 + 5) j (by omega))).trans (f_136 (229 + 5) j (by omega))).trans (f_129 (229 + 5) j (by omega))).trans (f_122 (229 + 5) j (by omega)))).trans ((e_116 j hj).trans ((((((((((((((((((((((f_108 (229 + 32) j (by omega)).trans (f_101 (229 + 32) j (by omega))).trans (m_95 (229 + 32) j (by omega))).trans (m_92 (229 + 32) j (by omega))).trans (m_89 (229 + 32) j (by omega))).trans (m_85 (229 + 32) j (by omega))).trans (m_80 (229 + 32) j (by omega))).trans (m_75 (229 + 32) j (by omega))).trans (m_70 (229 + 32) j (by omega))).trans (m_65 (229 + 32) j (by omega))).trans (m_60 (229 + 32) j (by omega))).trans (m_55 (229 + 32) j (by omega))).trans (m_50 (229 + 32) j (by omega))).trans (m_45 (229 + 32) j (by omega))).trans (m_40 (229 + 32) j (by omega))).trans (m_35 (229 + 32) j (by omega))).trans (m_30 (229 + 32) j (by omega))).trans (m_24 (229 + 32) j (by omega))).trans (m_18 (229 + 32) j (by omega))).trans (m_12 (229 + 32) j (by omega))).trans (m_6 (229 + 32) j (by omega)))))) (fun j hj => (((((((f_170 (229 + 9) j (by omega)).trans (f_161 (229 + 9) j (by omega))).trans (f_151 (229 + 9) j (by omega))).trans (f_142 (229 + 9) j (by omega))).trans (f_136 (229 + 9) j (by omega))).trans (f_129 (229 + 9) j (by omega)))).trans ((e_123 j hj).trans (((((((((((((((((((((((f_115 (229 + 33) j (by omega)).trans (f_108 (229 + 33) j (by omega))).trans (f_101 (229 + 33) j (by omega))).trans (m_95 (229 + 33) j (by omega))).trans (m_92 (229 + 33) j (by omega))).trans (m_89 (229 + 33) j (by omega))).trans (m_85 (229 + 33) j (by omega))).trans (m_80 (229 + 33) j (by omega))).trans (m_75 (229 + 33) j (by omega))).trans (m_70 (229 + 33) j (by omega))).trans (m_65 (229 + 33) j (by omega))).trans (m_60 (229 + 33) j (by omega))).trans (m_55 (229 + 33) j (by omega))).trans (m_50 (229 + 33) j (by omega))).trans (m_45 (229 + 33) j (by omega))).trans (m_40 (229 + 33) j (by omega))).trans (m_35 (229 + 33) j (by omega))).trans (m_30 (229 + 33) j (by omega))).trans (m_24 (229 + 33) j (by omega))).trans (m_18 (229 + 33) j (by omega))).trans (m_12 (229 + 33) j (by omega))).trans (m_6 (229 + 33) j (by omega))))))), (On.begins (Bg.to h_172 (by omega)) (by have q1 : M_167 (229 + 1) 3 = M (229 + 29) 3 := ((((((((((((((((((((((((((((f_170 (229 + 1) 3 (by omega)).trans (f_161 (229 + 1) 3 (by omega))).trans (f_151 (229 + 1) 3 (by omega))).trans (f_142 (229 + 1) 3 (by omega))).trans (f_136 (229 + 1) 3 (by omega))).trans (f_129 (229 + 1) 3 (by omega))).trans (f_122 (229 + 1) 3 (by omega))).trans (f_115 (229 + 1) 3 (by omega))).trans (f_108 (229 + 1) 3 (by omega))).trans (f_101 (229 + 1) 3 (by omega))).trans (m_95 (229 + 1) 3 (by omega))).trans (m_92 (229 + 1) 3 (by omega))).trans (m_89 (229 + 1) 3 (by omega))).trans (m_85 (229 + 1) 3 (by omega))).trans (m_80 (229 + 1) 3 (by omega))).trans (m_75 (229 + 1) 3 (by omega))).trans (m_70 (229 + 1) 3 (by omega))).trans (m_65 (229 + 1) 3 (by omega))).trans (m_60 (229 + 1) 3 (by omega))).trans (m_55 (229 + 1) 3 (by omega))).trans (m_50 (229 + 1) 3 (by omega))).trans (m_45 (229 + 1) 3 (by omega))).trans (m_40 (229 + 1) 3 (by omega))).trans (m_35 (229 + 1) 3 (by omega))).trans (m_30 (229 + 1) 3 (by omega)))).trans m_24e).trans (((m_18 (229 + 29) 3 (by omega)).trans (m_12 (229 + 29) 3 (by omega))).trans (m_6 (229 + 29) 3 (by omega)))); have q2 : (0 : Int) ≤ M (229 + 29) 3 ∧ M (229 + 29) 3 ≤ 12 := hIb 258 3; omega)), (Rl.begins ex2 (by have q2 : (0 : Int) ≤ M 229 41 ∧ M 229 41 ≤ 6 := hIb 229 41; omega) (by have q1 : M_167 (229 + 1) 1 = M (229 + 29) 1 := ((((((((((((((((((((((((((((((f_170 (229 + 1) 1 (by omega)).trans (f_161 (229 + 1) 1 (by omega))).trans (f_151 (229 + 1) 1 (by omega))).trans (f_142 (229 + 1) 1 (by omega))).trans (f_136 (229 + 1) 1 (by omega))).trans (f_129 (229 + 1) 1 (by omega))).trans (f_122 (229 + 1) 1 (by omega))).trans (f_115 (229 + 1) 1 (by omega))).trans (f_108 (229 + 1) 1 (by omega))).trans (f_101 (229 + 1) 1 (by omega))).trans (m_95 (229 + 1) 1 (by omega))).trans (m_92 (229 + 1) 1 (by omega))).trans (m_89 (229 + 1) 1 (by omega))).trans (m_85 (229 + 1) 1 (by omega))).trans (m_80 (229 + 1) 1 (by omega))).trans (m_75 (229 + 1) 1 (by omega))).trans (m_70 (229 + 1) 1 (by omega))).trans (m_65 (229 + 1) 1 (by omega))).trans (m_60 (229 + 1) 1 (by omega))).trans (m_55 (229 + 1) 1 (by omega))).trans (m_50 (229 + 1) 1 (by omega))).trans (m_45 (229 + 1) 1 (by omega))).trans (m_40 (229 + 1) 1 (by omega))).trans (m_35 (229 + 1) 1 (by omega))).trans (m_30 (229 + 1) 1 (by omega))).trans (m_24 (229 + 1) 1 (by omega))).trans (m_18 (229 + 1) 1 (by omega)))).trans m_12e).trans (m_6 (229 + 29) 1 (by omega))); have q2 : (0 : Int) ≤ M (229 + 29) 1 ∧ M (229 + 29) 1 ≤ 6 := hIb 258 1; omega) (fun i hi => (((f_170 (229 + 6) i (by omega)).trans (f_161 (229 + 6) i (by omega)))).trans (h_153 i (by omega))) (((((((((((((((((((((((((f_170 (229 + 1) 5 (by omega)).trans (f_161 (229 + 1) 5 (by omega))).trans (f_151 (229 + 1) 5 (by omega))).trans (f_142 (229 + 1) 5 (by omega))).trans (f_136 (229 + 1) 5 (by omega))).trans (f_129 (229 + 1) 5 (by omega))).trans (f_122 (229 + 1) 5 (by omega))).trans (f_115 (229 + 1) 5 (by omega))).trans (f_108 (229 + 1) 5 (by omega))).trans (f_101 (229 + 1) 5 (by omega))).trans (m_95 (229 + 1) 5 (by omega))).trans (m_92 (229 + 1) 5 (by omega))).trans (m_89 (229 + 1) 5 (by omega))).trans (m_85 (229 + 1) 5 (by omega))).trans (m_80 (229 + 1) 5 (by omega))).trans (m_75 (229 + 1) 5 (by omega))).trans (m_70 (229 + 1) 5 (by omega))).trans (m_65 (229 + 1) 5 (by omega))).trans (m_60 (229 + 1) 5 (by omega))).trans (m_55 (229 + 1) 5 (by omega))).trans (m_50 (229 + 1) 5 (by omega))).trans (m_45 (229 + 1) 5 (by omega))).trans (m_40 (229 + 1) 5 (by omega)))).trans m_35e) ((((((((((((((f_170 (229 + 1) 6 (by omega)).trans (f_161 (229 + 1) 6 (by omega))).trans (f_151 (229 + 1) 6 (by omega))).trans (f_142 (229 + 1) 6 (by omega))).trans (f_136 (229 + 1) 6 (by omega))).trans (f_129 (229 + 1) 6 (by omega))).trans (f_122 (229 + 1) 6 (by omega))).trans (f_115 (229 + 1) 6 (by omega))).trans (f_108 (229 + 1) 6 (by omega))).trans (f_101 (229 + 1) 6 (by omega))).trans (m_95 (229 + 1) 6 (by omega))).trans (m_92 (229 + 1) 6 (by omega)))).trans m_89e) (((((((((((((f_170 (229 + 1) 15 (by omega)).trans (f_161 (229 + 1) 15 (by omega))).trans (f_151 (229 + 1) 15 (by omega))).trans (f_142 (229 + 1) 15 (by omega))).trans (f_136 (229 + 1) 15 (by omega))).trans (f_129 (229 + 1) 15 (by omega))).trans (f_122 (229 + 1) 15 (by omega))).trans (f_115 (229 + 1) 15 (by omega))).trans (f_108 (229 + 1) 15 (by omega))).trans (f_101 (229 + 1) 15 (by omega))).trans (m_95 (229 + 1) 15 (by omega)))).trans m_92e) (fun c j hcj => (((((((((((((((((((((((((((((f_170 c j (by omega)).trans (f_161 c j (by omega))).trans (f_151 c j (by omega))).trans (f_142 c j (by omega))).trans (f_136 c j (by omega))).trans (f_129 c j (by omega))).trans (f_122 c j (by omega))).trans (f_115 c j (by omega))).trans (f_108 c j (by omega))).trans (f_101 c j (by omega))).trans (m_95 c j (by omega))).trans (m_92 c j (by omega))).trans (m_89 c j (by omega))).trans (m_85 c j (by omega))).trans (m_80 c j (by omega))).trans (m_75 c j (by omega))).trans (m_70 c j (by omega))).trans (m_65 c j (by omega))).trans (m_60 c j (by omega))).trans (m_55 c j (by omega))).trans (m_50 c j (by omega))).trans (m_45 c j (by omega))).trans (m_40 c j (by omega))).trans (m_35 c j (by omega))).trans (m_30 c j (by omega))).trans (m_24 c j (by omega))).trans (m_18 c j (by omega))).trans (m_12 c j (by omega))).trans (m_6 c j (by omega))))), (((((((((((((((((((((((f_170 (229 + 1) 7 (by omega)).trans (f_161 (229 + 1) 7 (by omega))).trans (f_151 (229 + 1) 7 (by omega))).trans (f_142 (229 + 1) 7 (by omega))).trans (f_136 (229 + 1) 7 (by omega))).trans (f_129 (229 + 1) 7 (by omega))).trans (f_122 (229 + 1) 7 (by omega))).trans (f_115 (229 + 1) 7 (by omega))).trans (f_108 (229 + 1) 7 (by omega))).trans (f_101 (229 + 1) 7 (by omega))).trans (m_95 (229 + 1) 7 (by omega))).trans (m_92 (229 + 1) 7 (by omega))).trans (m_89 (229 + 1) 7 (by omega))).trans (m_85 (229 + 1) 7 (by omega))).trans (m_80 (229 + 1) 7 (by omega))).trans (m_75 (229 + 1) 7 (by omega))).trans (m_70 (229 + 1) 7 (by omega))).trans (m_65 (229 + 1) 7 (by omega))).trans (m_60 (229 + 1) 7 (by omega))).trans (m_55 (229 + 1) 7 (by omega))).trans (m_50 (229 + 1) 7 (by omega)))).trans m_45e)⟩
                                                                                          · refine g_aload_n (n := 208) hx 1 (dq tX10_begins 113 rfl) rfl rfl ?_
                                                                                            refine g_getR (n := 211) hx glX10_43 (sX10_12 (by decide)) (dq tX10_begins 114 rfl) rfl ?_
                                                                                            refine g_iload_n (n := 212) hx 0 (dq tX10_begins 115 rfl) rfl rfl ?_
                                                                                            refine g_bipush (n := 214) hx (dq tX10_begins 116 rfl) rfl (by decide) ?_
                                                                                            refine g_aload_n (n := 215) hx 1 (dq tX10_begins 117 rfl) rfl rfl ?_
                                                                                            refine g_getR (n := 218) hx glX10_115 (sX10_36 (by decide)) (dq tX10_begins 118 rfl) rfl ?_
                                                                                            refine g_iload_n (n := 219) hx 0 (dq tX10_begins 119 rfl) rfl rfl ?_
                                                                                            refine g_iald (n := 220) (q := i_166.toNat) hx (aX10_36 (b := 229) (by decide)) (dq tX10_begins 120 rfl) rfl (by omega) (by omega) (by omega) rfl (fun h_177l h_177u => ?_)
                                                                                            by_cases hf_178 : 0 ≤ M_167 (229 + 36) i_166.toNat ∧ M_167 (229 + 36) i_166.toNat ≤ 5
                                                                                            · refine g_iadd (n := 221) hx (dq tX10_begins 121 rfl) rfl ?_
                                                                                              have e_179 : M_167 229 39 = M_126 229 39 := (((((f_170 229 39 (by omega))).trans (f_161 229 39 (by omega))).trans (f_151 229 39 (by omega))).trans (f_142 229 39 (by omega))).trans (f_136 229 39 (by omega))
                                                                                              refine g_iast (n := 222) (q := i_166.toNat) hx (aX10_12 (b := 229) (by decide)) (dq tX10_begins 122 rfl) rfl (by omega) (by omega) (by omega) rfl (by omega) (by omega) (fun M_180 m_181e m_181 => ?_)
                                                                                              refine g_aload_n (n := 223) hx 1 (dq tX10_begins 123 rfl) rfl rfl ?_
                                                                                              refine g_getR (n := 226) hx glX10_46 (sX10_13 (by decide)) (dq tX10_begins 124 rfl) rfl ?_
                                                                                              refine g_iload_n (n := 227) hx 0 (dq tX10_begins 125 rfl) rfl rfl ?_
                                                                                              refine g_iconst (n := 228) hx (dq tX10_begins 126 rfl) rfl ?_
                                                                                              have e_182 : M_180 229 39 = M_167 229 39 := (m_181 229 39 (by omega))
                                                                                              refine g_iast (n := 229) (q := i_166.toNat) hx (aX10_13 (b := 229) (by decide)) (dq tX10_begins 127 rfl) rfl (by omega) (by omega) (by omega) rfl (by omega) (by omega) (fun M_183 m_184e m_184 => ?_)
                                                                                              refine g_aload_n (n := 230) hx 1 (dq tX10_begins 128 rfl) rfl rfl ?_
                                                                                              refine g_getR (n := 233) hx glX10_61 (sX10_18 (by decide)) (dq tX10_begins 129 rfl) rfl ?_
                                                                                              refine g_bipush (n := 235) hx (dq tX10_begins 130 rfl) rfl (by decide) ?_
                                                                                              refine g_iload_n (n := 236) hx 0 (dq tX10_begins 131 rfl) rfl rfl ?_
                                                                                              refine g_imul (n := 237) hx (dq tX10_begins 132 rfl) rfl ?_
                                                                                              refine g_aload_n (n := 238) hx 1 (dq tX10_begins 133 rfl) rfl rfl ?_
                                                                                              refine g_getR (n := 241) hx glX10_115 (sX10_36 (by decide)) (dq tX10_begins 134 rfl) rfl ?_
                                                                                              refine g_iload_n (n := 242) hx 0 (dq tX10_begins 135 rfl) rfl rfl ?_
                                                                                              refine g_iald (n := 243) (q := i_166.toNat) hx (aX10_36 (b := 229) (by decide)) (dq tX10_begins 136 rfl) rfl (by omega) (by omega) (by omega) rfl (fun h_185l h_185u => ?_)
                                                                                              have e_186 : M_183 (229 + 36) i_166.toNat = M_167 (229 + 36) i_166.toNat := ((m_184 (229 + 36) i_166.toNat (by omega))).trans (m_181 (229 + 36) i_166.toNat (by omega))
                                                                                              have e_187 : M_183 229 39 = M_180 229 39 := (m_184 229 39 (by omega))
                                                                                              refine g_iast (n := 244) (q := (6 * i_166).toNat) hx (aX10_18 (b := 229) (by decide)) (dq tX10_begins 137 rfl) rfl (by omega) (by omega) (by omega) rfl (by omega) (by omega) (fun M_188 m_189e m_189 => ?_)
                                                                                              refine g_aload_n (n := 245) hx 1 (dq tX10_begins 138 rfl) rfl rfl ?_
                                                                                              refine g_getR (n := 248) hx glX10_49 (sX10_14 (by decide)) (dq tX10_begins 139 rfl) rfl ?_
                                                                                              refine g_iload_n (n := 249) hx 0 (dq tX10_begins 140 rfl) rfl rfl ?_
                                                                                              refine g_iconst (n := 250) hx (dq tX10_begins 141 rfl) rfl ?_
                                                                                              have e_190 : M_188 229 39 = M_183 229 39 := (m_189 229 39 (by omega))
                                                                                              refine g_iast (n := 251) (q := i_166.toNat) hx (aX10_14 (b := 229) (by decide)) (dq tX10_begins 142 rfl) rfl (by omega) (by omega) (by omega) rfl (by omega) (by omega) (fun M_191 m_192e m_192 => ?_)
                                                                                              refine g_aload_n (n := 252) hx 1 (dq tX10_begins 143 rfl) rfl rfl ?_
                                                                                              refine g_getR (n := 255) hx glX10_52 (sX10_15 (by decide)) (dq tX10_begins 144 rfl) rfl ?_
                                                                                              refine g_iload_n (n := 256) hx 0 (dq tX10_begins 145 rfl) rfl rfl ?_
                                                                                              refine g_iconst (n := 257) hx (dq tX10_begins 146 rfl) rfl ?_
                                                                                              have e_193 : M_191 229 39 = M_188 229 39 := (m_192 229 39 (by omega))
                                                                                              refine g_iast (n := 258) (q := i_166.toNat) hx (aX10_15 (b := 229) (by decide)) (dq tX10_begins 147 rfl) rfl (by omega) (by omega) (by omega) rfl (by omega) (by omega) (fun M_194 m_195e m_195 => ?_)
                                                                                              refine g_aload_n (n := 259) hx 1 (dq tX10_begins 148 rfl) rfl rfl ?_
                                                                                              refine g_getR (n := 262) hx glX10_55 (sX10_16 (by decide)) (dq tX10_begins 149 rfl) rfl ?_
                                                                                              refine g_iload_n (n := 263) hx 0 (dq tX10_begins 150 rfl) rfl rfl ?_
                                                                                              refine g_iconst (n := 264) hx (dq tX10_begins 151 rfl) rfl ?_
                                                                                              have e_196 : M_194 229 39 = M_191 229 39 := (m_195 229 39 (by omega))
                                                                                              refine g_iast (n := 265) (q := i_166.toNat) hx (aX10_16 (b := 229) (by decide)) (dq tX10_begins 152 rfl) rfl (by omega) (by omega) (by omega) rfl (by omega) (by omega) (fun M_197 m_198e m_198 => ?_)
                                                                                              refine g_aload_n (n := 266) hx 1 (dq tX10_begins 153 rfl) rfl rfl ?_
                                                                                              refine g_getR (n := 269) hx glX10_58 (sX10_17 (by decide)) (dq tX10_begins 154 rfl) rfl ?_
                                                                                              refine g_iload_n (n := 270) hx 0 (dq tX10_begins 155 rfl) rfl rfl ?_
                                                                                              refine g_iload_n (n := 271) hx 0 (dq tX10_begins 156 rfl) rfl rfl ?_
                                                                                              have e_199 : M_197 229 39 = M_194 229 39 := (m_198 229 39 (by omega))
                                                                                              refine g_iast (n := 272) (q := i_166.toNat) hx (aX10_17 (b := 229) (by decide)) (dq tX10_begins 157 rfl) rfl (by omega) (by omega) (by omega) rfl (by omega) (by omega) (fun M_200 m_201e m_201 => ?_)
                                                                                              refine g_iinc (n := 275) (lv' := [(1, vI (i_166 + 1)), (0, aR Γ 229)]) hx 0 (dq tX10_begins 158 rfl) rfl (by decide) rfl rfl ?_
                                                                                              refine g_goto (n := 201) hx (dq tX10_begins 159 rfl) (by decide) ?_
                                                                                              have e_202 : M_200 229 39 = M_197 229 39 := (m_201 229 39 (by omega))
                                                                                              exact ih_169 _ (by omega) (i_166 + 1) M_200 (by omega) (by omega) (fun u_ v_ huv_ => ((((((((m_201 u_ v_ (by omega)).trans (m_198 u_ v_ (by omega))).trans (m_195 u_ v_ (by omega))).trans (m_192 u_ v_ (by omega))).trans (m_189 u_ v_ (by omega))).trans (m_184 u_ v_ (by omega))).trans (m_181 u_ v_ (by omega))).trans (f_170 u_ v_ ⟨huv_.1, huv_.2.1, huv_.2.2.1, huv_.2.2.2.1, huv_.2.2.2.2.1, huv_.2.2.2.2.2.1, huv_.2.2.2.2.2.2⟩))) (Bg.go h_172 (by omega) rfl (fun _ _ => (((((((m_201 (229 + 12) i_166.toNat (by omega)).trans (m_198 (229 + 12) i_166.toNat (by omega))).trans (m_195 (229 + 12) i_166.toNat (by omega))).trans (m_192 (229 + 12) i_166.toNat (by omega))).trans (m_189 (229 + 12) i_166.toNat (by omega))).trans (m_184 (229 + 12) i_166.toNat (by omega)))).trans ((m_181e).trans (by have w1 := ((((((((((((((((((((((((((((((f_170 (229 + 36) i_166.toNat (by omega)).trans (f_161 (229 + 36) i_166.toNat (by omega))).trans (f_151 (229 + 36) i_166.toNat (by omega))).trans (f_142 (229 + 36) i_166.toNat (by omega))).trans (f_136 (229 + 36) i_166.toNat (by omega))).trans (f_129 (229 + 36) i_166.toNat (by omega))).trans (f_122 (229 + 36) i_166.toNat (by omega))).trans (f_115 (229 + 36) i_166.toNat (by omega))).trans (f_108 (229 + 36) i_166.toNat (by omega))).trans (f_101 (229 + 36) i_166.toNat (by omega))).trans (m_95 (229 + 36) i_166.toNat (by omega))).trans (m_92 (229 + 36) i_166.toNat (by omega))).trans (m_89 (229 + 36) i_166.toNat (by omega))).trans (m_85 (229 + 36) i_166.toNat (by omega))).trans (m_80 (229 + 36) i_166.toNat (by omega))).trans (m_75 (229 + 36) i_166.toNat (by omega))).trans (m_70 (229 + 36) i_166.toNat (by omega))).trans (m_65 (229 + 36) i_166.toNat (by omega))).trans (m_60 (229 + 36) i_166.toNat (by omega))).trans (m_55 (229 + 36) i_166.toNat (by omega))).trans (m_50 (229 + 36) i_166.toNat (by omega))).trans (m_45 (229 + 36) i_166.toNat (by omega))).trans (m_40 (229 + 36) i_166.toNat (by omega))).trans (m_35 (229 + 36) i_166.toNat (by omega))).trans (m_30 (229 + 36) i_166.toNat (by omega))).trans (m_24 (229 + 36) i_166.toNat (by omega))).trans (m_18 (229 + 36) i_166.toNat (by omega))).trans (m_12 (229 + 36) i_166.toNat (by omega))).trans (m_6 (229 + 36) i_166.toNat (by omega))) : M_167 (229 + 36) i_166.toNat = M (229 + 36) i_166.toNat); omega))) (by have w0 : (6 * i_166).toNat = 6 * i_166.toNat := (by omega); have w1 := (((((m_201 (229 + 18) ((6 * i_166).toNat) (by omega)).trans (m_198 (229 + 18) ((6 * i_166).toNat) (by omega))).trans (m_195 (229 + 18) ((6 * i_166).toNat) (by omega))).trans (m_192 (229 + 18) ((6 * i_166).toNat) (by omega)))).trans m_189e; rw [w0] at w1; exact w1.trans ((((((((((((((((((((((((((((((((m_184 (229 + 36) i_166.toNat (by omega)).trans (m_181 (229 + 36) i_166.toNat (by omega))).trans (f_170 (229 + 36) i_166.toNat (by omega))).trans (f_161 (229 + 36) i_166.toNat (by omega))).trans (f_151 (229 + 36) i_166.toNat (by omega))).trans (f_142 (229 + 36) i_166.toNat (by omega))).trans (f_136 (229 + 36) i_166.toNat (by omega))).trans (f_129 (229 + 36) i_166.toNat (by omega))).trans (f_122 (229 + 36) i_166.toNat (by omega))).trans (f_115 (229 + 36) i_166.toNat (by omega))).trans (f_108 (229 + 36) i_166.toNat (by omega))).trans (f_101 (229 + 36) i_166.toNat (by omega))).trans (m_95 (229 + 36) i_166.toNat (by omega))).trans (m_92 (229 + 36) i_166.toNat (by omega))).trans (m_89 (229 + 36) i_166.toNat (by omega))).trans (m_85 (229 + 36) i_166.toNat (by omega))).trans (m_80 (229 + 36) i_166.toNat (by omega))).trans (m_75 (229 + 36) i_166.toNat (by omega))).trans (m_70 (229 + 36) i_166.toNat (by omega))).trans (m_65 (229 + 36) i_166.toNat (by omega))).trans (m_60 (229 + 36) i_166.toNat (by omega))).trans (m_55 (229 + 36) i_166.toNat (by omega))).trans (m_50 (229 + 36) i_166.toNat (by omega))).trans (m_45 (229 + 36) i_166.toNat (by omega))).trans (m_40 (229 + 36) i_166.toNat (by omega))).trans (m_35 (229 + 36) i_166.toNat (by omega))).trans (m_30 (229 + 36) i_166.toNat (by omega))).trans (m_24 (229 + 36) i_166.toNat (by omega))).trans (m_18 (229 + 36) i_166.toNat (by omega))).trans (m_12 (229 + 36) i_166.toNat (by omega))).trans (m_6 (229 + 36) i_166.toNat (by omega))) : M_183 (229 + 36) i_166.toNat = M (229 + 36) i_166.toNat)) ((rfl).trans m_201e) (fun j hj => (((((((m_201 (229 + 12) j (by omega)).trans (m_198 (229 + 12) j (by omega))).trans (m_195 (229 + 12) j (by omega))).trans (m_192 (229 + 12) j (by omega))).trans (m_189 (229 + 12) j (by omega))).trans (m_184 (229 + 12) j (by omega))).trans (m_181 (229 + 12) j (by omega)))) (fun j hj => (((((((m_201 (229 + 18) j (by omega)).trans (m_198 (229 + 18) j (by omega))).trans (m_195 (229 + 18) j (by omega))).trans (m_192 (229 + 18) j (by omega))).trans (m_189 (229 + 18) j (by omega))).trans (m_184 (229 + 18) j (by omega))).trans (m_181 (229 + 18) j (by omega)))) (fun j hj => (((((((m_201 (229 + 17) j (by omega)).trans (m_198 (229 + 17) j (by omega))).trans (m_195 (229 + 17) j (by omega))).trans (m_192 (229 + 17) j (by omega))).trans (m_189 (229 + 17) j (by omega))).trans (m_184 (229 + 17) j (by omega))).trans (m_181 (229 + 17) j (by omega))))) rfl
                                                                                            · refine g_iadd (n := 221) hx (dq tX10_begins 121 rfl) rfl ?_
                                                                                              refine g_any (fun z_203 h_204 => ?_)
                                                                                              have e_205 : M_167 229 39 = M_126 229 39 := (((((f_170 229 39 (by omega))).trans (f_161 229 39 (by omega))).trans (f_151 229 39 (by omega))).trans (f_142 229 39 (by omega))).trans (f_136 229 39 (by omega))
                                                                                              refine g_iast (n := 222) (q := i_166.toNat) hx (aX10_12 (b := 229) (by decide)) (dq tX10_begins 122 rfl) rfl (by omega) (by omega) (by omega) rfl (by omega) (by omega) (fun M_206 m_207e m_207 => ?_)
                                                                                              refine g_aload_n (n := 223) hx 1 (dq tX10_begins 123 rfl) rfl rfl ?_
                                                                                              refine g_getR (n := 226) hx glX10_46 (sX10_13 (by decide)) (dq tX10_begins 124 rfl) rfl ?_
                                                                                              refine g_iload_n (n := 227) hx 0 (dq tX10_begins 125 rfl) rfl rfl ?_
                                                                                              refine g_iconst (n := 228) hx (dq tX10_begins 126 rfl) rfl ?_
                                                                                              have e_208 : M_206 229 39 = M_167 229 39 := (m_207 229 39 (by omega))
                                                                                              refine g_iast (n := 229) (q := i_166.toNat) hx (aX10_13 (b := 229) (by decide)) (dq tX10_begins 127 rfl) rfl (by omega) (by omega) (by omega) rfl (by omega) (by omega) (fun M_209 m_210e m_210 => ?_)
                                                                                              refine g_aload_n (n := 230) hx 1 (dq tX10_begins 128 rfl) rfl rfl ?_
                                                                                              refine g_getR (n := 233) hx glX10_61 (sX10_18 (by decide)) (dq tX10_begins 129 rfl) rfl ?_
                                                                                              refine g_bipush (n := 235) hx (dq tX10_begins 130 rfl) rfl (by decide) ?_
                                                                                              refine g_iload_n (n := 236) hx 0 (dq tX10_begins 131 rfl) rfl rfl ?_
                                                                                              refine g_imul (n := 237) hx (dq tX10_begins 132 rfl) rfl ?_
                                                                                              refine g_aload_n (n := 238) hx 1 (dq tX10_begins 133 rfl) rfl rfl ?_
                                                                                              refine g_getR (n := 241) hx glX10_115 (sX10_36 (by decide)) (dq tX10_begins 134 rfl) rfl ?_
                                                                                              refine g_iload_n (n := 242) hx 0 (dq tX10_begins 135 rfl) rfl rfl ?_
                                                                                              refine g_iald (n := 243) (q := i_166.toNat) hx (aX10_36 (b := 229) (by decide)) (dq tX10_begins 136 rfl) rfl (by omega) (by omega) (by omega) rfl (fun h_211l h_211u => ?_)
                                                                                              have e_212 : M_209 (229 + 36) i_166.toNat = M_167 (229 + 36) i_166.toNat := ((m_210 (229 + 36) i_166.toNat (by omega))).trans (m_207 (229 + 36) i_166.toNat (by omega))
                                                                                              have e_213 : M_209 229 39 = M_206 229 39 := (m_210 229 39 (by omega))
                                                                                              refine g_iast (n := 244) (q := (6 * i_166).toNat) hx (aX10_18 (b := 229) (by decide)) (dq tX10_begins 137 rfl) rfl (by omega) (by omega) (by omega) rfl (by omega) (by omega) (fun M_214 m_215e m_215 => ?_)
                                                                                              refine g_aload_n (n := 245) hx 1 (dq tX10_begins 138 rfl) rfl rfl ?_
                                                                                              refine g_getR (n := 248) hx glX10_49 (sX10_14 (by decide)) (dq tX10_begins 139 rfl) rfl ?_
                                                                                              refine g_iload_n (n := 249) hx 0 (dq tX10_begins 140 rfl) rfl rfl ?_
                                                                                              refine g_iconst (n := 250) hx (dq tX10_begins 141 rfl) rfl ?_
                                                                                              have e_216 : M_214 229 39 = M_209 229 39 := (m_215 229 39 (by omega))
                                                                                              refine g_iast (n := 251) (q := i_166.toNat) hx (aX10_14 (b := 229) (by decide)) (dq tX10_begins 142 rfl) rfl (by omega) (by omega) (by omega) rfl (by omega) (by omega) (fun M_217 m_218e m_218 => ?_)
                                                                                              refine g_aload_n (n := 252) hx 1 (dq tX10_begins 143 rfl) rfl rfl ?_
                                                                                              refine g_getR (n := 255) hx glX10_52 (sX10_15 (by decide)) (dq tX10_begins 144 rfl) rfl ?_
                                                                                              refine g_iload_n (n := 256) hx 0 (dq tX10_begins 145 rfl) rfl rfl ?_
                                                                                              refine g_iconst (n := 257) hx (dq tX10_begins 146 rfl) rfl ?_
                                                                                              have e_219 : M_217 229 39 = M_214 229 39 := (m_218 229 39 (by omega))
                                                                                              refine g_iast (n := 258) (q := i_166.toNat) hx (aX10_15 (b := 229) (by decide)) (dq tX10_begins 147 rfl) rfl (by omega) (by omega) (by omega) rfl (by omega) (by omega) (fun M_220 m_221e m_221 => ?_)
                                                                                              refine g_aload_n (n := 259) hx 1 (dq tX10_begins 148 rfl) rfl rfl ?_
                                                                                              refine g_getR (n := 262) hx glX10_55 (sX10_16 (by decide)) (dq tX10_begins 149 rfl) rfl ?_
                                                                                              refine g_iload_n (n := 263) hx 0 (dq tX10_begins 150 rfl) rfl rfl ?_
                                                                                              refine g_iconst (n := 264) hx (dq tX10_begins 151 rfl) rfl ?_
                                                                                              have e_222 : M_220 229 39 = M_217 229 39 := (m_221 229 39 (by omega))
                                                                                              refine g_iast (n := 265) (q := i_166.toNat) hx (aX10_16 (b := 229) (by decide)) (dq tX10_begins 152 rfl) rfl (by omega) (by omega) (by omega) rfl (by omega) (by omega) (fun M_223 m_224e m_224 => ?_)
                                                                                              refine g_aload_n (n := 266) hx 1 (dq tX10_begins 153 rfl) rfl rfl ?_
                                                                                              refine g_getR (n := 269) hx glX10_58 (sX10_17 (by decide)) (dq tX10_begins 154 rfl) rfl ?_
                                                                                              refine g_iload_n (n := 270) hx 0 (dq tX10_begins 155 rfl) rfl rfl ?_
                                                                                              refine g_iload_n (n := 271) hx 0 (dq tX10_begins 156 rfl) rfl rfl ?_
                                                                                              have e_225 : M_223 229 39 = M_220 229 39 := (m_224 229 39 (by omega))
                                                                                              refine g_iast (n := 272) (q := i_166.toNat) hx (aX10_17 (b := 229) (by decide)) (dq tX10_begins 157 rfl) rfl (by omega) (by omega) (by omega) rfl (by omega) (by omega) (fun M_226 m_227e m_227 => ?_)
                                                                                              refine g_iinc (n := 275) (lv' := [(1, vI (i_166 + 1)), (0, aR Γ 229)]) hx 0 (dq tX10_begins 158 rfl) rfl (by decide) rfl rfl ?_
                                                                                              refine g_goto (n := 201) hx (dq tX10_begins 159 rfl) (by decide) ?_
                                                                                              have e_228 : M_226 229 39 = M_223 229 39 := (m_227 229 39 (by omega))
                                                                                              exact ih_169 _ (by omega) (i_166 + 1) M_226 (by omega) (by omega) (fun u_ v_ huv_ => ((((((((m_227 u_ v_ (by omega)).trans (m_224 u_ v_ (by omega))).trans (m_221 u_ v_ (by omega))).trans (m_218 u_ v_ (by omega))).trans (m_215 u_ v_ (by omega))).trans (m_210 u_ v_ (by omega))).trans (m_207 u_ v_ (by omega))).trans (f_170 u_ v_ ⟨huv_.1, huv_.2.1, huv_.2.2.1, huv_.2.2.2.1, huv_.2.2.2.2.1, huv_.2.2.2.2.2.1, huv_.2.2.2.2.2.2⟩))) (Bg.go h_172 (by omega) rfl (fun w2 w3 => absurd (show 0 ≤ M_167 (229 + 36) i_166.toNat ∧ M_167 (229 + 36) i_166.toNat ≤ 5 by have w1 := ((((((((((((((((((((((((((((((f_170 (229 + 36) i_166.toNat (by omega)).trans (f_161 (229 + 36) i_166.toNat (by omega))).trans (f_151 (229 + 36) i_166.toNat (by omega))).trans (f_142 (229 + 36) i_166.toNat (by omega))).trans (f_136 (229 + 36) i_166.toNat (by omega))).trans (f_129 (229 + 36) i_166.toNat (by omega))).trans (f_122 (229 + 36) i_166.toNat (by omega))).trans (f_115 (229 + 36) i_166.toNat (by omega))).trans (f_108 (229 + 36) i_166.toNat (by omega))).trans (f_101 (229 + 36) i_166.toNat (by omega))).trans (m_95 (229 + 36) i_166.toNat (by omega))).trans (m_92 (229 + 36) i_166.toNat (by omega))).trans (m_89 (229 + 36) i_166.toNat (by omega))).trans (m_85 (229 + 36) i_166.toNat (by omega))).trans (m_80 (229 + 36) i_166.toNat (by omega))).trans (m_75 (229 + 36) i_166.toNat (by omega))).trans (m_70 (229 + 36) i_166.toNat (by omega))).trans (m_65 (229 + 36) i_166.toNat (by omega))).trans (m_60 (229 + 36) i_166.toNat (by omega))).trans (m_55 (229 + 36) i_166.toNat (by omega))).trans (m_50 (229 + 36) i_166.toNat (by omega))).trans (m_45 (229 + 36) i_166.toNat (by omega))).trans (m_40 (229 + 36) i_166.toNat (by omega))).trans (m_35 (229 + 36) i_166.toNat (by omega))).trans (m_30 (229 + 36) i_166.toNat (by omega))).trans (m_24 (229 + 36) i_166.toNat (by omega))).trans (m_18 (229 + 36) i_166.toNat (by omega))).trans (m_12 (229 + 36) i_166.toNat (by omega))).trans (m_6 (229 + 36) i_166.toNat (by omega))) : M_167 (229 + 36) i_166.toNat = M (229 + 36) i_166.toNat); omega) (by assumption)) (by have w0 : (6 * i_166).toNat = 6 * i_166.toNat := (by omega); have w1 := (((((m_227 (229 + 18) ((6 * i_166).toNat) (by omega)).trans (m_224 (229 + 18) ((6 * i_166).toNat) (by omega))).trans (m_221 (229 + 18) ((6 * i_166).toNat) (by omega))).trans (m_218 (229 + 18) ((6 * i_166).toNat) (by omega)))).trans m_215e; rw [w0] at w1; exact w1.trans ((((((((((((((((((((((((((((((((m_210 (229 + 36) i_166.toNat (by omega)).trans (m_207 (229 + 36) i_166.toNat (by omega))).trans (f_170 (229 + 36) i_166.toNat (by omega))).trans (f_161 (229 + 36) i_166.toNat (by omega))).trans (f_151 (229 + 36) i_166.toNat (by omega))).trans (f_142 (229 + 36) i_166.toNat (by omega))).trans (f_136 (229 + 36) i_166.toNat (by omega))).trans (f_129 (229 + 36) i_166.toNat (by omega))).trans (f_122 (229 + 36) i_166.toNat (by omega))).trans (f_115 (229 + 36) i_166.toNat (by omega))).trans (f_108 (229 + 36) i_166.toNat (by omega))).trans (f_101 (229 + 36) i_166.toNat (by omega))).trans (m_95 (229 + 36) i_166.toNat (by omega))).trans (m_92 (229 + 36) i_166.toNat (by omega))).trans (m_89 (229 + 36) i_166.toNat (by omega))).trans (m_85 (229 + 36) i_166.toNat (by omega))).trans (m_80 (229 + 36) i_166.toNat (by omega))).trans (m_75 (229 + 36) i_166.toNat (by omega))).trans (m_70 (229 + 36) i_166.toNat (by omega))).trans (m_65 (229 + 36) i_166.toNat (by omega))).trans (m_60 (229 + 36) i_166.toNat (by omega))).trans (m_55 (229 + 36) i_166.toNat (by omega))).trans (m_50 (229 + 36) i_166.toNat (by omega))).trans (m_45 (229 + 36) i_166.toNat (by omega))).trans (m_40 (229 + 36) i_166.toNat (by omega))).trans (m_35 (229 + 36) i_166.toNat (by omega))).trans (m_30 (229 + 36) i_166.toNat (by omega))).trans (m_24 (229 + 36) i_166.toNat (by omega))).trans (m_18 (229 + 36) i_166.toNat (by omega))).trans (m_12 (229 + 36) i_166.toNat (by omega))).trans (m_6 (229 + 36) i_166.toNat (by omega))) : M_209 (229 + 36) i_166.toNat = M (229 + 36) i_166.toNat)) ((rfl).trans m_227e) (fun j hj => (((((((m_227 (229 + 12) j (by omega)).trans (m_224 (229 + 12) j (by omega))).trans (m_221 (229 + 12) j (by omega))).trans (m_218 (229 + 12) j (by omega))).trans (m_215 (229 + 12) j (by omega))).trans (m_210 (229 + 12) j (by omega))).trans (m_207 (229 + 12) j (by omega)))) (fun j hj => (((((((m_227 (229 + 18) j (by omega)).trans (m_224 (229 + 18) j (by omega))).trans (m_221 (229 + 18) j (by omega))).trans (m_218 (229 + 18) j (by omega))).trans (m_215 (229 + 18) j (by omega))).trans (m_210 (229 + 18) j (by omega))).trans (m_207 (229 + 18) j (by omega)))) (fun j hj => (((((((m_227 (229 + 17) j (by omega)).trans (m_224 (229 + 17) j (by omega))).trans (m_221 (229 + 17) j (by omega))).trans (m_218 (229 + 17) j (by omega))).trans (m_215 (229 + 17) j (by omega))).trans (m_210 (229 + 17) j (by omega))).trans (m_207 (229 + 17) j (by omega))))) rfl
                                                                                      have e_229 : M_158 229 39 = M_126 229 39 := ((((f_161 229 39 (by omega))).trans (f_151 229 39 (by omega))).trans (f_142 229 39 (by omega))).trans (f_136 229 39 (by omega))
                                                                                      exact L_168 _ 0 M_158 (by omega) (by omega) (fun _ _ _ => rfl) (Bg.nil (fun q => ((((((((((((((((((((((((((((f_161 (229 + 18) q (by omega)).trans (f_151 (229 + 18) q (by omega))).trans (f_142 (229 + 18) q (by omega))).trans (f_136 (229 + 18) q (by omega))).trans (f_129 (229 + 18) q (by omega))).trans (f_122 (229 + 18) q (by omega))).trans (f_115 (229 + 18) q (by omega))).trans (f_108 (229 + 18) q (by omega))).trans (f_101 (229 + 18) q (by omega))).trans (m_95 (229 + 18) q (by omega))).trans (m_92 (229 + 18) q (by omega))).trans (m_89 (229 + 18) q (by omega))).trans (m_85 (229 + 18) q (by omega))).trans (m_80 (229 + 18) q (by omega))).trans (m_75 (229 + 18) q (by omega))).trans (m_70 (229 + 18) q (by omega))).trans (m_65 (229 + 18) q (by omega))).trans (m_60 (229 + 18) q (by omega))).trans (m_55 (229 + 18) q (by omega))).trans (m_50 (229 + 18) q (by omega))).trans (m_45 (229 + 18) q (by omega))).trans (m_40 (229 + 18) q (by omega))).trans (m_35 (229 + 18) q (by omega))).trans (m_30 (229 + 18) q (by omega))).trans (m_24 (229 + 18) q (by omega))).trans (m_18 (229 + 18) q (by omega))).trans (m_12 (229 + 18) q (by omega))).trans (m_6 (229 + 18) q (by omega))))) rfl
                                                                                    · refine g_aload_n (n := 187) hx 1 (dq tX10_begins 101 rfl) rfl rfl ?_
                                                                                      refine g_getR (n := 190) hx glX10_31 (sX10_8 (by decide)) (dq tX10_begins 102 rfl) rfl ?_
                                                                                      refine g_iload_n (n := 191) hx 0 (dq tX10_begins 103 rfl) rfl rfl ?_
                                                                                      refine g_iconst (n := 192) hx (dq tX10_begins 104 rfl) rfl ?_
                                                                                      have e_230 : M_158 229 39 = M_126 229 39 := ((((f_161 229 39 (by omega))).trans (f_151 229 39 (by omega))).trans (f_142 229 39 (by omega))).trans (f_136 229 39 (by omega))
                                                                                      refine g_iast (n := 193) (q := i_157.toNat) hx (aX10_8 (b := 229) (by decide)) (dq tX10_begins 105 rfl) rfl (by omega) (by omega) (by omega) rfl (by omega) (by omega) (fun M_231 m_232e m_232 => ?_)
                                                                                      refine g_iinc (n := 196) (lv' := [(1, vI (i_157 + 1)), (0, aR Γ 229)]) hx 0 (dq tX10_begins 106 rfl) rfl (by decide) rfl rfl ?_
                                                                                      refine g_goto (n := 177) hx (dq tX10_begins 107 rfl) (by decide) ?_
                                                                                      have e_233 : M_231 229 39 = M_158 229 39 := (m_232 229 39 (by omega))
                                                                                      exact ih_160 _ (by omega) (i_157 + 1) M_231 (by omega) (by omega) (fun u_ v_ huv_ => ((m_232 u_ v_ (by omega)).trans (f_161 u_ v_ huv_))) rfl
                                                                                have e_234 : M_148 229 39 = M_126 229 39 := (((f_151 229 39 (by omega))).trans (f_142 229 39 (by omega))).trans (f_136 229 39 (by omega))
                                                                                exact L_159 _ 0 M_148 (by omega) (by omega) (fun _ _ _ => rfl) rfl
                                                                              · refine g_aload_n (n := 156) hx 1 (dq tX10_begins 82 rfl) rfl rfl ?_
                                                                                refine g_getR (n := 159) hx glX10_25 (sX10_6 (by decide)) (dq tX10_begins 83 rfl) rfl ?_
                                                                                refine g_iload_n (n := 160) hx 0 (dq tX10_begins 84 rfl) rfl rfl ?_
                                                                                refine g_iconst (n := 161) hx (dq tX10_begins 85 rfl) rfl ?_
                                                                                have e_235 : M_148 229 39 = M_126 229 39 := (((f_151 229 39 (by omega))).trans (f_142 229 39 (by omega))).trans (f_136 229 39 (by omega))
                                                                                refine g_iast (n := 162) (q := i_147.toNat) hx (aX10_6 (b := 229) (by decide)) (dq tX10_begins 86 rfl) rfl (by omega) (by omega) (by omega) rfl (by omega) (by omega) (fun M_236 m_237e m_237 => ?_)
                                                                                refine g_aload_n (n := 163) hx 1 (dq tX10_begins 87 rfl) rfl rfl ?_
                                                                                refine g_getR (n := 166) hx glX10_28 (sX10_7 (by decide)) (dq tX10_begins 88 rfl) rfl ?_
                                                                                refine g_iload_n (n := 167) hx 0 (dq tX10_begins 89 rfl) rfl rfl ?_
                                                                                refine g_iconst (n := 168) hx (dq tX10_begins 90 rfl) rfl ?_
                                                                                have e_238 : M_236 229 39 = M_148 229 39 := (m_237 229 39 (by omega))
                                                                                refine g_iast (n := 169) (q := i_147.toNat) hx (aX10_7 (b := 229) (by decide)) (dq tX10_begins 91 rfl) rfl (by omega) (by omega) (by omega) rfl (by omega) (by omega) (fun M_239 m_240e m_240 => ?_)
                                                                                refine g_iinc (n := 172) (lv' := [(1, vI (i_147 + 1)), (0, aR Γ 229)]) hx 0 (dq tX10_begins 92 rfl) rfl (by decide) rfl rfl ?_
                                                                                refine g_goto (n := 149) hx (dq tX10_begins 93 rfl) (by decide) ?_
                                                                                have e_241 : M_239 229 39 = M_236 229 39 := (m_240 229 39 (by omega))
                                                                                exact ih_150 _ (by omega) (i_147 + 1) M_239 (by omega) (by omega) (fun u_ v_ huv_ => (((m_240 u_ v_ (by omega)).trans (m_237 u_ v_ (by omega))).trans (f_151 u_ v_ ⟨huv_.1, huv_.2⟩))) (Vr.go h_153 (by omega) rfl (((m_240 (229 + 6) i_147.toNat (by omega))).trans m_237e) (fun j hj => ((m_240 (229 + 6) j (by omega)).trans (m_237 (229 + 6) j (by omega))))) rfl
                                                                          have e_242 : M_139 229 39 = M_126 229 39 := ((f_142 229 39 (by omega))).trans (f_136 229 39 (by omega))
                                                                          exact L_149 _ 0 M_139 (by omega) (by omega) (fun _ _ _ => rfl) Vr.nil rfl
                                                                        · refine g_aload_n (n := 135) hx 1 (dq tX10_begins 70 rfl) rfl rfl ?_
                                                                          refine g_getR (n := 138) hx glX10_16 (sX10_3 (by decide)) (dq tX10_begins 71 rfl) rfl ?_
                                                                          refine g_iload_n (n := 139) hx 0 (dq tX10_begins 72 rfl) rfl rfl ?_
                                                                          refine g_iconst (n := 140) hx (dq tX10_begins 73 rfl) rfl ?_
                                                                          have e_243 : M_139 229 39 = M_126 229 39 := ((f_142 229 39 (by omega))).trans (f_136 229 39 (by omega))
                                                                          refine g_iast (n := 141) (q := i_138.toNat) hx (aX10_3 (b := 229) (by decide)) (dq tX10_begins 74 rfl) rfl (by omega) (by omega) (by omega) rfl (by omega) (by omega) (fun M_244 m_245e m_245 => ?_)
                                                                          refine g_iinc (n := 144) (lv' := [(1, vI (i_138 + 1)), (0, aR Γ 229)]) hx 0 (dq tX10_begins 75 rfl) rfl (by decide) rfl rfl ?_
                                                                          refine g_goto (n := 128) hx (dq tX10_begins 76 rfl) (by decide) ?_
                                                                          have e_246 : M_244 229 39 = M_139 229 39 := (m_245 229 39 (by omega))
                                                                          exact ih_141 _ (by omega) (i_138 + 1) M_244 (by omega) (by omega) (fun u_ v_ huv_ => ((m_245 u_ v_ (by omega)).trans (f_142 u_ v_ huv_))) rfl
                                                                    have e_247 : M_133 229 39 = M_126 229 39 := (f_136 229 39 (by omega))
                                                                    exact L_140 _ 0 M_133 (by omega) (by omega) (fun _ _ _ => rfl) rfl
                                                                  · omega
                                                                · omega
                                                            · omega
                                                        · omega
                                                    · omega
                                                · omega
                                            · omega
                                        · omega
                                    · omega
                                · omega
                            · omega
                        · omega

abbrev qctX10_river (M : zM)  (z : Int) (M' : zM) : Prop := (∀ u_ v_, (u_ ≠ 229 ∨ v_ ≠ 37) ∧ (u_ ≠ 229 ∨ v_ ≠ 38) ∧ (u_ ≠ 229 ∨ v_ ≠ 39) ∧ (u_ ≠ 229 ∨ v_ ≠ 42) ∧ (u_ ≠ 229 ∨ v_ ≠ 43) ∧ (u_ ≠ 229 ∨ v_ ≠ 44) ∧ (u_ ≠ 229 ∨ v_ ≠ 47) ∧ (u_ ≠ 229 + 1 ∨ v_ < 0 ∨ 16 ≤ v_) ∧ (u_ < 229 + 2 ∨ 229 + 19 ≤ u_) ∧ (u_ < 229 + 29 ∨ 229 + 37 ≤ u_) → M' u_ v_ = M u_ v_) ∧ Gm M' ∧ On M' ∧ Rl M' ∧ (M' (229 + 1) 7 ≤ 9999)
set_option maxHeartbeats 4000000 in
set_option maxRecDepth 100000 in
theorem ctX10_river (Γ : Gam) (M : zM)  (pre0 : M (229 + 1) 7 ≤ 9999) (gm : Gm M) (on : On M) (rl : Rl M) : CtI Γ yX10_river cX10_river 3 (some .int) 7 159 [aR Γ 229] M (qctX10_river M) := by
  refine met_i (by decide) (Nat.le_of_ble_eq_true rfl) (fun x hx hr => ?_)
  show G Γ x 3 (QI Γ x (qctX10_river M)) M 0 [(0, aR Γ 229)] []
  refine g_iv (fun hI0 => ?_)
  have hI_37 : (0 : Int) ≤ M 229 37 ∧ M 229 37 ≤ 400 := hI0 229 37
  have hI_38 : (0 : Int) ≤ M 229 38 ∧ M 229 38 ≤ 402 := hI0 229 38
  have hI_45 : (0 : Int) ≤ M 229 45 ∧ M 229 45 ≤ 402 := hI0 229 45
  have hI_42 : (0 : Int) ≤ M 229 42 ∧ M 229 42 ≤ 300 := hI0 229 42
  have hI_39 : (0 : Int) ≤ M 229 39 ∧ M 229 39 ≤ 100000 := hI0 229 39
  have hI_40 : (0 : Int) ≤ M 229 40 ∧ M 229 40 ≤ 5 := hI0 229 40
  have hI_41 : (0 : Int) ≤ M 229 41 ∧ M 229 41 ≤ 6 := hI0 229 41
  clear hI0
  refine g_aload_n (n := 1) hx 0 (dq tX10_river 0 rfl) rfl rfl ?_
  refine g_callVv (n := 4) (As := []) (rest := []) hx (ctX10_starts Γ M ) mlX10_372 (obX10 (by decide)) (dq tX10_river 1 rfl) rfl (Nat.le_of_ble_eq_true rfl) (Nat.le_of_ble_eq_true rfl) (Nat.le_of_ble_eq_true rfl) rfl (fun M_2 p_4 => ?_)
  obtain ⟨f_5, h_6, h_7, h_8, h_9⟩ := p_4
  have g_10 : Gm M_2 := Gm.frame gm (fun c j hcj => f_5 c j (by omega))
  have g_11 : On M_2 := On.frame on (fun c j hcj => f_5 c j (by omega))
  have g_12 : Rl M_2 := Rl.frame rl (fun c j hcj => f_5 c j (by omega))
  refine g_aload_n (n := 5) hx 0 (dq tX10_river 2 rfl) rfl rfl ?_
  refine g_iconst (n := 6) hx (dq tX10_river 3 rfl) rfl ?_
  have e_13 : M_2 229 37 = M 229 37 := (f_5 229 37 (by omega))
  have e_14 : M_2 (229 + 1) 7 = M (229 + 1) 7 := (f_5 (229 + 1) 7 (by omega))
  refine g_putZ (n := 9) hx plX10_354 (sX10_47 (by decide)) (dq tX10_river 4 rfl) rfl (by omega) (by omega) (by omega) (fun M_15 m_16e m_16 => ?_)
  have g_17 : Gm M_15 := Gm.frame g_10 (fun c j hcj => m_16 c j (by omega))
  have g_18 : On M_15 := On.frame g_11 (fun c j hcj => m_16 c j (by omega))
  have g_19 : Rl M_15 := Rl.frame g_12 (fun c j hcj => m_16 c j (by omega))
  refine g_iconst (n := 10) hx (dq tX10_river 5 rfl) rfl ?_
  refine g_istore_n (n := 11) (lv' := [(1, vI 0), (0, aR Γ 229)]) hx (dq tX10_river 6 rfl) (by decide) rfl rfl ?_
  refine g_iload_n (n := 12) hx 0 (dq tX10_river 7 rfl) rfl rfl ?_
  refine g_iconst (n := 13) hx (dq tX10_river 8 rfl) rfl ?_
  refine g_icmp_ge (n := 16) (t := 29) hx (dq tX10_river 9 rfl) (by decide) rfl ⟨by decide, by decide⟩ ⟨by decide, by decide⟩ (fun c_20 => ?_) (fun c_20 => ?_)
  · omega
  · refine g_aload_n (n := 17) hx 1 (dq tX10_river 10 rfl) rfl rfl ?_
    refine g_getR (n := 20) hx glX10_94 (sX10_29 (by decide)) (dq tX10_river 11 rfl) rfl ?_
    refine g_iload_n (n := 21) hx 0 (dq tX10_river 12 rfl) rfl rfl ?_
    refine g_iconst (n := 22) hx (dq tX10_river 13 rfl) rfl ?_
    have e_21 : M_15 229 37 = M_2 229 37 := (m_16 229 37 (by omega))
    have e_22 : M_15 229 38 = M_2 229 38 := (m_16 229 38 (by omega))
    have e_23 : M_15 229 39 = M_2 229 39 := (m_16 229 39 (by omega))
    have e_24 : M_15 (229 + 1) 7 = M_2 (229 + 1) 7 := (m_16 (229 + 1) 7 (by omega))
    refine g_iastX (n := 23) (q := 0) hx (aX10_29 (b := 229) (by decide)) (dq tX10_river 14 rfl) rfl (by decide) (by decide) (by decide) rfl (show (-2147483648) ≤ 0 by omega) (show 0 ≤ 2147483647 by omega) (fun M_25 m_26e m_26 => ?_)
    have g_27 : Gm M_25 := Gm.frame g_17 (fun c j hcj => m_26 c j (by omega))
    have g_28 : On M_25 := On.frame g_18 (fun c j hcj => m_26 c j (by omega))
    have g_29 : Rl M_25 := Rl.frame g_19 (fun c j hcj => m_26 c j (by omega))
    refine g_iinc (n := 26) (lv' := [(1, vI 1), (0, aR Γ 229)]) hx 0 (dq tX10_river 15 rfl) rfl (by decide) rfl rfl ?_
    refine g_goto (n := 11) hx (dq tX10_river 16 rfl) (by decide) ?_
    refine g_iload_n (n := 12) hx 0 (dq tX10_river 7 rfl) rfl rfl ?_
    refine g_iconst (n := 13) hx (dq tX10_river 8 rfl) rfl ?_
    refine g_icmp_ge (n := 16) (t := 29) hx (dq tX10_river 9 rfl) (by decide) rfl ⟨by decide, by decide⟩ ⟨by decide, by decide⟩ (fun c_30 => ?_) (fun c_30 => ?_)
    · omega
    · refine g_aload_n (n := 17) hx 1 (dq tX10_river 10 rfl) rfl rfl ?_
      refine g_getR (n := 20) hx glX10_94 (sX10_29 (by decide)) (dq tX10_river 11 rfl) rfl ?_
      refine g_iload_n (n := 21) hx 0 (dq tX10_river 12 rfl) rfl rfl ?_
      refine g_iconst (n := 22) hx (dq tX10_river 13 rfl) rfl ?_
      have e_31 : M_25 229 37 = M_15 229 37 := (m_26 229 37 (by omega))
      have e_32 : M_25 229 38 = M_15 229 38 := (m_26 229 38 (by omega))
      have e_33 : M_25 229 39 = M_15 229 39 := (m_26 229 39 (by omega))
      have e_34 : M_25 (229 + 1) 7 = M_15 (229 + 1) 7 := (m_26 (229 + 1) 7 (by omega))
      refine g_iastX (n := 23) (q := 1) hx (aX10_29 (b := 229) (by decide)) (dq tX10_river 14 rfl) rfl (by decide) (by decide) (by decide) rfl (show 0 ≤ 0 by omega) (show 0 ≤ 6 by omega) (fun M_35 m_36e m_36 => ?_)
      have g_37 : Gm M_35 := Gm.frame g_27 (fun c j hcj => m_36 c j (by omega))
      have g_38 : On M_35 := On.frame g_28 (fun c j hcj => m_36 c j (by omega))
      have g_39 : Rl M_35 := Rl.frame g_29 (fun c j hcj => m_36 c j (by omega))
      refine g_iinc (n := 26) (lv' := [(1, vI 2), (0, aR Γ 229)]) hx 0 (dq tX10_river 15 rfl) rfl (by decide) rfl rfl ?_
      refine g_goto (n := 11) hx (dq tX10_river 16 rfl) (by decide) ?_
      refine g_iload_n (n := 12) hx 0 (dq tX10_river 7 rfl) rfl rfl ?_
      refine g_iconst (n := 13) hx (dq tX10_river 8 rfl) rfl ?_
      refine g_icmp_ge (n := 16) (t := 29) hx (dq tX10_river 9 rfl) (by decide) rfl ⟨by decide, by decide⟩ ⟨by decide, by decide⟩ (fun c_40 => ?_) (fun c_40 => ?_)
      · omega
      · refine g_aload_n (n := 17) hx 1 (dq tX10_river 10 rfl) rfl rfl ?_
        refine g_getR (n := 20) hx glX10_94 (sX10_29 (by decide)) (dq tX10_river 11 rfl) rfl ?_
        refine g_iload_n (n := 21) hx 0 (dq tX10_river 12 rfl) rfl rfl ?_
        refine g_iconst (n := 22) hx (dq tX10_river 13 rfl) rfl ?_
        have e_41 : M_35 229 37 = M_25 229 37 := (m_36 229 37 (by omega))
        have e_42 : M_35 229 38 = M_25 229 38 := (m_36 229 38 (by omega))
        have e_43 : M_35 229 39 = M_25 229 39 := (m_36 229 39 (by omega))
        have e_44 : M_35 (229 + 1) 7 = M_25 (229 + 1) 7 := (m_36 (229 + 1) 7 (by omega))
        refine g_iastX (n := 23) (q := 2) hx (aX10_29 (b := 229) (by decide)) (dq tX10_river 14 rfl) rfl (by decide) (by decide) (by decide) rfl (show 0 ≤ 0 by omega) (show 0 ≤ 4 by omega) (fun M_45 m_46e m_46 => ?_)
        have g_47 : Gm M_45 := Gm.frame g_37 (fun c j hcj => m_46 c j (by omega))
        have g_48 : On M_45 := On.frame g_38 (fun c j hcj => m_46 c j (by omega))
        have g_49 : Rl M_45 := Rl.frame g_39 (fun c j hcj => m_46 c j (by omega))
        refine g_iinc (n := 26) (lv' := [(1, vI 3), (0, aR Γ 229)]) hx 0 (dq tX10_river 15 rfl) rfl (by decide) rfl rfl ?_
        refine g_goto (n := 11) hx (dq tX10_river 16 rfl) (by decide) ?_
        refine g_iload_n (n := 12) hx 0 (dq tX10_river 7 rfl) rfl rfl ?_
        refine g_iconst (n := 13) hx (dq tX10_river 8 rfl) rfl ?_
        refine g_icmp_ge (n := 16) (t := 29) hx (dq tX10_river 9 rfl) (by decide) rfl ⟨by decide, by decide⟩ ⟨by decide, by decide⟩ (fun c_50 => ?_) (fun c_50 => ?_)
        · omega
        · refine g_aload_n (n := 17) hx 1 (dq tX10_river 10 rfl) rfl rfl ?_
          refine g_getR (n := 20) hx glX10_94 (sX10_29 (by decide)) (dq tX10_river 11 rfl) rfl ?_
          refine g_iload_n (n := 21) hx 0 (dq tX10_river 12 rfl) rfl rfl ?_
          refine g_iconst (n := 22) hx (dq tX10_river 13 rfl) rfl ?_
          have e_51 : M_45 229 37 = M_35 229 37 := (m_46 229 37 (by omega))
          have e_52 : M_45 229 38 = M_35 229 38 := (m_46 229 38 (by omega))
          have e_53 : M_45 229 39 = M_35 229 39 := (m_46 229 39 (by omega))
          have e_54 : M_45 (229 + 1) 7 = M_35 (229 + 1) 7 := (m_46 (229 + 1) 7 (by omega))
          refine g_iastX (n := 23) (q := 3) hx (aX10_29 (b := 229) (by decide)) (dq tX10_river 14 rfl) rfl (by decide) (by decide) (by decide) rfl (show 0 ≤ 0 by omega) (show 0 ≤ 12 by omega) (fun M_55 m_56e m_56 => ?_)
          have g_57 : Gm M_55 := Gm.frame g_47 (fun c j hcj => m_56 c j (by omega))
          have g_58 : On M_55 := On.frame g_48 (fun c j hcj => m_56 c j (by omega))
          have g_59 : Rl M_55 := Rl.frame g_49 (fun c j hcj => m_56 c j (by omega))
          refine g_iinc (n := 26) (lv' := [(1, vI 4), (0, aR Γ 229)]) hx 0 (dq tX10_river 15 rfl) rfl (by decide) rfl rfl ?_
          refine g_goto (n := 11) hx (dq tX10_river 16 rfl) (by decide) ?_
          refine g_iload_n (n := 12) hx 0 (dq tX10_river 7 rfl) rfl rfl ?_
          refine g_iconst (n := 13) hx (dq tX10_river 8 rfl) rfl ?_
          refine g_icmp_ge (n := 16) (t := 29) hx (dq tX10_river 9 rfl) (by decide) rfl ⟨by decide, by decide⟩ ⟨by decide, by decide⟩ (fun c_60 => ?_) (fun c_60 => ?_)
          · omega
          · refine g_aload_n (n := 17) hx 1 (dq tX10_river 10 rfl) rfl rfl ?_
            refine g_getR (n := 20) hx glX10_94 (sX10_29 (by decide)) (dq tX10_river 11 rfl) rfl ?_
            refine g_iload_n (n := 21) hx 0 (dq tX10_river 12 rfl) rfl rfl ?_
            refine g_iconst (n := 22) hx (dq tX10_river 13 rfl) rfl ?_
            have e_61 : M_55 229 37 = M_45 229 37 := (m_56 229 37 (by omega))
            have e_62 : M_55 229 38 = M_45 229 38 := (m_56 229 38 (by omega))
            have e_63 : M_55 229 39 = M_45 229 39 := (m_56 229 39 (by omega))
            have e_64 : M_55 (229 + 1) 7 = M_45 (229 + 1) 7 := (m_56 (229 + 1) 7 (by omega))
            refine g_iastX (n := 23) (q := 4) hx (aX10_29 (b := 229) (by decide)) (dq tX10_river 14 rfl) rfl (by decide) (by decide) (by decide) rfl (show (-2147483648) ≤ 0 by omega) (show 0 ≤ 2147483647 by omega) (fun M_65 m_66e m_66 => ?_)
            have g_67 : Gm M_65 := Gm.frame g_57 (fun c j hcj => m_66 c j (by omega))
            have g_68 : On M_65 := On.frame g_58 (fun c j hcj => m_66 c j (by omega))
            have g_69 : Rl M_65 := Rl.frame g_59 (fun c j hcj => m_66 c j (by omega))
            refine g_iinc (n := 26) (lv' := [(1, vI 5), (0, aR Γ 229)]) hx 0 (dq tX10_river 15 rfl) rfl (by decide) rfl rfl ?_
            refine g_goto (n := 11) hx (dq tX10_river 16 rfl) (by decide) ?_
            refine g_iload_n (n := 12) hx 0 (dq tX10_river 7 rfl) rfl rfl ?_
            refine g_iconst (n := 13) hx (dq tX10_river 8 rfl) rfl ?_
            refine g_icmp_ge (n := 16) (t := 29) hx (dq tX10_river 9 rfl) (by decide) rfl ⟨by decide, by decide⟩ ⟨by decide, by decide⟩ (fun c_70 => ?_) (fun c_70 => ?_)
            · refine g_iconst (n := 30) hx (dq tX10_river 17 rfl) rfl ?_
              refine g_istore_n (n := 31) (lv' := [(1, vI 0), (0, aR Γ 229)]) hx (dq tX10_river 18 rfl) (by decide) rfl rfl ?_
              have L_73 : ∀ (n_ : Nat) (i_71 : Int) (M_72 : zM), (0 ≤ i_71) → (i_71 ≤ 9) → (∀ u_ v_, u_ ≠ 229 + 30 → M_72 u_ v_ = M_65 u_ v_) → (Gm M_72) → (On M_72) → (Rl M_72) → ((9 - i_71).toNat = n_) → G Γ x 3 (QI Γ x (qctX10_river M)) M_72 31 [(1, vI i_71), (0, aR Γ 229)] [] := by
                intro n_
                induction n_ using Nat.strongRecOn with
                | _ n_ ih_74 =>
                  intro i_71 M_72 h_80 h_81 f_75 g_76 g_77 g_78 hm_79
                  refine g_iload_n (n := 32) hx 0 (dq tX10_river 19 rfl) rfl rfl ?_
                  refine g_bipush (n := 34) hx (dq tX10_river 20 rfl) rfl (by decide) ?_
                  refine g_icmp_ge (n := 37) (t := 51) hx (dq tX10_river 21 rfl) (by decide) rfl ⟨by omega, by omega⟩ ⟨by decide, by decide⟩ (fun c_82 => ?_) (fun c_82 => ?_)
                  · refine g_iconst (n := 52) hx (dq tX10_river 29 rfl) rfl ?_
                    refine g_istore_n (n := 53) (lv' := [(1, vI 0), (0, aR Γ 229)]) hx (dq tX10_river 30 rfl) (by decide) rfl rfl ?_
                    have e_r0 : M_72 (229 + 29) 0 = 0 := ((((((f_75 (229 + 29) 0 (by omega)).trans (m_66 (229 + 29) 0 (by omega))).trans (m_56 (229 + 29) 0 (by omega))).trans (m_46 (229 + 29) 0 (by omega))).trans (m_36 (229 + 29) 0 (by omega)))).trans m_26e
                    have e_r1 : M_72 (229 + 29) 1 = 0 := (((((f_75 (229 + 29) 1 (by omega)).trans (m_66 (229 + 29) 1 (by omega))).trans (m_56 (229 + 29) 1 (by omega))).trans (m_46 (229 + 29) 1 (by omega)))).trans m_36e
                    have e_r3 : M_72 (229 + 29) 3 = 0 := (((f_75 (229 + 29) 3 (by omega)).trans (m_66 (229 + 29) 3 (by omega)))).trans m_56e
                    have g_83 : Nw M_72 := Nw.nil e_r0 e_r1 e_r3
                    refine g_iconst (n := 54) hx (dq tX10_river 31 rfl) rfl ?_
                    refine g_istore_n (n := 55) (lv' := [(2, vI 1), (1, vI 0), (0, aR Γ 229)]) hx (dq tX10_river 32 rfl) (by decide) rfl rfl ?_
                    have L_87 : ∀ (n_ : Nat) (i_84 : Int) (i_85 : Int) (M_86 : zM), (0 ≤ i_84) → (i_84 ≤ 1) → (0 ≤ i_85) → (i_85 ≤ 402) → (∀ u_ v_, (u_ ≠ 229 ∨ v_ ≠ 38) ∧ (u_ ≠ 229 ∨ v_ ≠ 39) ∧ (u_ ≠ 229 ∨ v_ ≠ 47) ∧ (u_ < 229 + 29 ∨ 229 + 37 ≤ u_) → M_86 u_ v_ = M_72 u_ v_) → (Gm M_86) → (On M_86) → (Rl M_86) → (Nw M_86) → (i_84 = 1 → (M_86 229 39 = 0 ∧ M_86 229 38 ≤ M_86 229 37)) → (i_85 ≤ M_86 229 38) → (M_86 229 38 ≤ 402) → (i_84 = 1 → M_86 229 38 ≤ 400) → ((403 - M_86 229 38).toNat = n_) → G Γ x 3 (QI Γ x (qctX10_river M)) M_86 55 [(2, vI i_84), (1, vI i_85), (0, aR Γ 229)] [] := by
                      intro n_
                      induction n_ using Nat.strongRecOn with
                      | _ n_ ih_88 =>
                        intro i_84 i_85 M_86 h_99 h_100 h_101 h_102 f_89 g_90 g_91 g_92 g_93 h_95 h_96 h_97 h_98 hm_94
                        refine g_iload_n (n := 56) hx 0 (dq tX10_river 33 rfl) rfl rfl ?_
                        refine g_if_eq (n := 59) (t := 75) hx (dq tX10_river 34 rfl) (by decide) rfl ⟨by omega, by omega⟩ (fun c_103 => ?_) (fun c_103 => ?_)
                        · refine g_aload_n (n := 76) hx 2 (dq tX10_river 43 rfl) rfl rfl ?_
                          refine g_iconst (n := 77) hx (dq tX10_river 44 rfl) rfl ?_
                          have e_104 : M_86 229 37 = M_55 229 37 := (((f_89 229 37 (by omega))).trans (f_75 229 37 (by omega))).trans (m_66 229 37 (by omega))
                          have e_105 : M_86 (229 + 1) 7 = M_55 (229 + 1) 7 := (((f_89 (229 + 1) 7 (by omega))).trans (f_75 (229 + 1) 7 (by omega))).trans (m_66 (229 + 1) 7 (by omega))
                          refine g_putI (n := 80) hx plX10_216 (sX10_37 (by decide)) (dq tX10_river 45 rfl) rfl (by omega) (by omega) (fun M_106 m_107e m_107 => ?_)
                          have g_108 : Gm M_106 := Gm.frame g_90 (fun c j hcj => m_107 c j (by omega))
                          have g_109 : On M_106 := On.frame g_91 (fun c j hcj => m_107 c j (by omega))
                          have g_110 : Rl M_106 := Rl.frame g_92 (fun c j hcj => m_107 c j (by omega))
                          have g_111 : Nw M_106 := Nw.gen g_93 (by have q39 := m_107 229 39 (by omega); omega) (fun j hj => m_107 _ j (by omega)) (fun v hv => m_107 _ v (by omega)) (fun l hl => m_107 _ l (by omega)) (fun l hl => m_107 _ l (by omega))
                          refine g_aload_n (n := 81) hx 2 (dq tX10_river 46 rfl) rfl rfl ?_
                          refine g_getI (n := 84) hx glX10_246 (sX10_39 (by decide)) (dq tX10_river 47 rfl) rfl (fun h_112l h_112u => ?_)
                          have e_113 : M_106 229 39 = M_86 229 39 := (m_107 229 39 (by omega))
                          refine g_if_le (n := 87) (t := 95) hx (dq tX10_river 48 rfl) (by decide) rfl (zrI h_112l h_112u (by decide) (by decide)) (fun c_114 => ?_) (fun c_114 => ?_)
                          · refine g_aload_n (n := 96) hx 2 (dq tX10_river 54 rfl) rfl rfl ?_
                            have e_115 : M_106 229 38 = M_86 229 38 := (m_107 229 38 (by omega))
                            have e_116 : M_106 (229 + 1) 7 = M_86 (229 + 1) 7 := (m_107 (229 + 1) 7 (by omega))
                            refine g_callVv (n := 99) (As := []) (rest := []) hx (ctX10_begins Γ M_106 (by omega) g_108 g_111 g_110) mlX10_381 (obX10 (by decide)) (dq tX10_river 55 rfl) rfl (Nat.le_of_ble_eq_true rfl) (Nat.le_of_ble_eq_true rfl) (Nat.le_of_ble_eq_true rfl) rfl (fun M_118 p_120 => ?_)
                            obtain ⟨f_121, h_122, h_123, h_124, h_125⟩ := p_120
                            refine g_aload_n (n := 100) hx 2 (dq tX10_river 56 rfl) rfl rfl ?_
                            refine g_getR (n := 103) hx glX10_9 (sX10_1 (by decide)) (dq tX10_river 57 rfl) rfl ?_
                            refine g_iconst (n := 104) hx (dq tX10_river 58 rfl) rfl ?_
                            refine g_ialdX (n := 105) (q := 3) hx (aX10_1 (b := 229) (by decide)) (dq tX10_river 59 rfl) rfl (by decide) (by decide) (by decide) rfl (fun h_127l h_127u => ?_)
                            have h_127l : 0 ≤ M_118 (229 + 1) 3 := h_127l
                            have h_127u : M_118 (229 + 1) 3 ≤ 12 := h_127u
                            have e_128 : M_118 229 37 = M_106 229 37 := (f_121 229 37 (by omega))
                            have e_129 : M_118 229 38 = M_106 229 38 := (f_121 229 38 (by omega))
                            have e_130 : M_118 229 39 = M_106 229 39 := (f_121 229 39 (by omega))
                            exact g_iret hx hr (dq tX10_river 60 rfl) (zrI h_127l h_127u (by decide) (by decide)) ⟨(fun u_ v_ huv_ => (((((((((((f_121 u_ v_ ⟨huv_.2.2.2.2.2.2.2.1, huv_.2.2.2.2.2.2.2.2.1⟩).trans (m_107 u_ v_ huv_.1)).trans (f_89 u_ v_ ⟨huv_.2.1, huv_.2.2.1, huv_.2.2.2.2.2.2.1, huv_.2.2.2.2.2.2.2.2.2⟩)).trans (f_75 u_ v_ (by have q9 := huv_.2.2.2.2.2.2.2.2.2; clear huv_; omega))).trans (m_66 u_ v_ (by have q9 := huv_.2.2.2.2.2.2.2.2.2; clear huv_; omega))).trans (m_56 u_ v_ (by have q9 := huv_.2.2.2.2.2.2.2.2.2; clear huv_; omega))).trans (m_46 u_ v_ (by have q9 := huv_.2.2.2.2.2.2.2.2.2; clear huv_; omega))).trans (m_36 u_ v_ (by have q9 := huv_.2.2.2.2.2.2.2.2.2; clear huv_; omega))).trans (m_26 u_ v_ (by have q9 := huv_.2.2.2.2.2.2.2.2.2; clear huv_; omega))).trans (m_16 u_ v_ huv_.2.2.2.2.2.2.1)).trans (f_5 u_ v_ ⟨huv_.2.1, huv_.2.2.1, huv_.2.2.2.1, huv_.2.2.2.2.1, huv_.2.2.2.2.2.1⟩))), h_122, h_123, h_124, (by omega)⟩
                          · refine g_bipush (n := 89) hx (dq tX10_river 49 rfl) rfl (by decide) ?_
                            refine g_aload_n (n := 90) hx 2 (dq tX10_river 50 rfl) rfl rfl ?_
                            refine g_getI (n := 93) hx glX10_246 (sX10_39 (by decide)) (dq tX10_river 51 rfl) rfl (fun h_131l h_131u => ?_)
                            refine g_isub (n := 94) hx (dq tX10_river 52 rfl) rfl ?_
                            have e_132 : M_106 229 38 = M_86 229 38 := (m_107 229 38 (by omega))
                            have e_133 : M_106 (229 + 1) 7 = M_86 (229 + 1) 7 := (m_107 (229 + 1) 7 (by omega))
                            exact g_iret hx hr (dq tX10_river 53 rfl) ⟨by omega, by omega⟩ ⟨(fun u_ v_ huv_ => ((((((((((m_107 u_ v_ huv_.1).trans (f_89 u_ v_ ⟨huv_.2.1, huv_.2.2.1, huv_.2.2.2.2.2.2.1, huv_.2.2.2.2.2.2.2.2.2⟩)).trans (f_75 u_ v_ (by have q9 := huv_.2.2.2.2.2.2.2.2.2; clear huv_; omega))).trans (m_66 u_ v_ (by have q9 := huv_.2.2.2.2.2.2.2.2.2; clear huv_; omega))).trans (m_56 u_ v_ (by have q9 := huv_.2.2.2.2.2.2.2.2.2; clear huv_; omega))).trans (m_46 u_ v_ (by have q9 := huv_.2.2.2.2.2.2.2.2.2; clear huv_; omega))).trans (m_36 u_ v_ (by have q9 := huv_.2.2.2.2.2.2.2.2.2; clear huv_; omega))).trans (m_26 u_ v_ (by have q9 := huv_.2.2.2.2.2.2.2.2.2; clear huv_; omega))).trans (m_16 u_ v_ huv_.2.2.2.2.2.2.1)).trans (f_5 u_ v_ ⟨huv_.2.1, huv_.2.2.1, huv_.2.2.2.1, huv_.2.2.2.2.1, huv_.2.2.2.2.2.1⟩))), g_108, g_109, g_110, (by omega)⟩
                        · refine g_aload_n (n := 60) hx 2 (dq tX10_river 35 rfl) rfl rfl ?_
                          refine g_iload_n (n := 61) hx 1 (dq tX10_river 36 rfl) rfl rfl ?_
                          have e_134 : M_86 229 37 = M_55 229 37 := (((f_89 229 37 (by omega))).trans (f_75 229 37 (by omega))).trans (m_66 229 37 (by omega))
                          have e_135 : M_86 (229 + 1) 7 = M_55 (229 + 1) 7 := (((f_89 (229 + 1) 7 (by omega))).trans (f_75 (229 + 1) 7 (by omega))).trans (m_66 (229 + 1) 7 (by omega))
                          refine g_callVv (n := 64) (As := [vI i_85]) (rest := []) hx (ctX10_riverClause Γ M_86 i_85 (by omega) (by omega) (by omega) (by omega) g_93) mlX10_375 (obX10 (by decide)) (dq tX10_river 37 rfl) rfl (Nat.le_of_ble_eq_true rfl) (Nat.le_of_ble_eq_true rfl) (Nat.le_of_ble_eq_true rfl) rfl (fun M_137 p_139 => ?_)
                          obtain ⟨f_140, g_141, h_142, h_143⟩ := p_139
                          have g_144 : Gm M_137 := Gm.frame g_90 (fun c j hcj => f_140 c j (by omega))
                          have g_145 : On M_137 := On.frame g_91 (fun c j hcj => f_140 c j (by omega))
                          have g_146 : Rl M_137 := Rl.frame g_92 (fun c j hcj => f_140 c j (by omega))
                          refine g_iinc (n := 67) (lv' := [(1, vI (i_85 + 1)), (2, vI i_84), (0, aR Γ 229)]) hx 1 (dq tX10_river 38 rfl) rfl (by decide) rfl rfl ?_
                          refine g_aload_n (n := 68) hx 2 (dq tX10_river 39 rfl) rfl rfl ?_
                          have e_147 : M_137 229 37 = M_86 229 37 := (f_140 229 37 (by omega))
                          have e_148 : M_137 (229 + 1) 7 = M_86 (229 + 1) 7 := (f_140 (229 + 1) 7 (by omega))
                          refine g_callVi (n := 71) (As := []) (rest := []) hx (ctX10_goesOn Γ M_137 (by omega)) mlX10_378 (obX10 (by decide)) (dq tX10_river 40 rfl) rfl (Nat.le_of_ble_eq_true rfl) (Nat.le_of_ble_eq_true rfl) (Nat.le_of_ble_eq_true rfl) rfl (fun z_149 M_150 h_151 p_152 => ?_)
                          obtain ⟨f_153, b_154, h_155, h_156, h_157⟩ := p_152
                          have g_158 : Gm M_150 := Gm.frame g_144 (fun c j hcj => f_153 c j (by omega))
                          have g_159 : On M_150 := On.frame g_145 (fun c j hcj => f_153 c j (by omega))
                          have g_160 : Rl M_150 := Rl.frame g_146 (fun c j hcj => f_153 c j (by omega))
                          have g_161 : Nw M_150 := Nw.gen g_141 (by omega) (fun j hj => f_153 _ j (by omega)) (fun v hv => f_153 _ v (by omega)) (fun l hl => f_153 _ l (by omega)) (fun l hl => f_153 _ l (by omega))
                          refine g_istore_n (n := 72) (lv' := [(2, vI z_149), (1, vI (i_85 + 1)), (0, aR Γ 229)]) hx (dq tX10_river 41 rfl) (by decide) rfl rfl ?_
                          refine g_goto (n := 55) hx (dq tX10_river 42 rfl) (by decide) ?_
                          have e_164 : M_150 229 37 = M_137 229 37 := (f_153 229 37 (by omega))
                          have e_165 : M_150 (229 + 1) 7 = M_137 (229 + 1) 7 := (f_153 (229 + 1) 7 (by omega))
                          exact ih_88 _ (by omega) z_149 (i_85 + 1) M_150 (by omega) (by omega) (by omega) (by omega) (fun u_ v_ huv_ => (((f_153 u_ v_ ⟨huv_.1, huv_.2.1⟩).trans (f_140 u_ v_ ⟨huv_.1, huv_.2.1, huv_.2.2.1, huv_.2.2.2⟩)).trans (f_89 u_ v_ ⟨huv_.1, huv_.2.1, huv_.2.2.1, huv_.2.2.2⟩))) g_158 g_159 g_160 g_161 (by first | assumption | omega) (by first | assumption | omega) (by first | assumption | omega) (by first | assumption | omega) rfl
                    have e_166 : M_72 229 37 = M_55 229 37 := ((f_75 229 37 (by omega))).trans (m_66 229 37 (by omega))
                    have e_167 : M_72 229 38 = M_55 229 38 := ((f_75 229 38 (by omega))).trans (m_66 229 38 (by omega))
                    have e_168 : M_72 229 39 = M_55 229 39 := ((f_75 229 39 (by omega))).trans (m_66 229 39 (by omega))
                    have e_169 : M_72 (229 + 1) 7 = M_55 (229 + 1) 7 := ((f_75 (229 + 1) 7 (by omega))).trans (m_66 (229 + 1) 7 (by omega))
                    exact L_87 _ 1 0 M_72 (by omega) (by omega) (by omega) (by omega) (fun _ _ _ => rfl) g_76 g_77 g_78 g_83 (by first | assumption | omega) (by first | assumption | omega) (by first | assumption | omega) (by first | assumption | omega) rfl
                  · refine g_aload_n (n := 38) hx 1 (dq tX10_river 22 rfl) rfl rfl ?_
                    refine g_getR (n := 41) hx glX10_97 (sX10_30 (by decide)) (dq tX10_river 23 rfl) rfl ?_
                    refine g_iload_n (n := 42) hx 0 (dq tX10_river 24 rfl) rfl rfl ?_
                    refine g_bipush (n := 44) hx (dq tX10_river 25 rfl) rfl (by decide) ?_
                    have e_170 : M_72 229 37 = M_55 229 37 := ((f_75 229 37 (by omega))).trans (m_66 229 37 (by omega))
                    have e_171 : M_72 229 38 = M_55 229 38 := ((f_75 229 38 (by omega))).trans (m_66 229 38 (by omega))
                    have e_172 : M_72 229 39 = M_55 229 39 := ((f_75 229 39 (by omega))).trans (m_66 229 39 (by omega))
                    have e_173 : M_72 (229 + 1) 7 = M_55 (229 + 1) 7 := ((f_75 (229 + 1) 7 (by omega))).trans (m_66 (229 + 1) 7 (by omega))
                    refine g_iast (n := 45) (q := i_71.toNat) hx (aX10_30 (b := 229) (by decide)) (dq tX10_river 26 rfl) rfl (by omega) (by omega) (by omega) rfl (by omega) (by omega) (fun M_174 m_175e m_175 => ?_)
                    have g_176 : Gm M_174 := Gm.frame g_76 (fun c j hcj => m_175 c j (by omega))
                    have g_177 : On M_174 := On.frame g_77 (fun c j hcj => m_175 c j (by omega))
                    have g_178 : Rl M_174 := Rl.frame g_78 (fun c j hcj => m_175 c j (by omega))
                    refine g_iinc (n := 48) (lv' := [(1, vI (i_71 + 1)), (0, aR Γ 229)]) hx 0 (dq tX10_river 27 rfl) rfl (by decide) rfl rfl ?_
                    refine g_goto (n := 31) hx (dq tX10_river 28 rfl) (by decide) ?_
                    have e_179 : M_174 229 37 = M_72 229 37 := (m_175 229 37 (by omega))
                    have e_180 : M_174 229 38 = M_72 229 38 := (m_175 229 38 (by omega))
                    have e_181 : M_174 229 39 = M_72 229 39 := (m_175 229 39 (by omega))
                    have e_182 : M_174 (229 + 1) 7 = M_72 (229 + 1) 7 := (m_175 (229 + 1) 7 (by omega))
                    exact ih_74 _ (by omega) (i_71 + 1) M_174 (by omega) (by omega) (fun u_ v_ huv_ => ((m_175 u_ v_ (by omega)).trans (f_75 u_ v_ huv_))) g_176 g_177 g_178 rfl
              have e_183 : M_65 229 37 = M_55 229 37 := (m_66 229 37 (by omega))
              have e_184 : M_65 229 38 = M_55 229 38 := (m_66 229 38 (by omega))
              have e_185 : M_65 229 39 = M_55 229 39 := (m_66 229 39 (by omega))
              have e_186 : M_65 (229 + 1) 7 = M_55 (229 + 1) 7 := (m_66 (229 + 1) 7 (by omega))
              exact L_73 _ 0 M_65 (by omega) (by omega) (fun _ _ _ => rfl) g_67 g_68 g_69 rfl
            · omega
