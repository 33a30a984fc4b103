abbrev qctX10_jams1 (M : zM) (l : Int) (M' : zM) : Prop := (∀ u_ v_, (u_ ≠ 229 ∨ v_ ≠ 61) ∧ (u_ ≠ 229 ∨ v_ ≠ 66) ∧ (u_ ≠ 229 + 1 ∨ v_ ≠ 13) ∧ u_ ≠ 229 + 13 ∧ u_ ≠ 229 + 14 ∧ u_ ≠ 229 + 15 → M' u_ v_ = M u_ v_)
set_option maxHeartbeats 4000000 in
set_option maxRecDepth 100000 in
theorem ctX10_jams1 (Γ : Gam) (M : zM) (l : Int) (hll : 0 ≤ l) (hlu : l ≤ 11)  : CtV Γ yX10_jams1 cX10_jams1 2 none 0 0 [aR Γ 229, vI l] M (qctX10_jams1 M l) := by
  refine met_v (by decide) (Nat.le_of_ble_eq_true rfl) (fun x hx hr => ?_)
  show G Γ x 2 (QV Γ x (qctX10_jams1 M l)) M 0 [(0, aR Γ 229), (1, vI l)] []
  refine g_aload_n (n := 1) hx 0 (dq tX10_jams1 0 rfl) rfl rfl ?_
  refine g_getR (n := 4) hx glX10_49 (sX10_14 (by decide)) (dq tX10_jams1 1 rfl) rfl ?_
  refine g_iload_n (n := 5) hx 1 (dq tX10_jams1 2 rfl) rfl rfl ?_
  refine g_dup2 (n := 6) hx (dq tX10_jams1 3 rfl) rfl rfl rfl ?_
  refine g_iald (n := 7) (q := l.toNat) hx (aX10_14 (b := 229) (by decide)) (dq tX10_jams1 4 rfl) rfl (by omega) (by omega) (by omega) rfl (fun h_1l h_1u => ?_)
  refine g_iconst (n := 8) hx (dq tX10_jams1 5 rfl) rfl ?_
  refine g_iadd (n := 9) hx (dq tX10_jams1 6 rfl) rfl ?_
  refine g_any (fun z_2 h_3 => ?_)
  refine g_iast (n := 10) (q := l.toNat) hx (aX10_14 (b := 229) (by decide)) (dq tX10_jams1 7 rfl) rfl (by omega) (by omega) (by omega) rfl (by omega) (by omega) (fun M_4 m_5e m_5 => ?_)
  refine g_aload_n (n := 11) hx 0 (dq tX10_jams1 8 rfl) rfl rfl ?_
  refine g_getR (n := 14) hx glX10_52 (sX10_15 (by decide)) (dq tX10_jams1 9 rfl) rfl ?_
  refine g_iload_n (n := 15) hx 1 (dq tX10_jams1 10 rfl) rfl rfl ?_
  refine g_dup2 (n := 16) hx (dq tX10_jams1 11 rfl) rfl rfl rfl ?_
  refine g_iald (n := 17) (q := l.toNat) hx (aX10_15 (b := 229) (by decide)) (dq tX10_jams1 12 rfl) rfl (by omega) (by omega) (by omega) rfl (fun h_6l h_6u => ?_)
  refine g_iconst (n := 18) hx (dq tX10_jams1 13 rfl) rfl ?_
  refine g_iadd (n := 19) hx (dq tX10_jams1 14 rfl) rfl ?_
  refine g_any (fun z_7 h_8 => ?_)
  have e_9 : M_4 (229 + 1) 1 = M (229 + 1) 1 := (m_5 (229 + 1) 1 (by omega))
  have e_10 : M_4 (229 + 1) 3 = M (229 + 1) 3 := (m_5 (229 + 1) 3 (by omega))
  refine g_iast (n := 20) (q := l.toNat) hx (aX10_15 (b := 229) (by decide)) (dq tX10_jams1 15 rfl) rfl (by omega) (by omega) (by omega) rfl (by omega) (by omega) (fun M_11 m_12e m_12 => ?_)
  refine g_aload_n (n := 21) hx 0 (dq tX10_jams1 16 rfl) rfl rfl ?_
  refine g_getR (n := 24) hx glX10_9 (sX10_1 (by decide)) (dq tX10_jams1 17 rfl) rfl ?_
  refine g_bipush (n := 26) hx (dq tX10_jams1 18 rfl) rfl (by decide) ?_
  refine g_dup2 (n := 27) hx (dq tX10_jams1 19 rfl) rfl rfl rfl ?_
  refine g_ialdX (n := 28) (q := 13) hx (aX10_1 (b := 229) (by decide)) (dq tX10_jams1 20 rfl) rfl (by decide) (by decide) (by decide) rfl (fun h_13l h_13u => ?_)
  have h_13l : (-2147483648) ≤ M_11 (229 + 1) 13 := h_13l
  have h_13u : M_11 (229 + 1) 13 ≤ 2147483647 := h_13u
  refine g_iconst (n := 29) hx (dq tX10_jams1 21 rfl) rfl ?_
  refine g_iadd (n := 30) hx (dq tX10_jams1 22 rfl) rfl ?_
  refine g_any (fun z_14 h_15 => ?_)
  have e_16 : M_11 (229 + 1) 1 = M_4 (229 + 1) 1 := (m_12 (229 + 1) 1 (by omega))
  have e_17 : M_11 (229 + 1) 3 = M_4 (229 + 1) 3 := (m_12 (229 + 1) 3 (by omega))
  refine g_iastX (n := 31) (q := 13) hx (aX10_1 (b := 229) (by decide)) (dq tX10_jams1 23 rfl) rfl (by decide) (by decide) (by decide) rfl (show (-2147483648) ≤ z_14 by omega) (show z_14 ≤ 2147483647 by omega) (fun M_18 m_19e m_19 => ?_)
  refine g_aload_n (n := 32) hx 0 (dq tX10_jams1 24 rfl) rfl rfl ?_
  refine g_dup (n := 33) hx (dq tX10_jams1 25 rfl) rfl rfl ?_
  refine g_getI (n := 36) hx glX10_525 (sX10_61 (by decide)) (dq tX10_jams1 26 rfl) rfl (fun h_20l h_20u => ?_)
  refine g_iconst (n := 37) hx (dq tX10_jams1 27 rfl) rfl ?_
  refine g_iadd (n := 38) hx (dq tX10_jams1 28 rfl) rfl ?_
  refine g_any (fun z_21 h_22 => ?_)
  have e_23 : M_18 (229 + 1) 1 = M_11 (229 + 1) 1 := (m_19 (229 + 1) 1 (by omega))
  have e_24 : M_18 (229 + 1) 3 = M_11 (229 + 1) 3 := (m_19 (229 + 1) 3 (by omega))
  refine g_putI (n := 41) hx plX10_525 (sX10_61 (by decide)) (dq tX10_jams1 29 rfl) rfl (by omega) (by omega) (fun M_25 m_26e m_26 => ?_)
  refine g_aload_n (n := 42) hx 0 (dq tX10_jams1 30 rfl) rfl rfl ?_
  refine g_getR (n := 45) hx glX10_52 (sX10_15 (by decide)) (dq tX10_jams1 31 rfl) rfl ?_
  refine g_iload_n (n := 46) hx 1 (dq tX10_jams1 32 rfl) rfl rfl ?_
  refine g_iald (n := 47) (q := l.toNat) hx (aX10_15 (b := 229) (by decide)) (dq tX10_jams1 33 rfl) rfl (by omega) (by omega) (by omega) rfl (fun h_27l h_27u => ?_)
  refine g_iconst (n := 48) hx (dq tX10_jams1 34 rfl) rfl ?_
  refine g_icmp_ne (n := 51) (t := 87) hx (dq tX10_jams1 35 rfl) (by decide) rfl (zrI h_27l h_27u (by decide) (by decide)) ⟨by decide, by decide⟩ (fun c_28 => ?_) (fun c_28 => ?_)
  · have e_29 : M_25 (229 + 1) 1 = M_18 (229 + 1) 1 := (m_26 (229 + 1) 1 (by omega))
    have e_30 : M_25 (229 + 1) 3 = M_18 (229 + 1) 3 := (m_26 (229 + 1) 3 (by omega))
    exact g_vret hx hr (dq tX10_jams1 60 rfl) (fun u_ v_ huv_ => ((((m_26 u_ v_ (by omega)).trans (m_19 u_ v_ (by omega))).trans (m_12 u_ v_ (by omega))).trans (m_5 u_ v_ (by omega))))
  · refine g_aload_n (n := 52) hx 0 (dq tX10_jams1 36 rfl) rfl rfl ?_
    refine g_getR (n := 55) hx glX10_52 (sX10_15 (by decide)) (dq tX10_jams1 37 rfl) rfl ?_
    refine g_iload_n (n := 56) hx 1 (dq tX10_jams1 38 rfl) rfl rfl ?_
    refine g_iconst (n := 57) hx (dq tX10_jams1 39 rfl) rfl ?_
    have e_31 : M_25 (229 + 1) 1 = M_18 (229 + 1) 1 := (m_26 (229 + 1) 1 (by omega))
    have e_32 : M_25 (229 + 1) 3 = M_18 (229 + 1) 3 := (m_26 (229 + 1) 3 (by omega))
    refine g_iast (n := 58) (q := l.toNat) hx (aX10_15 (b := 229) (by decide)) (dq tX10_jams1 40 rfl) rfl (by omega) (by omega) (by omega) rfl (by omega) (by omega) (fun M_33 m_34e m_34 => ?_)
    refine g_aload_n (n := 59) hx 0 (dq tX10_jams1 41 rfl) rfl rfl ?_
    refine g_getR (n := 62) hx glX10_46 (sX10_13 (by decide)) (dq tX10_jams1 42 rfl) rfl ?_
    refine g_iload_n (n := 63) hx 1 (dq tX10_jams1 43 rfl) rfl rfl ?_
    refine g_iald (n := 64) (q := l.toNat) hx (aX10_13 (b := 229) (by decide)) (dq tX10_jams1 44 rfl) rfl (by omega) (by omega) (by omega) rfl (fun h_35l h_35u => ?_)
    refine g_if_le (n := 67) (t := 87) hx (dq tX10_jams1 45 rfl) (by decide) rfl (zrI h_35l h_35u (by decide) (by decide)) (fun c_36 => ?_) (fun c_36 => ?_)
    · have e_37 : M_33 (229 + 1) 1 = M_25 (229 + 1) 1 := (m_34 (229 + 1) 1 (by omega))
      have e_38 : M_33 (229 + 1) 3 = M_25 (229 + 1) 3 := (m_34 (229 + 1) 3 (by omega))
      exact g_vret hx hr (dq tX10_jams1 60 rfl) (fun u_ v_ huv_ => (((((m_34 u_ v_ (by omega)).trans (m_26 u_ v_ (by omega))).trans (m_19 u_ v_ (by omega))).trans (m_12 u_ v_ (by omega))).trans (m_5 u_ v_ (by omega))))
    · refine g_aload_n (n := 68) hx 0 (dq tX10_jams1 46 rfl) rfl rfl ?_
      refine g_getR (n := 71) hx glX10_46 (sX10_13 (by decide)) (dq tX10_jams1 47 rfl) rfl ?_
      refine g_iload_n (n := 72) hx 1 (dq tX10_jams1 48 rfl) rfl rfl ?_
      refine g_dup2 (n := 73) hx (dq tX10_jams1 49 rfl) rfl rfl rfl ?_
      refine g_iald (n := 74) (q := l.toNat) hx (aX10_13 (b := 229) (by decide)) (dq tX10_jams1 50 rfl) rfl (by omega) (by omega) (by omega) rfl (fun h_39l h_39u => ?_)
      refine g_iconst (n := 75) hx (dq tX10_jams1 51 rfl) rfl ?_
      refine g_isub (n := 76) hx (dq tX10_jams1 52 rfl) rfl ?_
      have e_40 : M_33 (229 + 1) 1 = M_25 (229 + 1) 1 := (m_34 (229 + 1) 1 (by omega))
      have e_41 : M_33 (229 + 1) 3 = M_25 (229 + 1) 3 := (m_34 (229 + 1) 3 (by omega))
      refine g_iast (n := 77) (q := l.toNat) hx (aX10_13 (b := 229) (by decide)) (dq tX10_jams1 53 rfl) rfl (by omega) (by omega) (by omega) rfl (by omega) (by omega) (fun M_42 m_43e m_43 => ?_)
      refine g_aload_n (n := 78) hx 0 (dq tX10_jams1 54 rfl) rfl rfl ?_
      refine g_dup (n := 79) hx (dq tX10_jams1 55 rfl) rfl rfl ?_
      refine g_getI (n := 82) hx glX10_540 (sX10_66 (by decide)) (dq tX10_jams1 56 rfl) rfl (fun h_44l h_44u => ?_)
      refine g_iconst (n := 83) hx (dq tX10_jams1 57 rfl) rfl ?_
      refine g_iadd (n := 84) hx (dq tX10_jams1 58 rfl) rfl ?_
      refine g_any (fun z_45 h_46 => ?_)
      have e_47 : M_42 (229 + 1) 1 = M_33 (229 + 1) 1 := (m_43 (229 + 1) 1 (by omega))
      have e_48 : M_42 (229 + 1) 3 = M_33 (229 + 1) 3 := (m_43 (229 + 1) 3 (by omega))
      refine g_putI (n := 87) hx plX10_540 (sX10_66 (by decide)) (dq tX10_jams1 59 rfl) rfl (by omega) (by omega) (fun M_49 m_50e m_50 => ?_)
      have e_51 : M_49 (229 + 1) 1 = M_42 (229 + 1) 1 := (m_50 (229 + 1) 1 (by omega))
      have e_52 : M_49 (229 + 1) 3 = M_42 (229 + 1) 3 := (m_50 (229 + 1) 3 (by omega))
      exact g_vret hx hr (dq tX10_jams1 60 rfl) (fun u_ v_ huv_ => (((((((m_50 u_ v_ (by omega)).trans (m_43 u_ v_ (by omega))).trans (m_34 u_ v_ (by omega))).trans (m_26 u_ v_ (by omega))).trans (m_19 u_ v_ (by omega))).trans (m_12 u_ v_ (by omega))).trans (m_5 u_ v_ (by omega))))

abbrev qctX10_ownerAtMouth (M : zM) (l : Int) (z : Int) (M' : zM) : Prop := (∀ u_ v_, u_ ≠ 229 + 12 → M' u_ v_ = M u_ v_) ∧ Gm M' ∧ Rl M' ∧ (-1) ≤ z ∧ z ≤ 5
set_option maxHeartbeats 4000000 in
set_option maxRecDepth 100000 in
theorem ctX10_ownerAtMouth (Γ : Gam) (M : zM) (l : Int) (hll : 0 ≤ l) (hlu : l ≤ 11) (pre0 : l < M (229 + 1) 3) (gm : Gm M) (rl : Rl M) : CtI Γ yX10_ownerAtMouth cX10_ownerAtMouth 2 (some .int) 7 166 [aR Γ 229, vI l] M (qctX10_ownerAtMouth M l) := by
  refine met_i (by decide) (Nat.le_of_ble_eq_true rfl) (fun x hx hr => ?_)
  show G Γ x 2 (QI Γ x (qctX10_ownerAtMouth M l)) M 0 [(0, aR Γ 229), (1, vI l)] []
  refine g_aload_n (n := 1) hx 0 (dq tX10_ownerAtMouth 0 rfl) rfl rfl ?_
  refine g_getR (n := 4) hx glX10_43 (sX10_12 (by decide)) (dq tX10_ownerAtMouth 1 rfl) rfl ?_
  refine g_iload_n (n := 5) hx 1 (dq tX10_ownerAtMouth 2 rfl) rfl rfl ?_
  refine g_bipush (n := 7) hx (dq tX10_ownerAtMouth 3 rfl) rfl (by decide) ?_
  refine g_iast (n := 8) (q := l.toNat) hx (aX10_12 (b := 229) (by decide)) (dq tX10_ownerAtMouth 4 rfl) rfl (by omega) (by omega) (by omega) rfl (by omega) (by omega) (fun M_1 m_2e m_2 => ?_)
  have g_3 := Gm.place gm m_2e m_2 (by unfold PlOk; omega)
  have g_4 : Rl M_1 := Rl.frame rl (fun c j hcj => m_2 c j (by omega))
  refine g_aload_n (n := 9) hx 0 (dq tX10_ownerAtMouth 5 rfl) rfl rfl ?_
  refine g_iload_n (n := 10) hx 1 (dq tX10_ownerAtMouth 6 rfl) rfl rfl ?_
  have e_5 : M_1 (229 + 1) 1 = M (229 + 1) 1 := (m_2 (229 + 1) 1 (by omega))
  have e_6 : M_1 (229 + 1) 3 = M (229 + 1) 3 := (m_2 (229 + 1) 3 (by omega))
  refine g_callVi (n := 13) (As := [vI l]) (rest := []) hx (ctX10_ownerOf Γ M_1 l (by omega) (by omega) (by omega) g_3 g_4) mlX10_464 (obX10 (by decide)) (dq tX10_ownerAtMouth 7 rfl) rfl (Nat.le_of_ble_eq_true rfl) (Nat.le_of_ble_eq_true rfl) (Nat.le_of_ble_eq_true rfl) rfl (fun z_7 M_8 h_9 p_10 => ?_)
  obtain ⟨rfl, h_12, h_13⟩ := p_10
  exact g_iret hx hr (dq tX10_ownerAtMouth 8 rfl) h_9 ⟨(fun u_ v_ huv_ => (m_2 u_ v_ (by omega))), g_3, g_4, (by omega), (by omega)⟩

abbrev qctX10_sells (M : zM) (l : Int) (M' : zM) : Prop := (∀ u_ v_, (u_ ≠ 229 ∨ v_ ≠ 62) ∧ (u_ ≠ 229 ∨ v_ ≠ 63) ∧ (u_ ≠ 229 + 1 ∨ v_ ≠ 9) ∧ u_ ≠ 229 + 7 ∧ u_ ≠ 229 + 12 → M' u_ v_ = M u_ v_) ∧ Gm M' ∧ Rl M'
set_option maxHeartbeats 4000000 in
set_option maxRecDepth 100000 in
theorem ctX10_sells (Γ : Gam) (M : zM) (l : Int) (hll : 0 ≤ l) (hlu : l ≤ 11) (pre0 : l < M (229 + 1) 3) (gm : Gm M) (rl : Rl M) : CtV Γ yX10_sells cX10_sells 6 none 8 187 [aR Γ 229, vI l] M (qctX10_sells M l) := by
  refine met_v (by decide) (Nat.le_of_ble_eq_true rfl) (fun x hx hr => ?_)
  show G Γ x 6 (QV Γ x (qctX10_sells M l)) M 0 [(0, aR Γ 229), (1, vI l)] []
  refine g_aload_n (n := 1) hx 0 (dq tX10_sells 0 rfl) rfl rfl ?_
  refine g_iload_n (n := 2) hx 1 (dq tX10_sells 1 rfl) rfl rfl ?_
  refine g_callVi (n := 5) (As := [vI l]) (rest := []) hx (ctX10_ownerAtMouth Γ M l (by omega) (by omega) (by omega) gm rl) mlX10_543 (obX10 (by decide)) (dq tX10_sells 2 rfl) rfl (Nat.le_of_ble_eq_true rfl) (Nat.le_of_ble_eq_true rfl) (Nat.le_of_ble_eq_true rfl) rfl (fun z_1 M_2 h_3 p_4 => ?_)
  obtain ⟨f_5, g_6, g_7, h_8, h_9⟩ := p_4
  refine g_istore_n (n := 6) (lv' := [(2, vI z_1), (0, aR Γ 229), (1, vI l)]) hx (dq tX10_sells 3 rfl) (by decide) rfl rfl ?_
  refine g_aload_n (n := 7) hx 1 (dq tX10_sells 4 rfl) rfl rfl ?_
  refine g_iload_n (n := 8) hx 2 (dq tX10_sells 5 rfl) rfl rfl ?_
  have e_10 : M_2 (229 + 1) 1 = M (229 + 1) 1 := (f_5 (229 + 1) 1 (by omega))
  have e_11 : M_2 (229 + 1) 3 = M (229 + 1) 3 := (f_5 (229 + 1) 3 (by omega))
  refine g_callVi (n := 11) (As := [vI l]) (rest := []) hx (ctX10_priceOf Γ M_2 l (by omega) (by omega) (by omega) g_6) mlX10_486 (obX10 (by decide)) (dq tX10_sells 6 rfl) rfl (Nat.le_of_ble_eq_true rfl) (Nat.le_of_ble_eq_true rfl) (Nat.le_of_ble_eq_true rfl) rfl (fun z_12 M_13 h_14 p_15 => ?_)
  obtain rfl := p_15
  refine g_istore_n (n := 12) (lv' := [(3, vI z_12), (2, vI z_1), (0, aR Γ 229), (1, vI l)]) hx (dq tX10_sells 7 rfl) (by decide) rfl rfl ?_
  refine g_aload_n (n := 13) hx 2 (dq tX10_sells 8 rfl) rfl rfl ?_
  refine g_dup (n := 14) hx (dq tX10_sells 9 rfl) rfl rfl ?_
  refine g_getI (n := 17) hx glX10_528 (sX10_62 (by decide)) (dq tX10_sells 10 rfl) rfl (fun h_17l h_17u => ?_)
  refine g_iconst (n := 18) hx (dq tX10_sells 11 rfl) rfl ?_
  refine g_iadd (n := 19) hx (dq tX10_sells 12 rfl) rfl ?_
  refine g_any (fun z_18 h_19 => ?_)
  refine g_putI (n := 22) hx plX10_528 (sX10_62 (by decide)) (dq tX10_sells 13 rfl) rfl (by omega) (by omega) (fun M_20 m_21e m_21 => ?_)
  have g_22 : Gm M_20 := Gm.frame g_6 (fun c j hcj => m_21 c j (by omega))
  have g_23 : Rl M_20 := Rl.frame g_7 (fun c j hcj => m_21 c j (by omega))
  refine g_aload_n (n := 23) hx 2 (dq tX10_sells 14 rfl) rfl rfl ?_
  refine g_dup (n := 24) hx (dq tX10_sells 15 rfl) rfl rfl ?_
  refine g_getI (n := 27) hx glX10_531 (sX10_63 (by decide)) (dq tX10_sells 16 rfl) rfl (fun h_24l h_24u => ?_)
  refine g_iload_n (n := 28) hx 0 (dq tX10_sells 17 rfl) rfl rfl ?_
  refine g_iadd (n := 29) hx (dq tX10_sells 18 rfl) rfl ?_
  refine g_any (fun z_25 h_26 => ?_)
  have e_27 : M_20 (229 + 1) 1 = M_2 (229 + 1) 1 := (m_21 (229 + 1) 1 (by omega))
  have e_28 : M_20 (229 + 1) 3 = M_2 (229 + 1) 3 := (m_21 (229 + 1) 3 (by omega))
  refine g_putI (n := 32) hx plX10_531 (sX10_63 (by decide)) (dq tX10_sells 19 rfl) rfl (by omega) (by omega) (fun M_29 m_30e m_30 => ?_)
  have g_31 : Gm M_29 := Gm.frame g_22 (fun c j hcj => m_30 c j (by omega))
  have g_32 : Rl M_29 := Rl.frame g_23 (fun c j hcj => m_30 c j (by omega))
  refine g_iload_n (n := 33) hx 1 (dq tX10_sells 20 rfl) rfl rfl ?_
  refine g_iconst (n := 34) hx (dq tX10_sells 21 rfl) rfl ?_
  refine g_icmp_eq (n := 37) (t := 48) hx (dq tX10_sells 22 rfl) (by decide) rfl h_3 ⟨by decide, by decide⟩ (fun c_33 => ?_) (fun c_33 => ?_)
  · refine g_aload_n (n := 49) hx 2 (dq tX10_sells 32 rfl) rfl rfl ?_
    refine g_getR (n := 52) hx glX10_9 (sX10_1 (by decide)) (dq tX10_sells 33 rfl) rfl ?_
    refine g_iconst (n := 53) hx (dq tX10_sells 34 rfl) rfl ?_
    refine g_ialdX (n := 54) (q := 1) hx (aX10_1 (b := 229) (by decide)) (dq tX10_sells 35 rfl) rfl (by decide) (by decide) (by decide) rfl (fun h_34l h_34u => ?_)
    have h_34l : 0 ≤ M_29 (229 + 1) 1 := h_34l
    have h_34u : M_29 (229 + 1) 1 ≤ 6 := h_34u
    have e_35 : M_29 (229 + 1) 1 = M_20 (229 + 1) 1 := (m_30 (229 + 1) 1 (by omega))
    have e_36 : M_29 (229 + 1) 3 = M_20 (229 + 1) 3 := (m_30 (229 + 1) 3 (by omega))
    have h_37 := g_31.2.2.2.2.2 (by omega)
    refine g_istore (n := 56) (lv' := [(4, vI (M_29 (229 + 1) 1)), (3, vI z_12), (2, vI z_1), (0, aR Γ 229), (1, vI l)]) hx (dq tX10_sells 36 rfl) (by decide) rfl rfl ?_
    refine g_iconst (n := 57) hx (dq tX10_sells 37 rfl) rfl ?_
    refine g_istore (n := 59) (lv' := [(5, vI 0), (4, vI (M_29 (229 + 1) 1)), (3, vI z_12), (2, vI z_1), (0, aR Γ 229), (1, vI l)]) hx (dq tX10_sells 38 rfl) (by decide) rfl rfl ?_
    have L_40 : ∀ (n_ : Nat) (i_38 : Int) (M_39 : zM), (0 ≤ i_38) → (i_38 ≤ 6) → (∀ u_ v_, u_ ≠ 229 + 7 → M_39 u_ v_ = M_29 u_ v_) → (Gm M_39) → (Rl M_39) → ((6 - i_38).toNat = n_) → G Γ x 6 (QV Γ x (qctX10_sells M l)) M_39 59 [(5, vI i_38), (4, vI (M_29 (229 + 1) 1)), (3, vI z_12), (2, vI z_1), (0, aR Γ 229), (1, vI l)] [] := by
      intro n_
      induction n_ using Nat.strongRecOn with
      | _ n_ ih_41 =>
        intro i_38 M_39 h_46 h_47 f_42 g_43 g_44 hm_45
        refine g_iload (n := 61) hx 0 (dq tX10_sells 39 rfl) rfl rfl ?_
        refine g_iload (n := 63) hx 1 (dq tX10_sells 40 rfl) rfl rfl ?_
        refine g_icmp_ge (n := 66) (t := 86) hx (dq tX10_sells 41 rfl) (by decide) rfl ⟨by omega, by omega⟩ (zrI h_34l h_34u (by decide) (by decide)) (fun c_48 => ?_) (fun c_48 => ?_)
        · refine g_aload_n (n := 87) hx 4 (dq tX10_sells 54 rfl) rfl rfl ?_
          refine g_getR (n := 90) hx glX10_9 (sX10_1 (by decide)) (dq tX10_sells 55 rfl) rfl ?_
          refine g_bipush (n := 92) hx (dq tX10_sells 56 rfl) rfl (by decide) ?_
          refine g_dup2 (n := 93) hx (dq tX10_sells 57 rfl) rfl rfl rfl ?_
          refine g_ialdX (n := 94) (q := 9) hx (aX10_1 (b := 229) (by decide)) (dq tX10_sells 58 rfl) rfl (by decide) (by decide) (by decide) rfl (fun h_49l h_49u => ?_)
          have h_49l : (-2147483648) ≤ M_39 (229 + 1) 9 := h_49l
          have h_49u : M_39 (229 + 1) 9 ≤ 2147483647 := h_49u
          refine g_iload_n (n := 95) hx 2 (dq tX10_sells 59 rfl) rfl rfl ?_
          refine g_iload (n := 97) hx 1 (dq tX10_sells 60 rfl) rfl rfl ?_
          refine g_irem (n := 98) hx (dq tX10_sells 61 rfl) rfl h_14 (zrI h_34l h_34u (by decide) (by decide)) (by omega) (fun z_50 h_51 h_52 => ?_)
          clear h_52
          refine g_iadd (n := 99) hx (dq tX10_sells 62 rfl) rfl ?_
          refine g_any (fun z_53 h_54 => ?_)
          have e_55 : M_39 (229 + 1) 1 = M_29 (229 + 1) 1 := (f_42 (229 + 1) 1 (by omega))
          have e_56 : M_39 (229 + 1) 3 = M_29 (229 + 1) 3 := (f_42 (229 + 1) 3 (by omega))
          refine g_iastX (n := 100) (q := 9) hx (aX10_1 (b := 229) (by decide)) (dq tX10_sells 63 rfl) rfl (by decide) (by decide) (by decide) rfl (show (-2147483648) ≤ z_53 by omega) (show z_53 ≤ 2147483647 by omega) (fun M_57 m_58e m_58 => ?_)
          have g_59 : Gm M_57 := Gm.frame g_43 (fun c j hcj => m_58 c j (by omega))
          have g_60 : Rl M_57 := Rl.frame g_44 (fun c j hcj => m_58 c j (by omega))
          have e_61 : M_57 (229 + 1) 1 = M_39 (229 + 1) 1 := (m_58 (229 + 1) 1 (by omega))
          have e_62 : M_57 (229 + 1) 3 = M_39 (229 + 1) 3 := (m_58 (229 + 1) 3 (by omega))
          exact g_vret hx hr (dq tX10_sells 64 rfl) ⟨(fun u_ v_ huv_ => (((((m_58 u_ v_ (by omega)).trans (f_42 u_ v_ (by omega))).trans (m_30 u_ v_ (by omega))).trans (m_21 u_ v_ (by omega))).trans (f_5 u_ v_ (by omega)))), g_59, g_60⟩
        · refine g_aload_n (n := 67) hx 4 (dq tX10_sells 42 rfl) rfl rfl ?_
          refine g_getR (n := 70) hx glX10_28 (sX10_7 (by decide)) (dq tX10_sells 43 rfl) rfl ?_
          refine g_iload (n := 72) hx 0 (dq tX10_sells 44 rfl) rfl rfl ?_
          refine g_dup2 (n := 73) hx (dq tX10_sells 45 rfl) rfl rfl rfl ?_
          refine g_iald (n := 74) (q := i_38.toNat) hx (aX10_7 (b := 229) (by decide)) (dq tX10_sells 46 rfl) rfl (by omega) (by omega) (by omega) rfl (fun h_63l h_63u => ?_)
          refine g_iload_n (n := 75) hx 2 (dq tX10_sells 47 rfl) rfl rfl ?_
          refine g_iload (n := 77) hx 1 (dq tX10_sells 48 rfl) rfl rfl ?_
          refine g_idiv (n := 78) hx (dq tX10_sells 49 rfl) rfl h_14 (zrI h_34l h_34u (by decide) (by decide)) (by omega) (fun z_64 h_65 h_66 => ?_)
          clear h_66
          refine g_iadd (n := 79) hx (dq tX10_sells 50 rfl) rfl ?_
          refine g_any (fun z_67 h_68 => ?_)
          have e_69 : M_39 (229 + 1) 1 = M_29 (229 + 1) 1 := (f_42 (229 + 1) 1 (by omega))
          have e_70 : M_39 (229 + 1) 3 = M_29 (229 + 1) 3 := (f_42 (229 + 1) 3 (by omega))
          refine g_iast (n := 80) (q := i_38.toNat) hx (aX10_7 (b := 229) (by decide)) (dq tX10_sells 51 rfl) rfl (by omega) (by omega) (by omega) rfl (by omega) (by omega) (fun M_71 m_72e m_72 => ?_)
          have g_73 : Gm M_71 := Gm.frame g_43 (fun c j hcj => m_72 c j (by omega))
          have g_74 : Rl M_71 := Rl.frame g_44 (fun c j hcj => m_72 c j (by omega))
          refine g_iinc (n := 83) (lv' := [(5, vI (i_38 + 1)), (4, vI (M_29 (229 + 1) 1)), (3, vI z_12), (2, vI z_1), (0, aR Γ 229), (1, vI l)]) hx 0 (dq tX10_sells 52 rfl) rfl (by decide) rfl rfl ?_
          refine g_goto (n := 59) hx (dq tX10_sells 53 rfl) (by decide) ?_
          have e_75 : M_71 (229 + 1) 1 = M_39 (229 + 1) 1 := (m_72 (229 + 1) 1 (by omega))
          have e_76 : M_71 (229 + 1) 3 = M_39 (229 + 1) 3 := (m_72 (229 + 1) 3 (by omega))
          exact ih_41 _ (by omega) (i_38 + 1) M_71 (by omega) (by omega) (fun u_ v_ huv_ => ((m_72 u_ v_ (by omega)).trans (f_42 u_ v_ (by omega)))) g_73 g_74 rfl
    exact L_40 _ 0 M_29 (by omega) (by omega) (fun _ _ _ => rfl) g_31 g_32 rfl
  · refine g_aload_n (n := 38) hx 2 (dq tX10_sells 23 rfl) rfl rfl ?_
    refine g_getR (n := 41) hx glX10_28 (sX10_7 (by decide)) (dq tX10_sells 24 rfl) rfl ?_
    refine g_iload_n (n := 42) hx 1 (dq tX10_sells 25 rfl) rfl rfl ?_
    refine g_dup2 (n := 43) hx (dq tX10_sells 26 rfl) rfl rfl rfl ?_
    refine g_iald (n := 44) (q := z_1.toNat) hx (aX10_7 (b := 229) (by decide)) (dq tX10_sells 27 rfl) rfl (by omega) (by omega) (by omega) rfl (fun h_77l h_77u => ?_)
    refine g_iload_n (n := 45) hx 0 (dq tX10_sells 28 rfl) rfl rfl ?_
    refine g_iadd (n := 46) hx (dq tX10_sells 29 rfl) rfl ?_
    refine g_any (fun z_78 h_79 => ?_)
    have e_80 : M_29 (229 + 1) 1 = M_20 (229 + 1) 1 := (m_30 (229 + 1) 1 (by omega))
    have e_81 : M_29 (229 + 1) 3 = M_20 (229 + 1) 3 := (m_30 (229 + 1) 3 (by omega))
    refine g_iast (n := 47) (q := z_1.toNat) hx (aX10_7 (b := 229) (by decide)) (dq tX10_sells 30 rfl) rfl (by omega) (by omega) (by omega) rfl (by omega) (by omega) (fun M_82 m_83e m_83 => ?_)
    have g_84 : Gm M_82 := Gm.frame g_31 (fun c j hcj => m_83 c j (by omega))
    have g_85 : Rl M_82 := Rl.frame g_32 (fun c j hcj => m_83 c j (by omega))
    have e_86 : M_82 (229 + 1) 1 = M_29 (229 + 1) 1 := (m_83 (229 + 1) 1 (by omega))
    have e_87 : M_82 (229 + 1) 3 = M_29 (229 + 1) 3 := (m_83 (229 + 1) 3 (by omega))
    exact g_vret hx hr (dq tX10_sells 31 rfl) ⟨(fun u_ v_ huv_ => ((((m_83 u_ v_ (by omega)).trans (m_30 u_ v_ (by omega))).trans (m_21 u_ v_ (by omega))).trans (f_5 u_ v_ (by omega)))), g_84, g_85⟩

abbrev qctX10_floats1 (M : zM) (l : Int) (M' : zM) : Prop := (∀ u_ v_, (u_ ≠ 229 ∨ v_ ≠ 62) ∧ (u_ ≠ 229 ∨ v_ ≠ 63) ∧ (u_ ≠ 229 + 1 ∨ v_ ≠ 9) ∧ u_ ≠ 229 + 7 ∧ u_ ≠ 229 + 12 ∧ u_ ≠ 229 + 15 → M' u_ v_ = M u_ v_) ∧ Gm M' ∧ Rl M'
set_option maxHeartbeats 4000000 in
set_option maxRecDepth 100000 in
theorem ctX10_floats1 (Γ : Gam) (M : zM) (l : Int) (hll : 0 ≤ l) (hlu : l ≤ 11) (pre0 : l < M (229 + 1) 3) (gm : Gm M) (rl : Rl M) : CtV Γ yX10_floats1 cX10_floats1 2 none 9 212 [aR Γ 229, vI l] M (qctX10_floats1 M l) := by
  refine met_v (by decide) (Nat.le_of_ble_eq_true rfl) (fun x hx hr => ?_)
  show G Γ x 2 (QV Γ x (qctX10_floats1 M l)) M 0 [(0, aR Γ 229), (1, vI l)] []
  refine g_aload_n (n := 1) hx 0 (dq tX10_floats1 0 rfl) rfl rfl ?_
  refine g_getR (n := 4) hx glX10_52 (sX10_15 (by decide)) (dq tX10_floats1 1 rfl) rfl ?_
  refine g_iload_n (n := 5) hx 1 (dq tX10_floats1 2 rfl) rfl rfl ?_
  refine g_iconst (n := 6) hx (dq tX10_floats1 3 rfl) rfl ?_
  refine g_iast (n := 7) (q := l.toNat) hx (aX10_15 (b := 229) (by decide)) (dq tX10_floats1 4 rfl) rfl (by omega) (by omega) (by omega) rfl (by omega) (by omega) (fun M_1 m_2e m_2 => ?_)
  have g_3 : Gm M_1 := Gm.frame gm (fun c j hcj => m_2 c j (by omega))
  have g_4 : Rl M_1 := Rl.frame rl (fun c j hcj => m_2 c j (by omega))
  refine g_aload_n (n := 8) hx 0 (dq tX10_floats1 5 rfl) rfl rfl ?_
  refine g_aload_n (n := 9) hx 0 (dq tX10_floats1 6 rfl) rfl rfl ?_
  refine g_getR (n := 12) hx glX10_43 (sX10_12 (by decide)) (dq tX10_floats1 7 rfl) rfl ?_
  refine g_iload_n (n := 13) hx 1 (dq tX10_floats1 8 rfl) rfl rfl ?_
  refine g_iald (n := 14) (q := l.toNat) hx (aX10_12 (b := 229) (by decide)) (dq tX10_floats1 9 rfl) rfl (by omega) (by omega) (by omega) rfl (fun h_5l h_5u => ?_)
  have e_6 : M_1 (229 + 1) 1 = M (229 + 1) 1 := (m_2 (229 + 1) 1 (by omega))
  have e_7 : M_1 (229 + 1) 3 = M (229 + 1) 3 := (m_2 (229 + 1) 3 (by omega))
  refine g_iv (fun h_9 => ?_)
  have h_9v : (0 : Int) ≤ M_1 (229 + 1) 1 ∧ M_1 (229 + 1) 1 ≤ 6 := h_9 230 1
  have h_9l : (0 : Int) ≤ M_1 (229 + 1) 3 ∧ M_1 (229 + 1) 3 ≤ 12 := h_9 230 3
  clear h_9
  have h_8 := g_3.2.2.1 l.toNat (by omega)
  have h_8s := PlOk.shore h_8
  have h_8w := PlOk.water h_8
  have h_8r := PlOk.rg h_8 (by omega)
  clear h_8
  refine g_iconst (n := 15) hx (dq tX10_floats1 10 rfl) rfl ?_
  refine g_iadd (n := 16) hx (dq tX10_floats1 11 rfl) rfl ?_
  refine g_callVi (n := 19) (As := [vI ((M_1 (229 + 12) l.toNat) + 1)]) (rest := []) hx (ctX10_isBend Γ M_1 ((M_1 (229 + 12) l.toNat) + 1) (by omega) (by omega)) mlX10_467 (obX10 (by decide)) (dq tX10_floats1 12 rfl) rfl (Nat.le_of_ble_eq_true rfl) (Nat.le_of_ble_eq_true rfl) (Nat.le_of_ble_eq_true rfl) rfl (fun z_10 M_11 h_12 p_13 => ?_)
  obtain ⟨rfl, b_15⟩ := p_13
  refine g_if_eq (n := 22) (t := 35) hx (dq tX10_floats1 13 rfl) (by decide) rfl h_12 (fun c_19 => ?_) (fun c_19 => ?_)
  · clear b_15
    refine g_aload_n (n := 36) hx 0 (dq tX10_floats1 23 rfl) rfl rfl ?_
    refine g_iload_n (n := 37) hx 1 (dq tX10_floats1 24 rfl) rfl rfl ?_
    refine g_callVv (n := 40) (As := [vI l]) (rest := []) hx (ctX10_sells Γ M_1 l (by omega) (by omega) (by omega) g_3 g_4) mlX10_546 (obX10 (by decide)) (dq tX10_floats1 25 rfl) rfl (Nat.le_of_ble_eq_true rfl) (Nat.le_of_ble_eq_true rfl) (Nat.le_of_ble_eq_true rfl) rfl (fun M_21 p_23 => ?_)
    obtain ⟨f_24, g_25, g_26⟩ := p_23
    have e_27 : M_21 (229 + 1) 1 = M_1 (229 + 1) 1 := (f_24 (229 + 1) 1 (by omega))
    have e_28 : M_21 (229 + 1) 3 = M_1 (229 + 1) 3 := (f_24 (229 + 1) 3 (by omega))
    exact g_vret hx hr (dq tX10_floats1 26 rfl) ⟨(fun u_ v_ huv_ => ((f_24 u_ v_ (by omega)).trans (m_2 u_ v_ (by omega)))), g_25, g_26⟩
  · have b_15 := b_15.resolve_left c_19
    obtain ⟨-, h_16, h_17, h_18⟩ := b_15
    refine g_aload_n (n := 23) hx 0 (dq tX10_floats1 14 rfl) rfl rfl ?_
    refine g_getR (n := 26) hx glX10_43 (sX10_12 (by decide)) (dq tX10_floats1 15 rfl) rfl ?_
    refine g_iload_n (n := 27) hx 1 (dq tX10_floats1 16 rfl) rfl rfl ?_
    refine g_dup2 (n := 28) hx (dq tX10_floats1 17 rfl) rfl rfl rfl ?_
    refine g_iald (n := 29) (q := l.toNat) hx (aX10_12 (b := 229) (by decide)) (dq tX10_floats1 18 rfl) rfl (by omega) (by omega) (by omega) rfl (fun h_29l h_29u => ?_)
    refine g_iv (fun h_31 => ?_)
    have h_31v : (0 : Int) ≤ M_1 (229 + 1) 1 ∧ M_1 (229 + 1) 1 ≤ 6 := h_31 230 1
    have h_31l : (0 : Int) ≤ M_1 (229 + 1) 3 ∧ M_1 (229 + 1) 3 ≤ 12 := h_31 230 3
    clear h_31
    have h_30 := g_3.2.2.1 l.toNat (by omega)
    have h_30s := PlOk.shore h_30
    have h_30w := PlOk.water h_30
    have h_30r := PlOk.rg h_30 (by omega)
    clear h_30
    refine g_iconst (n := 30) hx (dq tX10_floats1 19 rfl) rfl ?_
    refine g_iadd (n := 31) hx (dq tX10_floats1 20 rfl) rfl ?_
    refine g_iast (n := 32) (q := l.toNat) hx (aX10_12 (b := 229) (by decide)) (dq tX10_floats1 21 rfl) rfl (by omega) (by omega) (by omega) rfl (by omega) (by omega) (fun M_32 m_33e m_33 => ?_)
    have g_34 := Gm.place g_3 m_33e m_33 (by unfold PlOk; omega)
    have g_35 : Rl M_32 := Rl.frame g_4 (fun c j hcj => m_33 c j (by omega))
    refine g_goto (n := 40) hx (dq tX10_floats1 22 rfl) (by decide) ?_
    have e_36 : M_32 (229 + 1) 1 = M_1 (229 + 1) 1 := (m_33 (229 + 1) 1 (by omega))
    have e_37 : M_32 (229 + 1) 3 = M_1 (229 + 1) 3 := (m_33 (229 + 1) 3 (by omega))
    exact g_vret hx hr (dq tX10_floats1 26 rfl) ⟨(fun u_ v_ huv_ => ((m_33 u_ v_ (by omega)).trans (m_2 u_ v_ (by omega)))), g_34, g_35⟩

abbrev qctX10_goesAll (M : zM)  (M' : zM) : Prop := (∀ u_ v_, (u_ ≠ 229 ∨ v_ ≠ 61) ∧ (u_ ≠ 229 ∨ v_ ≠ 62) ∧ (u_ ≠ 229 ∨ v_ ≠ 63) ∧ (u_ ≠ 229 ∨ v_ ≠ 64) ∧ (u_ ≠ 229 ∨ v_ ≠ 65) ∧ (u_ ≠ 229 ∨ v_ ≠ 66) ∧ (u_ ≠ 229 ∨ v_ ≠ 67) ∧ (u_ ≠ 229 + 1 ∨ v_ ≠ 9) ∧ (u_ ≠ 229 + 1 ∨ v_ ≠ 13) ∧ u_ ≠ 229 + 7 ∧ u_ ≠ 229 + 8 ∧ u_ ≠ 229 + 12 ∧ u_ ≠ 229 + 13 ∧ u_ ≠ 229 + 14 ∧ u_ ≠ 229 + 15 ∧ u_ ≠ 229 + 18 → M' u_ v_ = M u_ v_) ∧ Gm M' ∧ Rl M'
set_option maxHeartbeats 4000000 in
set_option maxRecDepth 100000 in
theorem ctX10_goesAll (Γ : Gam) (M : zM)  (gm : Gm M) (rl : Rl M) : CtV Γ yX10_goesAll cX10_goesAll 4 none 10 233 [aR Γ 229] M (qctX10_goesAll M) := by
  refine met_v (by decide) (Nat.le_of_ble_eq_true rfl) (fun x hx hr => ?_)
  show G Γ x 4 (QV Γ x (qctX10_goesAll M)) M 0 [(0, aR Γ 229)] []
  refine g_iconst (n := 1) hx (dq tX10_goesAll 0 rfl) rfl ?_
  refine g_istore_n (n := 2) (lv' := [(1, vI 0), (0, aR Γ 229)]) hx (dq tX10_goesAll 1 rfl) (by decide) rfl rfl ?_
  have L_3 : ∀ (n_ : Nat) (i_1 : Int) (M_2 : zM), (0 ≤ i_1) → (i_1 ≤ 12) → (∀ u_ v_, (u_ ≠ 229 ∨ v_ ≠ 61) ∧ (u_ ≠ 229 ∨ v_ ≠ 66) ∧ (u_ ≠ 229 + 1 ∨ v_ ≠ 13) ∧ u_ ≠ 229 + 13 ∧ u_ ≠ 229 + 14 ∧ u_ ≠ 229 + 15 ∧ (u_ ≠ 229 ∨ v_ ≠ 62) ∧ (u_ ≠ 229 ∨ v_ ≠ 63) ∧ (u_ ≠ 229 + 1 ∨ v_ ≠ 9) ∧ u_ ≠ 229 + 7 ∧ u_ ≠ 229 + 12 → M_2 u_ v_ = M u_ v_) → (Gm M_2) → (Rl M_2) → ((12 - i_1).toNat = n_) → G Γ x 4 (QV Γ x (qctX10_goesAll M)) M_2 2 [(1, vI i_1), (0, aR Γ 229)] [] := by
    intro n_
    induction n_ using Nat.strongRecOn with
    | _ n_ ih_4 =>
      intro i_1 M_2 h_9 h_10 f_5 g_6 g_7 hm_8
      refine g_iload_n (n := 3) hx 0 (dq tX10_goesAll 2 rfl) rfl rfl ?_
      refine g_aload_n (n := 4) hx 1 (dq tX10_goesAll 3 rfl) rfl rfl ?_
      refine g_getR (n := 7) hx glX10_9 (sX10_1 (by decide)) (dq tX10_goesAll 4 rfl) rfl ?_
      refine g_iconst (n := 8) hx (dq tX10_goesAll 5 rfl) rfl ?_
      refine g_ialdX (n := 9) (q := 3) hx (aX10_1 (b := 229) (by decide)) (dq tX10_goesAll 6 rfl) rfl (by decide) (by decide) (by decide) rfl (fun h_11l h_11u => ?_)
      have h_11l : 0 ≤ M_2 (229 + 1) 3 := h_11l
      have h_11u : M_2 (229 + 1) 3 ≤ 12 := h_11u
      have e_12 : M_2 (229 + 1) 3 = M (229 + 1) 3 := (f_5 (229 + 1) 3 (by omega))
      refine g_icmp_ge (n := 12) (t := 74) hx (dq tX10_goesAll 7 rfl) (by decide) rfl ⟨by omega, by omega⟩ (zrI h_11l h_11u (by decide) (by decide)) (fun c_13 => ?_) (fun c_13 => ?_)
      · have e_14 : M_2 (229 + 1) 1 = M (229 + 1) 1 := (f_5 (229 + 1) 1 (by omega))
        exact g_vret hx hr (dq tX10_goesAll 43 rfl) ⟨(fun u_ v_ huv_ => (f_5 u_ v_ (by omega))), g_6, g_7⟩
      · refine g_aload_n (n := 13) hx 1 (dq tX10_goesAll 8 rfl) rfl rfl ?_
        refine g_getR (n := 16) hx glX10_58 (sX10_17 (by decide)) (dq tX10_goesAll 9 rfl) rfl ?_
        refine g_iload_n (n := 17) hx 0 (dq tX10_goesAll 10 rfl) rfl rfl ?_
        refine g_iald (n := 18) (q := i_1.toNat) hx (aX10_17 (b := 229) (by decide)) (dq tX10_goesAll 11 rfl) rfl (by omega) (by omega) (by omega) rfl (fun h_15l h_15u => ?_)
        have e_16 : M_2 (229 + 1) 1 = M (229 + 1) 1 := (f_5 (229 + 1) 1 (by omega))
        refine g_iv (fun h_18 => ?_)
        have h_18v : (0 : Int) ≤ M_2 (229 + 1) 1 ∧ M_2 (229 + 1) 1 ≤ 6 := h_18 230 1
        have h_18l : (0 : Int) ≤ M_2 (229 + 1) 3 ∧ M_2 (229 + 1) 3 ≤ 12 := h_18 230 3
        clear h_18
        have h_17 := g_6.2.2.2.2.1 i_1.toNat (by omega)
        refine g_istore_n (n := 19) (lv' := [(2, vI (M_2 (229 + 17) i_1.toNat)), (1, vI i_1), (0, aR Γ 229)]) hx (dq tX10_goesAll 12 rfl) (by decide) rfl rfl ?_
        refine g_aload_n (n := 20) hx 2 (dq tX10_goesAll 13 rfl) rfl rfl ?_
        refine g_iload_n (n := 21) hx 0 (dq tX10_goesAll 14 rfl) rfl rfl ?_
        refine g_callVi (n := 24) (As := [vI (M_2 (229 + 17) i_1.toNat)]) (rest := []) hx (ctX10_isInWater Γ M_2 (M_2 (229 + 17) i_1.toNat) (by omega) (by omega)) mlX10_199 (obX10 (by decide)) (dq tX10_goesAll 15 rfl) rfl (Nat.le_of_ble_eq_true rfl) (Nat.le_of_ble_eq_true rfl) (Nat.le_of_ble_eq_true rfl) rfl (fun z_19 M_20 h_21 p_22 => ?_)
        obtain ⟨rfl, b_24, h_25⟩ := p_22
        refine g_if_eq (n := 27) (t := 68) hx (dq tX10_goesAll 16 rfl) (by decide) rfl h_21 (fun c_27 => ?_) (fun c_27 => ?_)
        · clear b_24
          refine g_iinc (n := 71) (lv' := [(1, vI (i_1 + 1)), (2, vI (M_2 (229 + 17) i_1.toNat)), (0, aR Γ 229)]) hx 1 (dq tX10_goesAll 41 rfl) rfl (by decide) rfl rfl ?_
          refine g_goto (n := 2) hx (dq tX10_goesAll 42 rfl) (by decide) ?_
          refine g_lv [0, 2] rfl ?_
          exact ih_4 _ (by omega) (i_1 + 1) M_2 (by omega) (by omega) (fun u_ v_ huv_ => (f_5 u_ v_ (by omega))) g_6 g_7 rfl
        · have b_24 := b_24.resolve_left c_27
          obtain ⟨-, h_26⟩ := b_24
          refine g_aload_n (n := 28) hx 2 (dq tX10_goesAll 17 rfl) rfl rfl ?_
          refine g_iload_n (n := 29) hx 0 (dq tX10_goesAll 18 rfl) rfl rfl ?_
          refine g_callVi (n := 32) (As := [vI (M_2 (229 + 17) i_1.toNat)]) (rest := []) hx (ctX10_roomAhead Γ M_2 (M_2 (229 + 17) i_1.toNat) (by omega) (by omega) (by omega) g_6) mlX10_506 (obX10 (by decide)) (dq tX10_goesAll 19 rfl) rfl (Nat.le_of_ble_eq_true rfl) (Nat.le_of_ble_eq_true rfl) (Nat.le_of_ble_eq_true rfl) rfl (fun z_28 M_29 h_30 p_31 => ?_)
          obtain rfl := p_31
          refine g_istore_n (n := 33) (lv' := [(3, vI z_28), (2, vI (M_2 (229 + 17) i_1.toNat)), (1, vI i_1), (0, aR Γ 229)]) hx (dq tX10_goesAll 20 rfl) (by decide) rfl rfl ?_
          refine g_aload_n (n := 34) hx 3 (dq tX10_goesAll 21 rfl) rfl rfl ?_
          refine g_aload_n (n := 35) hx 3 (dq tX10_goesAll 22 rfl) rfl rfl ?_
          refine g_getR (n := 38) hx glX10_9 (sX10_1 (by decide)) (dq tX10_goesAll 23 rfl) rfl ?_
          refine g_bipush (n := 40) hx (dq tX10_goesAll 24 rfl) rfl (by decide) ?_
          refine g_ialdX (n := 41) (q := 15) hx (aX10_1 (b := 229) (by decide)) (dq tX10_goesAll 25 rfl) rfl (by decide) (by decide) (by decide) rfl (fun h_33l h_33u => ?_)
          have h_33l : (-1) ≤ M_2 (229 + 1) 15 := h_33l
          have h_33u : M_2 (229 + 1) 15 ≤ 5 := h_33u
          refine g_iconst (n := 42) hx (dq tX10_goesAll 26 rfl) rfl ?_
          refine g_iload_n (n := 43) hx 1 (dq tX10_goesAll 27 rfl) rfl rfl ?_
          refine g_iconst (n := 44) hx (dq tX10_goesAll 28 rfl) rfl ?_
          refine g_iload_n (n := 45) hx 0 (dq tX10_goesAll 29 rfl) rfl rfl ?_
          refine g_callVi (n := 48) (As := [vI (M_2 (229 + 1) 15), vI 0, vI (M_2 (229 + 17) i_1.toNat), vI (-1), vI z_28]) (rest := []) hx (ctX10_saysOf Γ M_2 (M_2 (229 + 1) 15) (by omega) (by omega) 0 (by decide) (by decide) (M_2 (229 + 17) i_1.toNat) (by omega) (by omega) (-1) (by decide) (by decide) z_28 (by omega) (by omega) (Rl.force g_7) (by omega) g_6 g_7) mlX10_549 (obX10 (by decide)) (dq tX10_goesAll 30 rfl) rfl (Nat.le_of_ble_eq_true rfl) (Nat.le_of_ble_eq_true rfl) (Nat.le_of_ble_eq_true rfl) rfl (fun z_34 M_35 h_36 p_37 => ?_)
          obtain ⟨rfl, b_39⟩ := p_37
          refine g_if_ne (n := 51) (t := 55) hx (dq tX10_goesAll 31 rfl) (by decide) rfl h_36 (fun c_40 => ?_) (fun c_40 => ?_)
          · have b_39 := b_39.resolve_left c_40
            refine g_aload_n (n := 56) hx 3 (dq tX10_goesAll 34 rfl) rfl rfl ?_
            refine g_iload_n (n := 57) hx 1 (dq tX10_goesAll 35 rfl) rfl rfl ?_
            refine g_callVv (n := 60) (As := [vI (M_2 (229 + 17) i_1.toNat)]) (rest := []) hx (ctX10_jams1 Γ M_2 (M_2 (229 + 17) i_1.toNat) (by omega) (by omega)) mlX10_553 (obX10 (by decide)) (dq tX10_goesAll 36 rfl) rfl (Nat.le_of_ble_eq_true rfl) (Nat.le_of_ble_eq_true rfl) (Nat.le_of_ble_eq_true rfl) rfl (fun M_42 p_44 => ?_)
            have f_45 := p_44
            have g_46 : Gm M_42 := Gm.frame g_6 (fun c j hcj => f_45 c j (by omega))
            have g_47 : Rl M_42 := Rl.frame g_7 (fun c j hcj => f_45 c j (by omega))
            refine g_goto (n := 68) hx (dq tX10_goesAll 37 rfl) (by decide) ?_
            refine g_iinc (n := 71) (lv' := [(1, vI (i_1 + 1)), (3, vI z_28), (2, vI (M_2 (229 + 17) i_1.toNat)), (0, aR Γ 229)]) hx 2 (dq tX10_goesAll 41 rfl) rfl (by decide) rfl rfl ?_
            refine g_goto (n := 2) hx (dq tX10_goesAll 42 rfl) (by decide) ?_
            have e_48 : M_42 (229 + 1) 1 = M_2 (229 + 1) 1 := (f_45 (229 + 1) 1 (by omega))
            have e_49 : M_42 (229 + 1) 3 = M_2 (229 + 1) 3 := (f_45 (229 + 1) 3 (by omega))
            refine g_lv [0, 3] rfl ?_
            exact ih_4 _ (by omega) (i_1 + 1) M_42 (by omega) (by omega) (fun u_ v_ huv_ => ((f_45 u_ v_ (by omega)).trans (f_5 u_ v_ (by omega)))) g_46 g_47 rfl
          · clear b_39
            refine g_iload_n (n := 52) hx 0 (dq tX10_goesAll 32 rfl) rfl rfl ?_
            refine g_if_ne (n := 55) (t := 63) hx (dq tX10_goesAll 33 rfl) (by decide) rfl h_30 (fun c_50 => ?_) (fun c_50 => ?_)
            · refine g_aload_n (n := 64) hx 3 (dq tX10_goesAll 38 rfl) rfl rfl ?_
              refine g_iload_n (n := 65) hx 1 (dq tX10_goesAll 39 rfl) rfl rfl ?_
              refine g_callVv (n := 68) (As := [vI (M_2 (229 + 17) i_1.toNat)]) (rest := []) hx (ctX10_floats1 Γ M_2 (M_2 (229 + 17) i_1.toNat) (by omega) (by omega) (by omega) g_6 g_7) mlX10_556 (obX10 (by decide)) (dq tX10_goesAll 40 rfl) rfl (Nat.le_of_ble_eq_true rfl) (Nat.le_of_ble_eq_true rfl) (Nat.le_of_ble_eq_true rfl) rfl (fun M_52 p_54 => ?_)
              obtain ⟨f_55, g_56, g_57⟩ := p_54
              refine g_iinc (n := 71) (lv' := [(1, vI (i_1 + 1)), (3, vI z_28), (2, vI (M_2 (229 + 17) i_1.toNat)), (0, aR Γ 229)]) hx 2 (dq tX10_goesAll 41 rfl) rfl (by decide) rfl rfl ?_
              refine g_goto (n := 2) hx (dq tX10_goesAll 42 rfl) (by decide) ?_
              have e_58 : M_52 (229 + 1) 1 = M_2 (229 + 1) 1 := (f_55 (229 + 1) 1 (by omega))
              have e_59 : M_52 (229 + 1) 3 = M_2 (229 + 1) 3 := (f_55 (229 + 1) 3 (by omega))
              refine g_lv [0, 3] rfl ?_
              exact ih_4 _ (by omega) (i_1 + 1) M_52 (by omega) (by omega) (fun u_ v_ huv_ => ((f_55 u_ v_ (by omega)).trans (f_5 u_ v_ (by omega)))) g_56 g_57 rfl
            · refine g_aload_n (n := 56) hx 3 (dq tX10_goesAll 34 rfl) rfl rfl ?_
              refine g_iload_n (n := 57) hx 1 (dq tX10_goesAll 35 rfl) rfl rfl ?_
              refine g_callVv (n := 60) (As := [vI (M_2 (229 + 17) i_1.toNat)]) (rest := []) hx (ctX10_jams1 Γ M_2 (M_2 (229 + 17) i_1.toNat) (by omega) (by omega)) mlX10_553 (obX10 (by decide)) (dq tX10_goesAll 36 rfl) rfl (Nat.le_of_ble_eq_true rfl) (Nat.le_of_ble_eq_true rfl) (Nat.le_of_ble_eq_true rfl) rfl (fun M_61 p_63 => ?_)
              have f_64 := p_63
              have g_65 : Gm M_61 := Gm.frame g_6 (fun c j hcj => f_64 c j (by omega))
              have g_66 : Rl M_61 := Rl.frame g_7 (fun c j hcj => f_64 c j (by omega))
              refine g_goto (n := 68) hx (dq tX10_goesAll 37 rfl) (by decide) ?_
              refine g_iinc (n := 71) (lv' := [(1, vI (i_1 + 1)), (3, vI z_28), (2, vI (M_2 (229 + 17) i_1.toNat)), (0, aR Γ 229)]) hx 2 (dq tX10_goesAll 41 rfl) rfl (by decide) rfl rfl ?_
              refine g_goto (n := 2) hx (dq tX10_goesAll 42 rfl) (by decide) ?_
              have e_67 : M_61 (229 + 1) 1 = M_2 (229 + 1) 1 := (f_64 (229 + 1) 1 (by omega))
              have e_68 : M_61 (229 + 1) 3 = M_2 (229 + 1) 3 := (f_64 (229 + 1) 3 (by omega))
              refine g_lv [0, 3] rfl ?_
              exact ih_4 _ (by omega) (i_1 + 1) M_61 (by omega) (by omega) (fun u_ v_ huv_ => ((f_64 u_ v_ (by omega)).trans (f_5 u_ v_ (by omega)))) g_65 g_66 rfl
  exact L_3 _ 0 M (by omega) (by omega) (fun _ _ _ => rfl) gm rl rfl

abbrev qctX10_takes1 (M : zM) (l : Int) (v : Int) (M' : zM) : Prop := (∀ u_ v_, (u_ ≠ 229 ∨ v_ ≠ 61) ∧ (u_ ≠ 229 ∨ v_ ≠ 62) ∧ (u_ ≠ 229 ∨ v_ ≠ 63) ∧ (u_ ≠ 229 ∨ v_ ≠ 64) ∧ (u_ ≠ 229 ∨ v_ ≠ 65) ∧ (u_ ≠ 229 ∨ v_ ≠ 66) ∧ (u_ ≠ 229 ∨ v_ ≠ 67) ∧ (u_ ≠ 229 + 1 ∨ v_ ≠ 9) ∧ (u_ ≠ 229 + 1 ∨ v_ ≠ 13) ∧ u_ ≠ 229 + 7 ∧ u_ ≠ 229 + 8 ∧ u_ ≠ 229 + 12 ∧ u_ ≠ 229 + 13 ∧ u_ ≠ 229 + 14 ∧ u_ ≠ 229 + 15 ∧ u_ ≠ 229 + 18 → M' u_ v_ = M u_ v_) ∧ Gm M' ∧ Rl M'
set_option maxHeartbeats 4000000 in
set_option maxRecDepth 100000 in
theorem ctX10_takes1 (Γ : Gam) (M : zM) (l : Int) (hll : 0 ≤ l) (hlu : l ≤ 11) (v : Int) (hvl : 0 ≤ v) (hvu : v ≤ 5) (pre0 : l < M (229 + 1) 3) (pre1 : v < M (229 + 1) 1) (gm : Gm M) (rl : Rl M) : CtV Γ yX10_takes1 cX10_takes1 3 none 7 166 [aR Γ 229, vI l, vI v] M (qctX10_takes1 M l v) := by
  refine met_v (by decide) (Nat.le_of_ble_eq_true rfl) (fun x hx hr => ?_)
  show G Γ x 3 (QV Γ x (qctX10_takes1 M l v)) M 0 [(0, aR Γ 229), (1, vI l), (2, vI v)] []
  refine g_aload_n (n := 1) hx 0 (dq tX10_takes1 0 rfl) rfl rfl ?_
  refine g_iload_n (n := 2) hx 2 (dq tX10_takes1 1 rfl) rfl rfl ?_
  refine g_aload_n (n := 3) hx 0 (dq tX10_takes1 2 rfl) rfl rfl ?_
  refine g_iload_n (n := 4) hx 1 (dq tX10_takes1 3 rfl) rfl rfl ?_
  refine g_callVi (n := 7) (As := [vI l]) (rest := [vI v, aR Γ 229]) hx (ctX10_ownerOf Γ M l (by omega) (by omega) (by omega) gm rl) mlX10_464 (obX10 (by decide)) (dq tX10_takes1 4 rfl) rfl (Nat.le_of_ble_eq_true rfl) (Nat.le_of_ble_eq_true rfl) (Nat.le_of_ble_eq_true rfl) rfl (fun z_1 M_2 h_3 p_4 => ?_)
  obtain ⟨rfl, h_6, h_7⟩ := p_4
  refine g_aload_n (n := 8) hx 0 (dq tX10_takes1 5 rfl) rfl rfl ?_
  refine g_iload_n (n := 9) hx 1 (dq tX10_takes1 6 rfl) rfl rfl ?_
  refine g_callVi (n := 12) (As := [vI l]) (rest := [vI z_1, vI v, aR Γ 229]) hx (ctX10_priceOf Γ M l (by omega) (by omega) (by omega) gm) mlX10_486 (obX10 (by decide)) (dq tX10_takes1 7 rfl) rfl (Nat.le_of_ble_eq_true rfl) (Nat.le_of_ble_eq_true rfl) (Nat.le_of_ble_eq_true rfl) rfl (fun z_8 M_9 h_10 p_11 => ?_)
  obtain rfl := p_11
  refine g_callVv (n := 15) (As := [vI v, vI z_1, vI z_8]) (rest := []) hx (ctX10_owes1 Γ M v (by omega) (by omega) z_1 (by omega) (by omega) z_8 (by omega) (by omega)) mlX10_498 (obX10 (by decide)) (dq tX10_takes1 8 rfl) rfl (Nat.le_of_ble_eq_true rfl) (Nat.le_of_ble_eq_true rfl) (Nat.le_of_ble_eq_true rfl) rfl (fun M_14 p_16 => ?_)
  have f_17 := p_16
  have g_18 : Gm M_14 := Gm.frame gm (fun c j hcj => f_17 c j (by omega))
  have g_19 : Rl M_14 := Rl.frame rl (fun c j hcj => f_17 c j (by omega))
  refine g_aload_n (n := 16) hx 0 (dq tX10_takes1 9 rfl) rfl rfl ?_
  refine g_getR (n := 19) hx glX10_43 (sX10_12 (by decide)) (dq tX10_takes1 10 rfl) rfl ?_
  refine g_iload_n (n := 20) hx 1 (dq tX10_takes1 11 rfl) rfl rfl ?_
  refine g_bipush (n := 22) hx (dq tX10_takes1 12 rfl) rfl (by decide) ?_
  refine g_iload_n (n := 23) hx 2 (dq tX10_takes1 13 rfl) rfl rfl ?_
  refine g_iadd (n := 24) hx (dq tX10_takes1 14 rfl) rfl ?_
  have e_20 : M_14 (229 + 1) 1 = M (229 + 1) 1 := (f_17 (229 + 1) 1 (by omega))
  have e_21 : M_14 (229 + 1) 3 = M (229 + 1) 3 := (f_17 (229 + 1) 3 (by omega))
  refine g_iast (n := 25) (q := l.toNat) hx (aX10_12 (b := 229) (by decide)) (dq tX10_takes1 15 rfl) rfl (by omega) (by omega) (by omega) rfl (by omega) (by omega) (fun M_22 m_23e m_23 => ?_)
  have g_24 := Gm.place g_18 m_23e m_23 (by unfold PlOk; omega)
  have g_25 : Rl M_22 := Rl.frame g_19 (fun c j hcj => m_23 c j (by omega))
  refine g_aload_n (n := 26) hx 0 (dq tX10_takes1 16 rfl) rfl rfl ?_
  refine g_getR (n := 29) hx glX10_52 (sX10_15 (by decide)) (dq tX10_takes1 17 rfl) rfl ?_
  refine g_iload_n (n := 30) hx 1 (dq tX10_takes1 18 rfl) rfl rfl ?_
  refine g_iconst (n := 31) hx (dq tX10_takes1 19 rfl) rfl ?_
  have e_26 : M_22 (229 + 1) 1 = M_14 (229 + 1) 1 := (m_23 (229 + 1) 1 (by omega))
  have e_27 : M_22 (229 + 1) 3 = M_14 (229 + 1) 3 := (m_23 (229 + 1) 3 (by omega))
  refine g_iast (n := 32) (q := l.toNat) hx (aX10_15 (b := 229) (by decide)) (dq tX10_takes1 20 rfl) rfl (by omega) (by omega) (by omega) rfl (by omega) (by omega) (fun M_28 m_29e m_29 => ?_)
  have g_30 : Gm M_28 := Gm.frame g_24 (fun c j hcj => m_29 c j (by omega))
  have g_31 : Rl M_28 := Rl.frame g_25 (fun c j hcj => m_29 c j (by omega))
  refine g_aload_n (n := 33) hx 0 (dq tX10_takes1 21 rfl) rfl rfl ?_
  refine g_getR (n := 36) hx glX10_46 (sX10_13 (by decide)) (dq tX10_takes1 22 rfl) rfl ?_
  refine g_iload_n (n := 37) hx 1 (dq tX10_takes1 23 rfl) rfl rfl ?_
  refine g_iald (n := 38) (q := l.toNat) hx (aX10_13 (b := 229) (by decide)) (dq tX10_takes1 24 rfl) rfl (by omega) (by omega) (by omega) rfl (fun h_32l h_32u => ?_)
  refine g_bipush (n := 40) hx (dq tX10_takes1 25 rfl) rfl (by decide) ?_
  have J_38 : ∀ (M_34 : zM),  (∀ u_ v_, u_ ≠ 229 + 13 ∧ u_ ≠ 229 + 18 → M_34 u_ v_ = M_28 u_ v_) → (Gm M_34) → (Rl M_34) → G Γ x 3 (QV Γ x (qctX10_takes1 M l v)) M_34 88 [(0, aR Γ 229), (1, vI l), (2, vI v)] [] := by
    intro M_34 f_35 g_36 g_37
    refine g_aload_n (n := 89) hx 0 (dq tX10_takes1 59 rfl) rfl rfl ?_
    refine g_dup (n := 90) hx (dq tX10_takes1 60 rfl) rfl rfl ?_
    refine g_getI (n := 93) hx glX10_559 (sX10_67 (by decide)) (dq tX10_takes1 61 rfl) rfl (fun h_39l h_39u => ?_)
    refine g_iconst (n := 94) hx (dq tX10_takes1 62 rfl) rfl ?_
    refine g_iload_n (n := 95) hx 1 (dq tX10_takes1 63 rfl) rfl rfl ?_
    refine g_ishl1 (n := 96) hx (dq tX10_takes1 64 rfl) rfl (by omega) (by omega) ?_
    refine g_nam (fun z_40 h_41 => ?_)
    have h_421 := pw1 (k := 11) (by omega) (by omega) h_41
    obtain ⟨h_422, h_423⟩ := h_421
    refine g_ior (n := 97) hx (dq tX10_takes1 65 rfl) rfl (fun z_43 h_44 h_45 => ?_)
    clear h_45
    have e_46 : M_34 (229 + 1) 1 = M_22 (229 + 1) 1 := ((f_35 (229 + 1) 1 (by omega))).trans (m_29 (229 + 1) 1 (by omega))
    have e_47 : M_34 (229 + 1) 3 = M_22 (229 + 1) 3 := ((f_35 (229 + 1) 3 (by omega))).trans (m_29 (229 + 1) 3 (by omega))
    refine g_putI (n := 100) hx plX10_559 (sX10_67 (by decide)) (dq tX10_takes1 66 rfl) rfl (by omega) (by omega) (fun M_48 m_49e m_49 => ?_)
    have g_50 : Gm M_48 := Gm.frame g_36 (fun c j hcj => m_49 c j (by omega))
    have g_51 : Rl M_48 := Rl.frame g_37 (fun c j hcj => m_49 c j (by omega))
    refine g_aload_n (n := 101) hx 0 (dq tX10_takes1 67 rfl) rfl rfl ?_
    refine g_dup (n := 102) hx (dq tX10_takes1 68 rfl) rfl rfl ?_
    refine g_getI (n := 105) hx glX10_534 (sX10_64 (by decide)) (dq tX10_takes1 69 rfl) rfl (fun h_52l h_52u => ?_)
    refine g_iconst (n := 106) hx (dq tX10_takes1 70 rfl) rfl ?_
    refine g_iadd (n := 107) hx (dq tX10_takes1 71 rfl) rfl ?_
    refine g_any (fun z_53 h_54 => ?_)
    have e_55 : M_48 (229 + 1) 1 = M_34 (229 + 1) 1 := (m_49 (229 + 1) 1 (by omega))
    have e_56 : M_48 (229 + 1) 3 = M_34 (229 + 1) 3 := (m_49 (229 + 1) 3 (by omega))
    refine g_putI (n := 110) hx plX10_534 (sX10_64 (by decide)) (dq tX10_takes1 72 rfl) rfl (by omega) (by omega) (fun M_57 m_58e m_58 => ?_)
    have g_59 : Gm M_57 := Gm.frame g_50 (fun c j hcj => m_58 c j (by omega))
    have g_60 : Rl M_57 := Rl.frame g_51 (fun c j hcj => m_58 c j (by omega))
    have e_61 : M_57 (229 + 1) 1 = M_48 (229 + 1) 1 := (m_58 (229 + 1) 1 (by omega))
    have e_62 : M_57 (229 + 1) 3 = M_48 (229 + 1) 3 := (m_58 (229 + 1) 3 (by omega))
    exact g_vret hx hr (dq tX10_takes1 73 rfl) ⟨(fun u_ v_ huv_ => ((((((m_58 u_ v_ (by omega)).trans (m_49 u_ v_ (by omega))).trans (f_35 u_ v_ (by omega))).trans (m_29 u_ v_ (by omega))).trans (m_23 u_ v_ (by omega))).trans (f_17 u_ v_ (by omega)))), g_59, g_60⟩
  refine g_icmp_ne (n := 43) (t := 61) hx (dq tX10_takes1 26 rfl) (by decide) rfl (zrI h_32l h_32u (by decide) (by decide)) ⟨by decide, by decide⟩ (fun c_33 => ?_) (fun c_33 => ?_)
  · refine g_aload_n (n := 62) hx 0 (dq tX10_takes1 39 rfl) rfl rfl ?_
    refine g_getR (n := 65) hx glX10_61 (sX10_18 (by decide)) (dq tX10_takes1 40 rfl) rfl ?_
    refine g_bipush (n := 67) hx (dq tX10_takes1 41 rfl) rfl (by decide) ?_
    refine g_iload_n (n := 68) hx 1 (dq tX10_takes1 42 rfl) rfl rfl ?_
    refine g_imul (n := 69) hx (dq tX10_takes1 43 rfl) rfl ?_
    refine g_aload_n (n := 70) hx 0 (dq tX10_takes1 44 rfl) rfl rfl ?_
    refine g_getR (n := 73) hx glX10_46 (sX10_13 (by decide)) (dq tX10_takes1 45 rfl) rfl ?_
    refine g_iload_n (n := 74) hx 1 (dq tX10_takes1 46 rfl) rfl rfl ?_
    refine g_iald (n := 75) (q := l.toNat) hx (aX10_13 (b := 229) (by decide)) (dq tX10_takes1 47 rfl) rfl (by omega) (by omega) (by omega) rfl (fun h_63l h_63u => ?_)
    refine g_iadd (n := 76) hx (dq tX10_takes1 48 rfl) rfl ?_
    refine g_iload_n (n := 77) hx 2 (dq tX10_takes1 49 rfl) rfl rfl ?_
    have e_64 : M_28 (229 + 1) 1 = M_22 (229 + 1) 1 := (m_29 (229 + 1) 1 (by omega))
    have e_65 : M_28 (229 + 1) 3 = M_22 (229 + 1) 3 := (m_29 (229 + 1) 3 (by omega))
    refine g_iast (n := 78) (q := ((6 * l) + (M_28 (229 + 13) l.toNat)).toNat) hx (aX10_18 (b := 229) (by decide)) (dq tX10_takes1 50 rfl) rfl (by omega) (by omega) (by omega) rfl (by omega) (by omega) (fun M_66 m_67e m_67 => ?_)
    have g_68 := Gm.notch g_30 m_67e m_67 (by omega) (by omega)
    have g_69 : Rl M_66 := Rl.frame g_31 (fun c j hcj => m_67 c j (by omega))
    refine g_aload_n (n := 79) hx 0 (dq tX10_takes1 51 rfl) rfl rfl ?_
    refine g_getR (n := 82) hx glX10_46 (sX10_13 (by decide)) (dq tX10_takes1 52 rfl) rfl ?_
    refine g_iload_n (n := 83) hx 1 (dq tX10_takes1 53 rfl) rfl rfl ?_
    refine g_dup2 (n := 84) hx (dq tX10_takes1 54 rfl) rfl rfl rfl ?_
    refine g_iald (n := 85) (q := l.toNat) hx (aX10_13 (b := 229) (by decide)) (dq tX10_takes1 55 rfl) rfl (by omega) (by omega) (by omega) rfl (fun h_70l h_70u => ?_)
    have e_71 : M_66 (229 + 13) l.toNat = M_28 (229 + 13) l.toNat := (m_67 (229 + 13) l.toNat (by omega))
    refine g_iconst (n := 86) hx (dq tX10_takes1 56 rfl) rfl ?_
    refine g_iadd (n := 87) hx (dq tX10_takes1 57 rfl) rfl ?_
    have e_72 : M_66 (229 + 1) 1 = M_28 (229 + 1) 1 := (m_67 (229 + 1) 1 (by omega))
    have e_73 : M_66 (229 + 1) 3 = M_28 (229 + 1) 3 := (m_67 (229 + 1) 3 (by omega))
    refine g_iast (n := 88) (q := l.toNat) hx (aX10_13 (b := 229) (by decide)) (dq tX10_takes1 58 rfl) rfl (by omega) (by omega) (by omega) rfl (by omega) (by omega) (fun M_74 m_75e m_75 => ?_)
    have g_76 : Gm M_74 := Gm.frame g_68 (fun c j hcj => m_75 c j (by omega))
    have g_77 : Rl M_74 := Rl.frame g_69 (fun c j hcj => m_75 c j (by omega))
    exact J_38 M_74 (fun u_ v_ huv_ => ((m_75 u_ v_ (by omega)).trans (m_67 u_ v_ (by omega)))) g_76 g_77
  · refine g_aload_n (n := 44) hx 0 (dq tX10_takes1 27 rfl) rfl rfl ?_
    refine g_getR (n := 47) hx glX10_61 (sX10_18 (by decide)) (dq tX10_takes1 28 rfl) rfl ?_
    refine g_bipush (n := 49) hx (dq tX10_takes1 29 rfl) rfl (by decide) ?_
    refine g_iload_n (n := 50) hx 1 (dq tX10_takes1 30 rfl) rfl rfl ?_
    refine g_imul (n := 51) hx (dq tX10_takes1 31 rfl) rfl ?_
    refine g_bipush (n := 53) hx (dq tX10_takes1 32 rfl) rfl (by decide) ?_
    refine g_iadd (n := 54) hx (dq tX10_takes1 33 rfl) rfl ?_
    refine g_iconst (n := 55) hx (dq tX10_takes1 34 rfl) rfl ?_
    refine g_isub (n := 56) hx (dq tX10_takes1 35 rfl) rfl ?_
    refine g_iload_n (n := 57) hx 2 (dq tX10_takes1 36 rfl) rfl rfl ?_
    have e_78 : M_28 (229 + 1) 1 = M_22 (229 + 1) 1 := (m_29 (229 + 1) 1 (by omega))
    have e_79 : M_28 (229 + 1) 3 = M_22 (229 + 1) 3 := (m_29 (229 + 1) 3 (by omega))
    refine g_iast (n := 58) (q := (((6 * l) + 6) - 1).toNat) hx (aX10_18 (b := 229) (by decide)) (dq tX10_takes1 37 rfl) rfl (by omega) (by omega) (by omega) rfl (by omega) (by omega) (fun M_80 m_81e m_81 => ?_)
    have g_82 := Gm.notch g_30 m_81e m_81 (by omega) (by omega)
    have g_83 : Rl M_80 := Rl.frame g_31 (fun c j hcj => m_81 c j (by omega))
    refine g_goto (n := 88) hx (dq tX10_takes1 38 rfl) (by decide) ?_
    exact J_38 M_80 (fun u_ v_ huv_ => (m_81 u_ v_ (by omega))) g_82 g_83

abbrev qctX10_worksVillage (M : zM) (v : Int) (M' : zM) : Prop := (∀ u_ v_, (u_ ≠ 229 ∨ v_ ≠ 61) ∧ (u_ ≠ 229 ∨ v_ ≠ 62) ∧ (u_ ≠ 229 ∨ v_ ≠ 63) ∧ (u_ ≠ 229 ∨ v_ ≠ 64) ∧ (u_ ≠ 229 ∨ v_ ≠ 65) ∧ (u_ ≠ 229 ∨ v_ ≠ 66) ∧ (u_ ≠ 229 ∨ v_ ≠ 67) ∧ (u_ ≠ 229 + 1 ∨ v_ ≠ 9) ∧ (u_ ≠ 229 + 1 ∨ v_ ≠ 13) ∧ u_ ≠ 229 + 7 ∧ u_ ≠ 229 + 8 ∧ u_ ≠ 229 + 12 ∧ u_ ≠ 229 + 13 ∧ u_ ≠ 229 + 14 ∧ u_ ≠ 229 + 15 ∧ u_ ≠ 229 + 18 → M' u_ v_ = M u_ v_) ∧ Gm M' ∧ Rl M'
set_option maxHeartbeats 4000000 in
set_option maxRecDepth 100000 in
theorem ctX10_worksVillage (Γ : Gam) (M : zM) (v : Int) (hvl : 0 ≤ v) (hvu : v ≤ 5) (pre0 : v < M (229 + 1) 1) (gm : Gm M) (rl : Rl M) : CtV Γ yX10_worksVillage cX10_worksVillage 4 none 8 191 [aR Γ 229, vI v] M (qctX10_worksVillage M v) := by
  refine met_v (by decide) (Nat.le_of_ble_eq_true rfl) (fun x hx hr => ?_)
  show G Γ x 4 (QV Γ x (qctX10_worksVillage M v)) M 0 [(0, aR Γ 229), (1, vI v)] []
  refine g_iconst (n := 1) hx (dq tX10_worksVillage 0 rfl) rfl ?_
  refine g_istore_n (n := 2) (lv' := [(2, vI 0), (0, aR Γ 229), (1, vI v)]) hx (dq tX10_worksVillage 1 rfl) (by decide) rfl rfl ?_
  have L_3 : ∀ (n_ : Nat) (i_1 : Int) (M_2 : zM), (0 ≤ i_1) → (i_1 ≤ 12) → (∀ u_ v_, (u_ ≠ 229 ∨ v_ ≠ 61) ∧ (u_ ≠ 229 ∨ v_ ≠ 62) ∧ (u_ ≠ 229 ∨ v_ ≠ 63) ∧ (u_ ≠ 229 ∨ v_ ≠ 64) ∧ (u_ ≠ 229 ∨ v_ ≠ 65) ∧ (u_ ≠ 229 ∨ v_ ≠ 66) ∧ (u_ ≠ 229 ∨ v_ ≠ 67) ∧ (u_ ≠ 229 + 1 ∨ v_ ≠ 9) ∧ (u_ ≠ 229 + 1 ∨ v_ ≠ 13) ∧ u_ ≠ 229 + 7 ∧ u_ ≠ 229 + 8 ∧ u_ ≠ 229 + 12 ∧ u_ ≠ 229 + 13 ∧ u_ ≠ 229 + 14 ∧ u_ ≠ 229 + 15 ∧ u_ ≠ 229 + 18 → M_2 u_ v_ = M u_ v_) → (Gm M_2) → (Rl M_2) → ((12 - i_1).toNat = n_) → G Γ x 4 (QV Γ x (qctX10_worksVillage M v)) M_2 2 [(2, vI i_1), (0, aR Γ 229), (1, vI v)] [] := by
    intro n_
    induction n_ using Nat.strongRecOn with
    | _ n_ ih_4 =>
      intro i_1 M_2 h_9 h_10 f_5 g_6 g_7 hm_8
      refine g_iload_n (n := 3) hx 0 (dq tX10_worksVillage 2 rfl) rfl rfl ?_
      refine g_aload_n (n := 4) hx 1 (dq tX10_worksVillage 3 rfl) rfl rfl ?_
      refine g_getR (n := 7) hx glX10_9 (sX10_1 (by decide)) (dq tX10_worksVillage 4 rfl) rfl ?_
      refine g_iconst (n := 8) hx (dq tX10_worksVillage 5 rfl) rfl ?_
      refine g_ialdX (n := 9) (q := 3) hx (aX10_1 (b := 229) (by decide)) (dq tX10_worksVillage 6 rfl) rfl (by decide) (by decide) (by decide) rfl (fun h_11l h_11u => ?_)
      have h_11l : 0 ≤ M_2 (229 + 1) 3 := h_11l
      have h_11u : M_2 (229 + 1) 3 ≤ 12 := h_11u
      have e_12 : M_2 (229 + 1) 3 = M (229 + 1) 3 := (f_5 (229 + 1) 3 (by omega))
      refine g_icmp_ge (n := 12) (t := 60) hx (dq tX10_worksVillage 7 rfl) (by decide) rfl ⟨by omega, by omega⟩ (zrI h_11l h_11u (by decide) (by decide)) (fun c_13 => ?_) (fun c_13 => ?_)
      · refine g_iconst (n := 61) hx (dq tX10_worksVillage 36 rfl) rfl ?_
        refine g_istore_n (n := 62) (lv' := [(2, vI 0), (0, aR Γ 229), (1, vI v)]) hx (dq tX10_worksVillage 37 rfl) (by decide) rfl rfl ?_
        have L_16 : ∀ (n_ : Nat) (i_14 : Int) (M_15 : zM), (0 ≤ i_14) → (i_14 ≤ 12) → (∀ u_ v_, (u_ ≠ 229 ∨ v_ ≠ 65) ∧ u_ ≠ 229 + 12 → M_15 u_ v_ = M_2 u_ v_) → (Gm M_15) → (Rl M_15) → ((12 - i_14).toNat = n_) → G Γ x 4 (QV Γ x (qctX10_worksVillage M v)) M_15 62 [(2, vI i_14), (0, aR Γ 229), (1, vI v)] [] := by
          intro n_
          induction n_ using Nat.strongRecOn with
          | _ n_ ih_17 =>
            intro i_14 M_15 h_22 h_23 f_18 g_19 g_20 hm_21
            refine g_iload_n (n := 63) hx 0 (dq tX10_worksVillage 38 rfl) rfl rfl ?_
            refine g_aload_n (n := 64) hx 1 (dq tX10_worksVillage 39 rfl) rfl rfl ?_
            refine g_getR (n := 67) hx glX10_9 (sX10_1 (by decide)) (dq tX10_worksVillage 40 rfl) rfl ?_
            refine g_iconst (n := 68) hx (dq tX10_worksVillage 41 rfl) rfl ?_
            refine g_ialdX (n := 69) (q := 3) hx (aX10_1 (b := 229) (by decide)) (dq tX10_worksVillage 42 rfl) rfl (by decide) (by decide) (by decide) rfl (fun h_24l h_24u => ?_)
            have h_24l : 0 ≤ M_15 (229 + 1) 3 := h_24l
            have h_24u : M_15 (229 + 1) 3 ≤ 12 := h_24u
            have e_25 : M_15 (229 + 1) 3 = M_2 (229 + 1) 3 := (f_18 (229 + 1) 3 (by omega))
            refine g_icmp_ge (n := 72) (t := 173) hx (dq tX10_worksVillage 43 rfl) (by decide) rfl ⟨by omega, by omega⟩ (zrI h_24l h_24u (by decide) (by decide)) (fun c_26 => ?_) (fun c_26 => ?_)
            · have e_27 : M_15 (229 + 1) 1 = M (229 + 1) 1 := ((f_18 (229 + 1) 1 (by omega))).trans (f_5 (229 + 1) 1 (by omega))
              exact g_vret hx hr (dq tX10_worksVillage 104 rfl) ⟨(fun u_ v_ huv_ => ((f_18 u_ v_ (by omega)).trans (f_5 u_ v_ (by omega)))), g_19, g_20⟩
            · refine g_aload_n (n := 73) hx 1 (dq tX10_worksVillage 44 rfl) rfl rfl ?_
              refine g_getR (n := 76) hx glX10_43 (sX10_12 (by decide)) (dq tX10_worksVillage 45 rfl) rfl ?_
              refine g_iload_n (n := 77) hx 0 (dq tX10_worksVillage 46 rfl) rfl rfl ?_
              refine g_iald (n := 78) (q := i_14.toNat) hx (aX10_12 (b := 229) (by decide)) (dq tX10_worksVillage 47 rfl) rfl (by omega) (by omega) (by omega) rfl (fun h_28l h_28u => ?_)
              refine g_bipush (n := 80) hx (dq tX10_worksVillage 48 rfl) rfl (by decide) ?_
              refine g_iload_n (n := 81) hx 2 (dq tX10_worksVillage 49 rfl) rfl rfl ?_
              refine g_iadd (n := 82) hx (dq tX10_worksVillage 50 rfl) rfl ?_
              have J_31 : ∀ (j_30 : Int),  (0 ≤ j_30) → (j_30 ≤ 1) → G Γ x 4 (QV Γ x (qctX10_worksVillage M v)) M_15 101 [(2, vI i_14), (0, aR Γ 229), (1, vI v)] [vI j_30] := by
                intro j_30 h_32 h_33
                refine g_istore_n (n := 102) (lv' := [(3, vI j_30), (2, vI i_14), (0, aR Γ 229), (1, vI v)]) hx (dq tX10_worksVillage 62 rfl) (by decide) rfl rfl ?_
                refine g_iload_n (n := 103) hx 0 (dq tX10_worksVillage 63 rfl) rfl rfl ?_
                refine g_if_eq (n := 106) (t := 167) hx (dq tX10_worksVillage 64 rfl) (by decide) rfl ⟨by omega, by omega⟩ (fun c_34 => ?_) (fun c_34 => ?_)
                · refine g_iinc (n := 170) (lv' := [(2, vI (i_14 + 1)), (3, vI j_30), (0, aR Γ 229), (1, vI v)]) hx 1 (dq tX10_worksVillage 102 rfl) rfl (by decide) rfl rfl ?_
                  refine g_goto (n := 62) hx (dq tX10_worksVillage 103 rfl) (by decide) ?_
                  have e_35 : M_15 (229 + 1) 1 = M (229 + 1) 1 := ((f_18 (229 + 1) 1 (by omega))).trans (f_5 (229 + 1) 1 (by omega))
                  refine g_lv [0, 2, 3] rfl ?_
                  exact ih_17 _ (by omega) (i_14 + 1) M_15 (by omega) (by omega) (fun u_ v_ huv_ => (f_18 u_ v_ (by omega))) g_19 g_20 rfl
                · refine g_aload_n (n := 107) hx 2 (dq tX10_worksVillage 65 rfl) rfl rfl ?_
                  refine g_aload_n (n := 108) hx 2 (dq tX10_worksVillage 66 rfl) rfl rfl ?_
                  refine g_getR (n := 111) hx glX10_25 (sX10_6 (by decide)) (dq tX10_worksVillage 67 rfl) rfl ?_
                  refine g_iload_n (n := 112) hx 3 (dq tX10_worksVillage 68 rfl) rfl rfl ?_
                  refine g_iald (n := 113) (q := v.toNat) hx (aX10_6 (b := 229) (by decide)) (dq tX10_worksVillage 69 rfl) rfl (by omega) (by omega) (by omega) rfl (fun h_36l h_36u => ?_)
                  refine g_iconst (n := 114) hx (dq tX10_worksVillage 70 rfl) rfl ?_
                  refine g_iload_n (n := 115) hx 1 (dq tX10_worksVillage 71 rfl) rfl rfl ?_
                  refine g_iload_n (n := 116) hx 3 (dq tX10_worksVillage 72 rfl) rfl rfl ?_
                  refine g_aload_n (n := 117) hx 2 (dq tX10_worksVillage 73 rfl) rfl rfl ?_
                  refine g_aload_n (n := 118) hx 2 (dq tX10_worksVillage 74 rfl) rfl rfl ?_
                  refine g_getR (n := 121) hx glX10_22 (sX10_5 (by decide)) (dq tX10_worksVillage 75 rfl) rfl ?_
                  refine g_iload_n (n := 122) hx 3 (dq tX10_worksVillage 76 rfl) rfl rfl ?_
                  refine g_iald (n := 123) (q := v.toNat) hx (aX10_5 (b := 229) (by decide)) (dq tX10_worksVillage 77 rfl) rfl (by omega) (by omega) (by omega) rfl (fun h_37l h_37u => ?_)
                  have e_38 : M_15 (229 + 1) 1 = M (229 + 1) 1 := ((f_18 (229 + 1) 1 (by omega))).trans (f_5 (229 + 1) 1 (by omega))
                  refine g_iv (fun h_40 => ?_)
                  have h_40v : (0 : Int) ≤ M_15 (229 + 1) 1 ∧ M_15 (229 + 1) 1 ≤ 6 := h_40 230 1
                  have h_40l : (0 : Int) ≤ M_15 (229 + 1) 3 ∧ M_15 (229 + 1) 3 ≤ 12 := h_40 230 3
                  clear h_40
                  have h_39 := g_19.1 v.toNat (by omega)
                  refine g_callVi (n := 126) (As := [vI (M_15 (229 + 5) v.toNat)]) (rest := [vI v, vI i_14, vI 2, vI (M_15 (229 + 6) v.toNat), aR Γ 229]) hx (ctX10_roomAt Γ M_15 (M_15 (229 + 5) v.toNat) (by omega) (by omega)) mlX10_470 (obX10 (by decide)) (dq tX10_worksVillage 78 rfl) rfl (Nat.le_of_ble_eq_true rfl) (Nat.le_of_ble_eq_true rfl) (Nat.le_of_ble_eq_true rfl) rfl (fun z_41 M_42 h_43 p_44 => ?_)
                  obtain rfl := p_44
                  refine g_callVi (n := 129) (As := [vI (M_15 (229 + 6) v.toNat), vI 2, vI i_14, vI v, vI z_41]) (rest := []) hx (ctX10_saysOf Γ M_15 (M_15 (229 + 6) v.toNat) (by omega) (by omega) 2 (by decide) (by decide) i_14 (by omega) (by omega) v (by omega) (by omega) z_41 (by omega) (by omega) (Rl.bound g_20 v.toNat (by omega)) (by omega) g_19 g_20) mlX10_549 (obX10 (by decide)) (dq tX10_worksVillage 79 rfl) rfl (Nat.le_of_ble_eq_true rfl) (Nat.le_of_ble_eq_true rfl) (Nat.le_of_ble_eq_true rfl) rfl (fun z_46 M_47 h_48 p_49 => ?_)
                  obtain ⟨rfl, b_51⟩ := p_49
                  refine g_if_eq (n := 132) (t := 167) hx (dq tX10_worksVillage 80 rfl) (by decide) rfl h_48 (fun c_52 => ?_) (fun c_52 => ?_)
                  · clear b_51
                    refine g_iinc (n := 170) (lv' := [(2, vI (i_14 + 1)), (3, vI j_30), (0, aR Γ 229), (1, vI v)]) hx 1 (dq tX10_worksVillage 102 rfl) rfl (by decide) rfl rfl ?_
                    refine g_goto (n := 62) hx (dq tX10_worksVillage 103 rfl) (by decide) ?_
                    refine g_lv [0, 2, 3] rfl ?_
                    exact ih_17 _ (by omega) (i_14 + 1) M_15 (by omega) (by omega) (fun u_ v_ huv_ => (f_18 u_ v_ (by omega))) g_19 g_20 rfl
                  · have b_51 := b_51.resolve_left c_52
                    refine g_aload_n (n := 133) hx 2 (dq tX10_worksVillage 81 rfl) rfl rfl ?_
                    refine g_aload_n (n := 134) hx 2 (dq tX10_worksVillage 82 rfl) rfl rfl ?_
                    refine g_getR (n := 137) hx glX10_22 (sX10_5 (by decide)) (dq tX10_worksVillage 83 rfl) rfl ?_
                    refine g_iload_n (n := 138) hx 3 (dq tX10_worksVillage 84 rfl) rfl rfl ?_
                    refine g_iald (n := 139) (q := v.toNat) hx (aX10_5 (b := 229) (by decide)) (dq tX10_worksVillage 85 rfl) rfl (by omega) (by omega) (by omega) rfl (fun h_53l h_53u => ?_)
                    refine g_iv (fun h_55 => ?_)
                    have h_55v : (0 : Int) ≤ M_15 (229 + 1) 1 ∧ M_15 (229 + 1) 1 ≤ 6 := h_55 230 1
                    have h_55l : (0 : Int) ≤ M_15 (229 + 1) 3 ∧ M_15 (229 + 1) 3 ≤ 12 := h_55 230 3
                    clear h_55
                    have h_54 := g_19.1 v.toNat (by omega)
                    refine g_callVi (n := 142) (As := [vI (M_15 (229 + 5) v.toNat)]) (rest := []) hx (ctX10_roomAt Γ M_15 (M_15 (229 + 5) v.toNat) (by omega) (by omega)) mlX10_470 (obX10 (by decide)) (dq tX10_worksVillage 86 rfl) rfl (Nat.le_of_ble_eq_true rfl) (Nat.le_of_ble_eq_true rfl) (Nat.le_of_ble_eq_true rfl) rfl (fun z_56 M_57 h_58 p_59 => ?_)
                    obtain rfl := p_59
                    refine g_if_le (n := 145) (t := 167) hx (dq tX10_worksVillage 87 rfl) (by decide) rfl h_58 (fun c_61 => ?_) (fun c_61 => ?_)
                    · refine g_iinc (n := 170) (lv' := [(2, vI (i_14 + 1)), (3, vI j_30), (0, aR Γ 229), (1, vI v)]) hx 1 (dq tX10_worksVillage 102 rfl) rfl (by decide) rfl rfl ?_
                      refine g_goto (n := 62) hx (dq tX10_worksVillage 103 rfl) (by decide) ?_
                      refine g_lv [0, 2, 3] rfl ?_
                      exact ih_17 _ (by omega) (i_14 + 1) M_15 (by omega) (by omega) (fun u_ v_ huv_ => (f_18 u_ v_ (by omega))) g_19 g_20 rfl
                    · refine g_aload_n (n := 146) hx 2 (dq tX10_worksVillage 88 rfl) rfl rfl ?_
                      refine g_getR (n := 149) hx glX10_43 (sX10_12 (by decide)) (dq tX10_worksVillage 89 rfl) rfl ?_
                      refine g_iload_n (n := 150) hx 1 (dq tX10_worksVillage 90 rfl) rfl rfl ?_
                      refine g_aload_n (n := 151) hx 2 (dq tX10_worksVillage 91 rfl) rfl rfl ?_
                      refine g_getR (n := 154) hx glX10_22 (sX10_5 (by decide)) (dq tX10_worksVillage 92 rfl) rfl ?_
                      refine g_iload_n (n := 155) hx 3 (dq tX10_worksVillage 93 rfl) rfl rfl ?_
                      refine g_iald (n := 156) (q := v.toNat) hx (aX10_5 (b := 229) (by decide)) (dq tX10_worksVillage 94 rfl) rfl (by omega) (by omega) (by omega) rfl (fun h_62l h_62u => ?_)
                      refine g_iv (fun h_64 => ?_)
                      have h_64v : (0 : Int) ≤ M_15 (229 + 1) 1 ∧ M_15 (229 + 1) 1 ≤ 6 := h_64 230 1
                      have h_64l : (0 : Int) ≤ M_15 (229 + 1) 3 ∧ M_15 (229 + 1) 3 ≤ 12 := h_64 230 3
                      clear h_64
                      have h_63 := g_19.1 v.toNat (by omega)
                      refine g_iast (n := 157) (q := i_14.toNat) hx (aX10_12 (b := 229) (by decide)) (dq tX10_worksVillage 95 rfl) rfl (by omega) (by omega) (by omega) rfl (by omega) (by omega) (fun M_65 m_66e m_66 => ?_)
                      have g_67 := Gm.place g_19 m_66e m_66 (by unfold PlOk; omega)
                      have g_68 : Rl M_65 := Rl.frame g_20 (fun c j hcj => m_66 c j (by omega))
                      refine g_aload_n (n := 158) hx 2 (dq tX10_worksVillage 96 rfl) rfl rfl ?_
                      refine g_dup (n := 159) hx (dq tX10_worksVillage 97 rfl) rfl rfl ?_
                      refine g_getI (n := 162) hx glX10_537 (sX10_65 (by decide)) (dq tX10_worksVillage 98 rfl) rfl (fun h_69l h_69u => ?_)
                      refine g_iconst (n := 163) hx (dq tX10_worksVillage 99 rfl) rfl ?_
                      refine g_iadd (n := 164) hx (dq tX10_worksVillage 100 rfl) rfl ?_
                      refine g_any (fun z_70 h_71 => ?_)
                      have e_72 : M_65 (229 + 1) 1 = M_15 (229 + 1) 1 := (m_66 (229 + 1) 1 (by omega))
                      have e_73 : M_65 (229 + 1) 3 = M_15 (229 + 1) 3 := (m_66 (229 + 1) 3 (by omega))
                      refine g_putI (n := 167) hx plX10_537 (sX10_65 (by decide)) (dq tX10_worksVillage 101 rfl) rfl (by omega) (by omega) (fun M_74 m_75e m_75 => ?_)
                      have g_76 : Gm M_74 := Gm.frame g_67 (fun c j hcj => m_75 c j (by omega))
                      have g_77 : Rl M_74 := Rl.frame g_68 (fun c j hcj => m_75 c j (by omega))
                      refine g_iinc (n := 170) (lv' := [(2, vI (i_14 + 1)), (3, vI j_30), (0, aR Γ 229), (1, vI v)]) hx 1 (dq tX10_worksVillage 102 rfl) rfl (by decide) rfl rfl ?_
                      refine g_goto (n := 62) hx (dq tX10_worksVillage 103 rfl) (by decide) ?_
                      have e_78 : M_74 (229 + 1) 1 = M_65 (229 + 1) 1 := (m_75 (229 + 1) 1 (by omega))
                      have e_79 : M_74 (229 + 1) 3 = M_65 (229 + 1) 3 := (m_75 (229 + 1) 3 (by omega))
                      refine g_lv [0, 2, 3] rfl ?_
                      exact ih_17 _ (by omega) (i_14 + 1) M_74 (by omega) (by omega) (fun u_ v_ huv_ => (((m_75 u_ v_ (by omega)).trans (m_66 u_ v_ (by omega))).trans (f_18 u_ v_ (by omega)))) g_76 g_77 rfl
              refine g_icmp_ne (n := 85) (t := 100) hx (dq tX10_worksVillage 51 rfl) (by decide) rfl (zrI h_28l h_28u (by decide) (by decide)) ⟨by omega, by omega⟩ (fun c_29 => ?_) (fun c_29 => ?_)
              · refine g_iconst (n := 101) hx (dq tX10_worksVillage 61 rfl) rfl ?_
                exact J_31 0 (by omega) (by omega)
              · refine g_aload_n (n := 86) hx 1 (dq tX10_worksVillage 52 rfl) rfl rfl ?_
                refine g_getI (n := 89) hx glX10_559 (sX10_67 (by decide)) (dq tX10_worksVillage 53 rfl) rfl (fun h_80l h_80u => ?_)
                refine g_iload_n (n := 90) hx 0 (dq tX10_worksVillage 54 rfl) rfl rfl ?_
                refine g_ishr (n := 91) hx (dq tX10_worksVillage 55 rfl) rfl (fun z_81 h_82 => ?_)
                refine g_iconst (n := 92) hx (dq tX10_worksVillage 56 rfl) rfl ?_
                refine g_iand (n := 93) hx (dq tX10_worksVillage 57 rfl) rfl (fun z_84 h_85 h_861 h_862 => ?_)
                obtain ⟨h_863, h_864⟩ := h_861 (by omega) (by omega)
                clear h_861 h_862
                refine g_if_ne (n := 96) (t := 100) hx (dq tX10_worksVillage 58 rfl) (by decide) rfl h_85 (fun c_87 => ?_) (fun c_87 => ?_)
                · refine g_iconst (n := 101) hx (dq tX10_worksVillage 61 rfl) rfl ?_
                  exact J_31 0 (by omega) (by omega)
                · refine g_iconst (n := 97) hx (dq tX10_worksVillage 59 rfl) rfl ?_
                  refine g_goto (n := 101) hx (dq tX10_worksVillage 60 rfl) (by decide) ?_
                  exact J_31 1 (by omega) (by omega)
        have e_88 : M_2 (229 + 1) 1 = M (229 + 1) 1 := (f_5 (229 + 1) 1 (by omega))
        exact L_16 _ 0 M_2 (by omega) (by omega) (fun _ _ _ => rfl) g_6 g_7 rfl
      · refine g_aload_n (n := 13) hx 1 (dq tX10_worksVillage 8 rfl) rfl rfl ?_
        refine g_getR (n := 16) hx glX10_43 (sX10_12 (by decide)) (dq tX10_worksVillage 9 rfl) rfl ?_
        refine g_iload_n (n := 17) hx 0 (dq tX10_worksVillage 10 rfl) rfl rfl ?_
        refine g_iald (n := 18) (q := i_1.toNat) hx (aX10_12 (b := 229) (by decide)) (dq tX10_worksVillage 11 rfl) rfl (by omega) (by omega) (by omega) rfl (fun h_89l h_89u => ?_)
        refine g_aload_n (n := 19) hx 1 (dq tX10_worksVillage 12 rfl) rfl rfl ?_
        refine g_getR (n := 22) hx glX10_22 (sX10_5 (by decide)) (dq tX10_worksVillage 13 rfl) rfl ?_
        refine g_iload_n (n := 23) hx 2 (dq tX10_worksVillage 14 rfl) rfl rfl ?_
        refine g_iald (n := 24) (q := v.toNat) hx (aX10_5 (b := 229) (by decide)) (dq tX10_worksVillage 15 rfl) rfl (by omega) (by omega) (by omega) rfl (fun h_90l h_90u => ?_)
        have e_91 : M_2 (229 + 1) 1 = M (229 + 1) 1 := (f_5 (229 + 1) 1 (by omega))
        refine g_iv (fun h_93 => ?_)
        have h_93v : (0 : Int) ≤ M_2 (229 + 1) 1 ∧ M_2 (229 + 1) 1 ≤ 6 := h_93 230 1
        have h_93l : (0 : Int) ≤ M_2 (229 + 1) 3 ∧ M_2 (229 + 1) 3 ≤ 12 := h_93 230 3
        clear h_93
        have h_92 := g_6.1 v.toNat (by omega)
        refine g_icmp_ne (n := 27) (t := 54) hx (dq tX10_worksVillage 16 rfl) (by decide) rfl (zrI h_89l h_89u (by decide) (by decide)) (zrI h_90l h_90u (by decide) (by decide)) (fun c_94 => ?_) (fun c_94 => ?_)
        · refine g_iinc (n := 57) (lv' := [(2, vI (i_1 + 1)), (0, aR Γ 229), (1, vI v)]) hx 0 (dq tX10_worksVillage 34 rfl) rfl (by decide) rfl rfl ?_
          refine g_goto (n := 2) hx (dq tX10_worksVillage 35 rfl) (by decide) ?_
          exact ih_4 _ (by omega) (i_1 + 1) M_2 (by omega) (by omega) (fun u_ v_ huv_ => (f_5 u_ v_ (by omega))) g_6 g_7 rfl
        · refine g_aload_n (n := 28) hx 1 (dq tX10_worksVillage 17 rfl) rfl rfl ?_
          refine g_aload_n (n := 29) hx 1 (dq tX10_worksVillage 18 rfl) rfl rfl ?_
          refine g_getR (n := 32) hx glX10_25 (sX10_6 (by decide)) (dq tX10_worksVillage 19 rfl) rfl ?_
          refine g_iload_n (n := 33) hx 2 (dq tX10_worksVillage 20 rfl) rfl rfl ?_
          refine g_iald (n := 34) (q := v.toNat) hx (aX10_6 (b := 229) (by decide)) (dq tX10_worksVillage 21 rfl) rfl (by omega) (by omega) (by omega) rfl (fun h_95l h_95u => ?_)
          refine g_iconst (n := 35) hx (dq tX10_worksVillage 22 rfl) rfl ?_
          refine g_iload_n (n := 36) hx 0 (dq tX10_worksVillage 23 rfl) rfl rfl ?_
          refine g_iload_n (n := 37) hx 2 (dq tX10_worksVillage 24 rfl) rfl rfl ?_
          refine g_aload_n (n := 38) hx 1 (dq tX10_worksVillage 25 rfl) rfl rfl ?_
          refine g_iload_n (n := 39) hx 0 (dq tX10_worksVillage 26 rfl) rfl rfl ?_
          refine g_callVi (n := 42) (As := [vI i_1]) (rest := [vI v, vI i_1, vI 1, vI (M_2 (229 + 6) v.toNat), aR Γ 229]) hx (ctX10_roomAhead Γ M_2 i_1 (by omega) (by omega) (by omega) g_6) mlX10_506 (obX10 (by decide)) (dq tX10_worksVillage 27 rfl) rfl (Nat.le_of_ble_eq_true rfl) (Nat.le_of_ble_eq_true rfl) (Nat.le_of_ble_eq_true rfl) rfl (fun z_96 M_97 h_98 p_99 => ?_)
          obtain rfl := p_99
          refine g_callVi (n := 45) (As := [vI (M_2 (229 + 6) v.toNat), vI 1, vI i_1, vI v, vI z_96]) (rest := []) hx (ctX10_saysOf Γ M_2 (M_2 (229 + 6) v.toNat) (by omega) (by omega) 1 (by decide) (by decide) i_1 (by omega) (by omega) v (by omega) (by omega) z_96 (by omega) (by omega) (Rl.bound g_7 v.toNat (by omega)) (by omega) g_6 g_7) mlX10_549 (obX10 (by decide)) (dq tX10_worksVillage 28 rfl) rfl (Nat.le_of_ble_eq_true rfl) (Nat.le_of_ble_eq_true rfl) (Nat.le_of_ble_eq_true rfl) rfl (fun z_101 M_102 h_103 p_104 => ?_)
          obtain ⟨rfl, b_106⟩ := p_104
          refine g_if_eq (n := 48) (t := 54) hx (dq tX10_worksVillage 29 rfl) (by decide) rfl h_103 (fun c_107 => ?_) (fun c_107 => ?_)
          · clear b_106
            refine g_iinc (n := 57) (lv' := [(2, vI (i_1 + 1)), (0, aR Γ 229), (1, vI v)]) hx 0 (dq tX10_worksVillage 34 rfl) rfl (by decide) rfl rfl ?_
            refine g_goto (n := 2) hx (dq tX10_worksVillage 35 rfl) (by decide) ?_
            exact ih_4 _ (by omega) (i_1 + 1) M_2 (by omega) (by omega) (fun u_ v_ huv_ => (f_5 u_ v_ (by omega))) g_6 g_7 rfl
          · have b_106 := b_106.resolve_left c_107
            refine g_aload_n (n := 49) hx 1 (dq tX10_worksVillage 30 rfl) rfl rfl ?_
            refine g_iload_n (n := 50) hx 0 (dq tX10_worksVillage 31 rfl) rfl rfl ?_
            refine g_iload_n (n := 51) hx 2 (dq tX10_worksVillage 32 rfl) rfl rfl ?_
            refine g_callVv (n := 54) (As := [vI i_1, vI v]) (rest := []) hx (ctX10_takes1 Γ M_2 i_1 (by omega) (by omega) v (by omega) (by omega) (by omega) (by omega) g_6 g_7) mlX10_562 (obX10 (by decide)) (dq tX10_worksVillage 33 rfl) rfl (Nat.le_of_ble_eq_true rfl) (Nat.le_of_ble_eq_true rfl) (Nat.le_of_ble_eq_true rfl) rfl (fun M_109 p_111 => ?_)
            obtain ⟨f_112, g_113, g_114⟩ := p_111
            refine g_iinc (n := 57) (lv' := [(2, vI (i_1 + 1)), (0, aR Γ 229), (1, vI v)]) hx 0 (dq tX10_worksVillage 34 rfl) rfl (by decide) rfl rfl ?_
            refine g_goto (n := 2) hx (dq tX10_worksVillage 35 rfl) (by decide) ?_
            have e_115 : M_109 (229 + 1) 1 = M_2 (229 + 1) 1 := (f_112 (229 + 1) 1 (by omega))
            have e_116 : M_109 (229 + 1) 3 = M_2 (229 + 1) 3 := (f_112 (229 + 1) 3 (by omega))
            exact ih_4 _ (by omega) (i_1 + 1) M_109 (by omega) (by omega) (fun u_ v_ huv_ => ((f_112 u_ v_ (by omega)).trans (f_5 u_ v_ (by omega)))) g_113 g_114 rfl
  exact L_3 _ 0 M (by omega) (by omega) (fun _ _ _ => rfl) gm rl rfl
