abbrev qctX10_starts3 (M : zM)  (M' : zM) : Prop := (∀ u_ v_, (u_ ≠ 229 ∨ v_ ≠ 38) ∧ (u_ ≠ 229 ∨ v_ ≠ 39) ∧ (u_ ≠ 229 ∨ v_ ≠ 42) ∧ (u_ ≠ 229 ∨ v_ ≠ 43) ∧ (u_ ≠ 229 ∨ v_ ≠ 44) → M' u_ v_ = M u_ v_) ∧ (M' 229 38 = 0) ∧ (M' 229 39 = 0) ∧ (M' 229 42 = 0) ∧ (M' 229 44 = 0) ∧ (M' 229 43 = 0)
set_option maxHeartbeats 4000000 in
set_option maxRecDepth 100000 in
theorem ctX10_starts3 (Γ : Gam) (M : zM)   : CtV Γ yX10_starts cX10_starts 1 none 0 0 [aR Γ 229] M (qctX10_starts3 M) := by
  refine met_v (by decide) (Nat.le_of_ble_eq_true rfl) (fun x hx hr => ?_)
  show G Γ x 1 (QV Γ x (qctX10_starts3 M)) M 0 [(0, aR Γ 229)] []
  refine g_aload_n (n := 1) hx 0 (dq tX10_starts 0 rfl) rfl rfl ?_
  refine g_iconst (n := 2) hx (dq tX10_starts 1 rfl) rfl ?_
  refine g_putI (n := 5) hx plX10_249 (sX10_38 (by decide)) (dq tX10_starts 2 rfl) rfl (by omega) (by omega) (fun M_1 m_2e m_2 => ?_)
  refine g_aload_n (n := 6) hx 0 (dq tX10_starts 3 rfl) rfl rfl ?_
  refine g_iconst (n := 7) hx (dq tX10_starts 4 rfl) rfl ?_
  refine g_putI (n := 10) hx plX10_246 (sX10_39 (by decide)) (dq tX10_starts 5 rfl) rfl (by omega) (by omega) (fun M_3 m_4e m_4 => ?_)
  refine g_aload_n (n := 11) hx 0 (dq tX10_starts 6 rfl) rfl rfl ?_
  refine g_iconst (n := 12) hx (dq tX10_starts 7 rfl) rfl ?_
  refine g_putI (n := 15) hx plX10_278 (sX10_42 (by decide)) (dq tX10_starts 8 rfl) rfl (by omega) (by omega) (fun M_5 m_6e m_6 => ?_)
  refine g_aload_n (n := 16) hx 0 (dq tX10_starts 9 rfl) rfl rfl ?_
  refine g_iconst (n := 17) hx (dq tX10_starts 10 rfl) rfl ?_
  refine g_putI (n := 20) hx plX10_318 (sX10_43 (by decide)) (dq tX10_starts 11 rfl) rfl (by omega) (by omega) (fun M_7 m_8e m_8 => ?_)
  refine g_aload_n (n := 21) hx 0 (dq tX10_starts 12 rfl) rfl rfl ?_
  refine g_iconst (n := 22) hx (dq tX10_starts 13 rfl) rfl ?_
  refine g_putI (n := 25) hx plX10_281 (sX10_44 (by decide)) (dq tX10_starts 14 rfl) rfl (by omega) (by omega) (fun M_9 m_10e m_10 => ?_)
  exact g_vret hx hr (dq tX10_starts 15 rfl) ⟨(fun u_ v_ huv_ => (((((m_10 u_ v_ huv_.2.2.2.2).trans (m_8 u_ v_ huv_.2.2.2.1)).trans (m_6 u_ v_ huv_.2.2.1)).trans (m_4 u_ v_ huv_.2.1)).trans (m_2 u_ v_ huv_.1))), ((((((m_10 229 38 (by omega)).trans (m_8 229 38 (by omega))).trans (m_6 229 38 (by omega))).trans (m_4 229 38 (by omega)))).trans m_2e), (((((m_10 229 39 (by omega)).trans (m_8 229 39 (by omega))).trans (m_6 229 39 (by omega)))).trans m_4e), ((((m_10 229 42 (by omega)).trans (m_8 229 42 (by omega)))).trans m_6e), ((rfl).trans m_10e), (((m_10 229 43 (by omega))).trans m_8e)⟩

abbrev qctX10_goesOn3 (M : zM) (t9 : Nat → Int) (n9 : Nat) (a9 : Nat) (z : Int) (M' : zM) : Prop := (∀ u_ v_, (u_ ≠ 229 ∨ v_ ≠ 38) ∧ (u_ ≠ 229 ∨ v_ ≠ 39) → M' u_ v_ = M u_ v_) ∧ 0 ≤ z ∧ z ≤ 1 ∧ (M 229 38 + 1 ≤ M' 229 38) ∧ (M' 229 39 = 0 → M 229 39 = 0) ∧ (M' 229 38 ≤ 402) ∧ ((z = 1 ∧ M 229 39 = 0 ∧ fst9 t9 n9 (sk t9 n9 a9) = 59 ∧ M' 229 39 = 0 ∧ M' 229 38 = sk t9 n9 a9 + 1 ∧ M' 229 38 ≤ M 229 37) ∨ (z = 0 ∧ ((M 229 39 ≠ 0 ∧ M' 229 39 = M 229 39) ∨ (M 229 39 = 0 ∧ fst9 t9 n9 (sk t9 n9 a9) = -1 ∧ M' 229 39 = 0) ∨ (M 229 39 = 0 ∧ fst9 t9 n9 (sk t9 n9 a9) ≠ -1 ∧ fst9 t9 n9 (sk t9 n9 a9) ≠ 59 ∧ M' 229 39 = 1 + 8 * ((sk t9 n9 a9 : Nat) : Int) + 0))))
set_option maxHeartbeats 4000000 in
set_option maxRecDepth 100000 in
theorem ctX10_goesOn3 (Γ : Gam) (M : zM) (t9 : Nat → Int) (n9 : Nat) (a9 : Nat) (pre0 : M 229 38 ≤ 401) (pre1 : M 229 38 = a9) (ex0 : Ty M t9 n9) : CtI Γ yX10_goesOn cX10_goesOn 2 (some .boolean) 2 40 [aR Γ 229] M (qctX10_goesOn3 M t9 n9 a9) := by
  refine met_i (by decide) (Nat.le_of_ble_eq_true rfl) (fun x hx hr => ?_)
  show G Γ x 2 (QI Γ x (qctX10_goesOn3 M t9 n9 a9)) M 0 [(0, aR Γ 229)] []
  refine g_iv (fun hI0 => ?_)
  have hI_37 : (0 : Int) ≤ M 229 37 ∧ M 229 37 ≤ 400 := hI0 229 37
  have hI_38 : (0 : Int) ≤ M 229 38 ∧ M 229 38 ≤ 402 := hI0 229 38
  have hI_45 : (0 : Int) ≤ M 229 45 ∧ M 229 45 ≤ 402 := hI0 229 45
  have hI_42 : (0 : Int) ≤ M 229 42 ∧ M 229 42 ≤ 300 := hI0 229 42
  have hI_39 : (0 : Int) ≤ M 229 39 ∧ M 229 39 ≤ 100000 := hI0 229 39
  have hI_40 : (0 : Int) ≤ M 229 40 ∧ M 229 40 ≤ 5 := hI0 229 40
  have hI_41 : (0 : Int) ≤ M 229 41 ∧ M 229 41 ≤ 6 := hI0 229 41
  clear hI0
  have hty_n := ex0.1
  refine g_aload_n (n := 1) hx 0 (dq tX10_goesOn 0 rfl) rfl rfl ?_
  refine g_callVv (n := 4) (As := []) (rest := []) hx (ctX10_blanks3 Γ M t9 n9 a9 (by omega) ex0) mlX10_268 (obX10 (by decide)) (dq tX10_goesOn 1 rfl) rfl (Nat.le_of_ble_eq_true rfl) (Nat.le_of_ble_eq_true rfl) (Nat.le_of_ble_eq_true rfl) rfl (fun M_2 p_4 => ?_)
  obtain ⟨f_5, h_6, h_7, h_8⟩ := p_4
  have g_9 : Ty M_2 t9 n9 := Ty.frame ex0 (fun c j hcj => f_5 c j (by omega))
  have hfo : n9 ≤ sk t9 n9 a9 → fst9 t9 n9 (sk t9 n9 a9) = -1 := fst9_out
  refine g_aload_n (n := 5) hx 0 (dq tX10_goesOn 2 rfl) rfl rfl ?_
  refine g_getI (n := 8) hx glX10_246 (sX10_39 (by decide)) (dq tX10_goesOn 3 rfl) rfl (fun h_10l h_10u => ?_)
  have e_11 : M_2 229 39 = M 229 39 := (f_5 229 39 (by omega))
  refine g_if_ne (n := 11) (t := 40) hx (dq tX10_goesOn 4 rfl) (by decide) rfl (zrI h_10l h_10u (by decide) (by decide)) (fun c_12 => ?_) (fun c_12 => ?_)
  · refine g_aload_n (n := 41) hx 0 (dq tX10_goesOn 19 rfl) rfl rfl ?_
    refine g_getI (n := 44) hx glX10_246 (sX10_39 (by decide)) (dq tX10_goesOn 20 rfl) rfl (fun h_13l h_13u => ?_)
    refine g_if_ne (n := 47) (t := 62) hx (dq tX10_goesOn 21 rfl) (by decide) rfl (zrI h_13l h_13u (by decide) (by decide)) (fun c_14 => ?_) (fun c_14 => ?_)
    · refine g_iconst (n := 63) hx (dq tX10_goesOn 29 rfl) rfl ?_
      refine g_istore_n (n := 64) (lv' := [(1, vI 0), (0, aR Γ 229)]) hx (dq tX10_goesOn 30 rfl) (by decide) rfl rfl ?_
      refine g_aload_n (n := 65) hx 1 (dq tX10_goesOn 31 rfl) rfl rfl ?_
      refine g_dup (n := 66) hx (dq tX10_goesOn 32 rfl) rfl rfl ?_
      refine g_getI (n := 69) hx glX10_249 (sX10_38 (by decide)) (dq tX10_goesOn 33 rfl) rfl (fun h_15l h_15u => ?_)
      refine g_iconst (n := 70) hx (dq tX10_goesOn 34 rfl) rfl ?_
      refine g_iadd (n := 71) hx (dq tX10_goesOn 35 rfl) rfl ?_
      have e_16 : M_2 229 37 = M 229 37 := (f_5 229 37 (by omega))
      refine g_putI (n := 74) hx plX10_249 (sX10_38 (by decide)) (dq tX10_goesOn 36 rfl) rfl (by omega) (by omega) (fun M_17 m_18e m_18 => ?_)
      have g_19 : Ty M_17 t9 n9 := Ty.frame g_9 (fun c j hcj => m_18 c j (by omega))
      refine g_iload_n (n := 75) hx 0 (dq tX10_goesOn 37 rfl) rfl rfl ?_
      have e_20 : M_17 229 37 = M_2 229 37 := (m_18 229 37 (by omega))
      have e_21 : M_17 229 39 = M_2 229 39 := (m_18 229 39 (by omega))
      exact g_zret hx hr (dq tX10_goesOn 38 rfl) (by omega) ⟨(fun u_ v_ huv_ => ((m_18 u_ v_ huv_.1).trans (f_5 u_ v_ huv_.1))), (by omega), (by omega), (by omega), (by omega), (by omega), (by omega)⟩
    · omega
  · refine g_aload_n (n := 12) hx 0 (dq tX10_goesOn 5 rfl) rfl rfl ?_
    refine g_getI (n := 15) hx glX10_249 (sX10_38 (by decide)) (dq tX10_goesOn 6 rfl) rfl (fun h_22l h_22u => ?_)
    refine g_aload_n (n := 16) hx 0 (dq tX10_goesOn 7 rfl) rfl rfl ?_
    refine g_getI (n := 19) hx glX10_216 (sX10_37 (by decide)) (dq tX10_goesOn 8 rfl) rfl (fun h_23l h_23u => ?_)
    have e_24 : M_2 229 37 = M 229 37 := (f_5 229 37 (by omega))
    refine g_icmp_ge (n := 22) (t := 40) hx (dq tX10_goesOn 9 rfl) (by decide) rfl (zrI h_22l h_22u (by decide) (by decide)) (zrI h_23l h_23u (by decide) (by decide)) (fun c_25 => ?_) (fun c_25 => ?_)
    · refine g_aload_n (n := 41) hx 0 (dq tX10_goesOn 19 rfl) rfl rfl ?_
      refine g_getI (n := 44) hx glX10_246 (sX10_39 (by decide)) (dq tX10_goesOn 20 rfl) rfl (fun h_26l h_26u => ?_)
      refine g_if_ne (n := 47) (t := 62) hx (dq tX10_goesOn 21 rfl) (by decide) rfl (zrI h_26l h_26u (by decide) (by decide)) (fun c_27 => ?_) (fun c_27 => ?_)
      · omega
      · refine g_aload_n (n := 48) hx 0 (dq tX10_goesOn 22 rfl) rfl rfl ?_
        refine g_getI (n := 51) hx glX10_249 (sX10_38 (by decide)) (dq tX10_goesOn 23 rfl) rfl (fun h_28l h_28u => ?_)
        refine g_aload_n (n := 52) hx 0 (dq tX10_goesOn 24 rfl) rfl rfl ?_
        refine g_getI (n := 55) hx glX10_216 (sX10_37 (by decide)) (dq tX10_goesOn 25 rfl) rfl (fun h_29l h_29u => ?_)
        refine g_icmp_ge (n := 58) (t := 62) hx (dq tX10_goesOn 26 rfl) (by decide) rfl (zrI h_28l h_28u (by decide) (by decide)) (zrI h_29l h_29u (by decide) (by decide)) (fun c_30 => ?_) (fun c_30 => ?_)
        · refine g_iconst (n := 63) hx (dq tX10_goesOn 29 rfl) rfl ?_
          refine g_istore_n (n := 64) (lv' := [(1, vI 0), (0, aR Γ 229)]) hx (dq tX10_goesOn 30 rfl) (by decide) rfl rfl ?_
          refine g_aload_n (n := 65) hx 1 (dq tX10_goesOn 31 rfl) rfl rfl ?_
          refine g_dup (n := 66) hx (dq tX10_goesOn 32 rfl) rfl rfl ?_
          refine g_getI (n := 69) hx glX10_249 (sX10_38 (by decide)) (dq tX10_goesOn 33 rfl) rfl (fun h_31l h_31u => ?_)
          refine g_iconst (n := 70) hx (dq tX10_goesOn 34 rfl) rfl ?_
          refine g_iadd (n := 71) hx (dq tX10_goesOn 35 rfl) rfl ?_
          refine g_putI (n := 74) hx plX10_249 (sX10_38 (by decide)) (dq tX10_goesOn 36 rfl) rfl (by omega) (by omega) (fun M_32 m_33e m_33 => ?_)
          have g_34 : Ty M_32 t9 n9 := Ty.frame g_9 (fun c j hcj => m_33 c j (by omega))
          refine g_iload_n (n := 75) hx 0 (dq tX10_goesOn 37 rfl) rfl rfl ?_
          have e_35 : M_32 229 37 = M_2 229 37 := (m_33 229 37 (by omega))
          have e_36 : M_32 229 39 = M_2 229 39 := (m_33 229 39 (by omega))
          exact g_zret hx hr (dq tX10_goesOn 38 rfl) (by omega) ⟨(fun u_ v_ huv_ => ((m_33 u_ v_ huv_.1).trans (f_5 u_ v_ huv_.1))), (by omega), (by omega), (by omega), (by omega), (by omega), (by omega)⟩
        · refine g_iconst (n := 59) hx (dq tX10_goesOn 27 rfl) rfl ?_
          refine g_goto (n := 63) hx (dq tX10_goesOn 28 rfl) (by decide) ?_
          refine g_istore_n (n := 64) (lv' := [(1, vI 1), (0, aR Γ 229)]) hx (dq tX10_goesOn 30 rfl) (by decide) rfl rfl ?_
          refine g_aload_n (n := 65) hx 1 (dq tX10_goesOn 31 rfl) rfl rfl ?_
          refine g_dup (n := 66) hx (dq tX10_goesOn 32 rfl) rfl rfl ?_
          refine g_getI (n := 69) hx glX10_249 (sX10_38 (by decide)) (dq tX10_goesOn 33 rfl) rfl (fun h_37l h_37u => ?_)
          refine g_iconst (n := 70) hx (dq tX10_goesOn 34 rfl) rfl ?_
          refine g_iadd (n := 71) hx (dq tX10_goesOn 35 rfl) rfl ?_
          refine g_putI (n := 74) hx plX10_249 (sX10_38 (by decide)) (dq tX10_goesOn 36 rfl) rfl (by omega) (by omega) (fun M_38 m_39e m_39 => ?_)
          have g_40 : Ty M_38 t9 n9 := Ty.frame g_9 (fun c j hcj => m_39 c j (by omega))
          refine g_iload_n (n := 75) hx 0 (dq tX10_goesOn 37 rfl) rfl rfl ?_
          have e_41 : M_38 229 37 = M_2 229 37 := (m_39 229 37 (by omega))
          have e_42 : M_38 229 39 = M_2 229 39 := (m_39 229 39 (by omega))
          exact g_zret hx hr (dq tX10_goesOn 38 rfl) (by omega) ⟨(fun u_ v_ huv_ => ((m_39 u_ v_ huv_.1).trans (f_5 u_ v_ huv_.1))), (by omega), (by omega), (by omega), (by omega), (by omega), (by omega)⟩
    · refine g_aload_n (n := 23) hx 0 (dq tX10_goesOn 10 rfl) rfl rfl ?_
      refine g_callVi (n := 26) (As := []) (rest := []) hx (ctX10_sign3 Γ M_2 t9 n9 (sk t9 n9 a9) (by omega) g_9) mlX10_252 (obX10 (by decide)) (dq tX10_goesOn 11 rfl) rfl (Nat.le_of_ble_eq_true rfl) (Nat.le_of_ble_eq_true rfl) (Nat.le_of_ble_eq_true rfl) rfl (fun z_43 M_44 h_45 p_46 => ?_)
      obtain ⟨rfl, h_48, h_49, h_50, h_51⟩ := p_46
      refine g_bipush (n := 28) hx (dq tX10_goesOn 12 rfl) rfl (by decide) ?_
      refine g_icmp_eq (n := 31) (t := 40) hx (dq tX10_goesOn 13 rfl) (by decide) rfl h_45 ⟨by decide, by decide⟩ (fun c_52 => ?_) (fun c_52 => ?_)
      · refine g_aload_n (n := 41) hx 0 (dq tX10_goesOn 19 rfl) rfl rfl ?_
        refine g_getI (n := 44) hx glX10_246 (sX10_39 (by decide)) (dq tX10_goesOn 20 rfl) rfl (fun h_53l h_53u => ?_)
        refine g_if_ne (n := 47) (t := 62) hx (dq tX10_goesOn 21 rfl) (by decide) rfl (zrI h_53l h_53u (by decide) (by decide)) (fun c_54 => ?_) (fun c_54 => ?_)
        · omega
        · refine g_aload_n (n := 48) hx 0 (dq tX10_goesOn 22 rfl) rfl rfl ?_
          refine g_getI (n := 51) hx glX10_249 (sX10_38 (by decide)) (dq tX10_goesOn 23 rfl) rfl (fun h_55l h_55u => ?_)
          refine g_aload_n (n := 52) hx 0 (dq tX10_goesOn 24 rfl) rfl rfl ?_
          refine g_getI (n := 55) hx glX10_216 (sX10_37 (by decide)) (dq tX10_goesOn 25 rfl) rfl (fun h_56l h_56u => ?_)
          refine g_icmp_ge (n := 58) (t := 62) hx (dq tX10_goesOn 26 rfl) (by decide) rfl (zrI h_55l h_55u (by decide) (by decide)) (zrI h_56l h_56u (by decide) (by decide)) (fun c_57 => ?_) (fun c_57 => ?_)
          · refine g_iconst (n := 63) hx (dq tX10_goesOn 29 rfl) rfl ?_
            refine g_istore_n (n := 64) (lv' := [(1, vI 0), (0, aR Γ 229)]) hx (dq tX10_goesOn 30 rfl) (by decide) rfl rfl ?_
            refine g_aload_n (n := 65) hx 1 (dq tX10_goesOn 31 rfl) rfl rfl ?_
            refine g_dup (n := 66) hx (dq tX10_goesOn 32 rfl) rfl rfl ?_
            refine g_getI (n := 69) hx glX10_249 (sX10_38 (by decide)) (dq tX10_goesOn 33 rfl) rfl (fun h_58l h_58u => ?_)
            refine g_iconst (n := 70) hx (dq tX10_goesOn 34 rfl) rfl ?_
            refine g_iadd (n := 71) hx (dq tX10_goesOn 35 rfl) rfl ?_
            refine g_putI (n := 74) hx plX10_249 (sX10_38 (by decide)) (dq tX10_goesOn 36 rfl) rfl (by omega) (by omega) (fun M_59 m_60e m_60 => ?_)
            have g_61 : Ty M_59 t9 n9 := Ty.frame g_9 (fun c j hcj => m_60 c j (by omega))
            refine g_iload_n (n := 75) hx 0 (dq tX10_goesOn 37 rfl) rfl rfl ?_
            have e_62 : M_59 229 37 = M_2 229 37 := (m_60 229 37 (by omega))
            have e_63 : M_59 229 39 = M_2 229 39 := (m_60 229 39 (by omega))
            exact g_zret hx hr (dq tX10_goesOn 38 rfl) (by omega) ⟨(fun u_ v_ huv_ => ((m_60 u_ v_ huv_.1).trans (f_5 u_ v_ huv_.1))), (by omega), (by omega), (by omega), (by omega), (by omega), (by omega)⟩
          · refine g_iconst (n := 59) hx (dq tX10_goesOn 27 rfl) rfl ?_
            refine g_goto (n := 63) hx (dq tX10_goesOn 28 rfl) (by decide) ?_
            refine g_istore_n (n := 64) (lv' := [(1, vI 1), (0, aR Γ 229)]) hx (dq tX10_goesOn 30 rfl) (by decide) rfl rfl ?_
            refine g_aload_n (n := 65) hx 1 (dq tX10_goesOn 31 rfl) rfl rfl ?_
            refine g_dup (n := 66) hx (dq tX10_goesOn 32 rfl) rfl rfl ?_
            refine g_getI (n := 69) hx glX10_249 (sX10_38 (by decide)) (dq tX10_goesOn 33 rfl) rfl (fun h_64l h_64u => ?_)
            refine g_iconst (n := 70) hx (dq tX10_goesOn 34 rfl) rfl ?_
            refine g_iadd (n := 71) hx (dq tX10_goesOn 35 rfl) rfl ?_
            refine g_putI (n := 74) hx plX10_249 (sX10_38 (by decide)) (dq tX10_goesOn 36 rfl) rfl (by omega) (by omega) (fun M_65 m_66e m_66 => ?_)
            have g_67 : Ty M_65 t9 n9 := Ty.frame g_9 (fun c j hcj => m_66 c j (by omega))
            refine g_iload_n (n := 75) hx 0 (dq tX10_goesOn 37 rfl) rfl rfl ?_
            have e_68 : M_65 229 37 = M_2 229 37 := (m_66 229 37 (by omega))
            have e_69 : M_65 229 39 = M_2 229 39 := (m_66 229 39 (by omega))
            exact g_zret hx hr (dq tX10_goesOn 38 rfl) (by omega) ⟨(fun u_ v_ huv_ => ((m_66 u_ v_ huv_.1).trans (f_5 u_ v_ huv_.1))), (by omega), (by omega), (by omega), (by omega), (by omega), (by omega)⟩
      · refine g_aload_n (n := 32) hx 0 (dq tX10_goesOn 14 rfl) rfl rfl ?_
        refine g_iconst (n := 33) hx (dq tX10_goesOn 15 rfl) rfl ?_
        refine g_aload_n (n := 34) hx 0 (dq tX10_goesOn 16 rfl) rfl rfl ?_
        refine g_getI (n := 37) hx glX10_249 (sX10_38 (by decide)) (dq tX10_goesOn 17 rfl) rfl (fun h_70l h_70u => ?_)
        refine g_callVv (n := 40) (As := [vI 0, vI (M_2 229 38)]) (rest := []) hx (ctX10_fails3 Γ M_2 0 (by decide) (by decide) (M_2 229 38) (by omega) (by omega)) mlX10_284 (obX10 (by decide)) (dq tX10_goesOn 18 rfl) rfl (Nat.le_of_ble_eq_true rfl) (Nat.le_of_ble_eq_true rfl) (Nat.le_of_ble_eq_true rfl) rfl (fun M_72 p_74 => ?_)
        obtain ⟨f_75, h_76, h_77⟩ := p_74
        have g_78 : Ty M_72 t9 n9 := Ty.frame g_9 (fun c j hcj => f_75 c j (by omega))
        refine g_aload_n (n := 41) hx 0 (dq tX10_goesOn 19 rfl) rfl rfl ?_
        refine g_getI (n := 44) hx glX10_246 (sX10_39 (by decide)) (dq tX10_goesOn 20 rfl) rfl (fun h_79l h_79u => ?_)
        refine g_if_ne (n := 47) (t := 62) hx (dq tX10_goesOn 21 rfl) (by decide) rfl (zrI h_79l h_79u (by decide) (by decide)) (fun c_80 => ?_) (fun c_80 => ?_)
        · refine g_iconst (n := 63) hx (dq tX10_goesOn 29 rfl) rfl ?_
          refine g_istore_n (n := 64) (lv' := [(1, vI 0), (0, aR Γ 229)]) hx (dq tX10_goesOn 30 rfl) (by decide) rfl rfl ?_
          refine g_aload_n (n := 65) hx 1 (dq tX10_goesOn 31 rfl) rfl rfl ?_
          refine g_dup (n := 66) hx (dq tX10_goesOn 32 rfl) rfl rfl ?_
          refine g_getI (n := 69) hx glX10_249 (sX10_38 (by decide)) (dq tX10_goesOn 33 rfl) rfl (fun h_81l h_81u => ?_)
          have e_82 : M_72 229 38 = M_2 229 38 := (f_75 229 38 (by omega))
          refine g_iconst (n := 70) hx (dq tX10_goesOn 34 rfl) rfl ?_
          refine g_iadd (n := 71) hx (dq tX10_goesOn 35 rfl) rfl ?_
          have e_83 : M_72 229 37 = M_2 229 37 := (f_75 229 37 (by omega))
          refine g_putI (n := 74) hx plX10_249 (sX10_38 (by decide)) (dq tX10_goesOn 36 rfl) rfl (by omega) (by omega) (fun M_84 m_85e m_85 => ?_)
          have g_86 : Ty M_84 t9 n9 := Ty.frame g_78 (fun c j hcj => m_85 c j (by omega))
          refine g_iload_n (n := 75) hx 0 (dq tX10_goesOn 37 rfl) rfl rfl ?_
          have e_87 : M_84 229 37 = M_72 229 37 := (m_85 229 37 (by omega))
          have e_88 : M_84 229 39 = M_72 229 39 := (m_85 229 39 (by omega))
          exact g_zret hx hr (dq tX10_goesOn 38 rfl) (by omega) ⟨(fun u_ v_ huv_ => (((m_85 u_ v_ huv_.1).trans (f_75 u_ v_ huv_.2)).trans (f_5 u_ v_ huv_.1))), (by omega), (by omega), (by omega), (by omega), (by omega), (by omega)⟩
        · refine g_aload_n (n := 48) hx 0 (dq tX10_goesOn 22 rfl) rfl rfl ?_
          refine g_getI (n := 51) hx glX10_249 (sX10_38 (by decide)) (dq tX10_goesOn 23 rfl) rfl (fun h_89l h_89u => ?_)
          have e_90 : M_72 229 38 = M_2 229 38 := (f_75 229 38 (by omega))
          refine g_aload_n (n := 52) hx 0 (dq tX10_goesOn 24 rfl) rfl rfl ?_
          refine g_getI (n := 55) hx glX10_216 (sX10_37 (by decide)) (dq tX10_goesOn 25 rfl) rfl (fun h_91l h_91u => ?_)
          have e_92 : M_72 229 37 = M_2 229 37 := (f_75 229 37 (by omega))
          refine g_icmp_ge (n := 58) (t := 62) hx (dq tX10_goesOn 26 rfl) (by decide) rfl (zrI h_89l h_89u (by decide) (by decide)) (zrI h_91l h_91u (by decide) (by decide)) (fun c_93 => ?_) (fun c_93 => ?_)
          · refine g_iconst (n := 63) hx (dq tX10_goesOn 29 rfl) rfl ?_
            refine g_istore_n (n := 64) (lv' := [(1, vI 0), (0, aR Γ 229)]) hx (dq tX10_goesOn 30 rfl) (by decide) rfl rfl ?_
            refine g_aload_n (n := 65) hx 1 (dq tX10_goesOn 31 rfl) rfl rfl ?_
            refine g_dup (n := 66) hx (dq tX10_goesOn 32 rfl) rfl rfl ?_
            refine g_getI (n := 69) hx glX10_249 (sX10_38 (by decide)) (dq tX10_goesOn 33 rfl) rfl (fun h_94l h_94u => ?_)
            refine g_iconst (n := 70) hx (dq tX10_goesOn 34 rfl) rfl ?_
            refine g_iadd (n := 71) hx (dq tX10_goesOn 35 rfl) rfl ?_
            refine g_putI (n := 74) hx plX10_249 (sX10_38 (by decide)) (dq tX10_goesOn 36 rfl) rfl (by omega) (by omega) (fun M_95 m_96e m_96 => ?_)
            have g_97 : Ty M_95 t9 n9 := Ty.frame g_78 (fun c j hcj => m_96 c j (by omega))
            refine g_iload_n (n := 75) hx 0 (dq tX10_goesOn 37 rfl) rfl rfl ?_
            have e_98 : M_95 229 37 = M_72 229 37 := (m_96 229 37 (by omega))
            have e_99 : M_95 229 39 = M_72 229 39 := (m_96 229 39 (by omega))
            exact g_zret hx hr (dq tX10_goesOn 38 rfl) (by omega) ⟨(fun u_ v_ huv_ => (((m_96 u_ v_ huv_.1).trans (f_75 u_ v_ huv_.2)).trans (f_5 u_ v_ huv_.1))), (by omega), (by omega), (by omega), (by omega), (by omega), (by omega)⟩
          · refine g_iconst (n := 59) hx (dq tX10_goesOn 27 rfl) rfl ?_
            refine g_goto (n := 63) hx (dq tX10_goesOn 28 rfl) (by decide) ?_
            refine g_istore_n (n := 64) (lv' := [(1, vI 1), (0, aR Γ 229)]) hx (dq tX10_goesOn 30 rfl) (by decide) rfl rfl ?_
            refine g_aload_n (n := 65) hx 1 (dq tX10_goesOn 31 rfl) rfl rfl ?_
            refine g_dup (n := 66) hx (dq tX10_goesOn 32 rfl) rfl rfl ?_
            refine g_getI (n := 69) hx glX10_249 (sX10_38 (by decide)) (dq tX10_goesOn 33 rfl) rfl (fun h_100l h_100u => ?_)
            refine g_iconst (n := 70) hx (dq tX10_goesOn 34 rfl) rfl ?_
            refine g_iadd (n := 71) hx (dq tX10_goesOn 35 rfl) rfl ?_
            refine g_putI (n := 74) hx plX10_249 (sX10_38 (by decide)) (dq tX10_goesOn 36 rfl) rfl (by omega) (by omega) (fun M_101 m_102e m_102 => ?_)
            have g_103 : Ty M_101 t9 n9 := Ty.frame g_78 (fun c j hcj => m_102 c j (by omega))
            refine g_iload_n (n := 75) hx 0 (dq tX10_goesOn 37 rfl) rfl rfl ?_
            have e_104 : M_101 229 37 = M_72 229 37 := (m_102 229 37 (by omega))
            have e_105 : M_101 229 39 = M_72 229 39 := (m_102 229 39 (by omega))
            exact g_zret hx hr (dq tX10_goesOn 38 rfl) (by omega) ⟨(fun u_ v_ huv_ => (((m_102 u_ v_ huv_.1).trans (f_75 u_ v_ huv_.2)).trans (f_5 u_ v_ huv_.1))), (by omega), (by omega), (by omega), (by omega), (by omega), (by omega)⟩

abbrev qctX10_ruleClause3 (M : zM) (n : Int) (t9 : Nat → Int) (n9 : Nat) (a9 : Nat) (M' : zM) : Prop := (∀ u_ v_, (u_ ≠ 229 ∨ v_ ≠ 38) ∧ (u_ ≠ 229 ∨ v_ ≠ 39) ∧ (u_ ≠ 229 ∨ v_ ≠ 42) ∧ (u_ ≠ 229 ∨ v_ ≠ 44) ∧ u_ ≠ 229 + 38 ∧ u_ ≠ 229 + 39 ∧ (u_ ≠ 229 ∨ v_ ≠ 43) ∧ (u_ ≠ 229 ∨ v_ ≠ 45) ∧ u_ ≠ 229 + 45 ∧ u_ ≠ 229 + 41 ∧ u_ ≠ 229 + 42 ∧ u_ ≠ 229 + 43 ∧ u_ ≠ 229 + 44 → M' u_ v_ = M u_ v_) ∧ (Rd M' (M' 229 42) 0 0 0) ∧ (Kp M M') ∧ (M 229 38 ≤ M' 229 38) ∧ (M' 229 38 ≤ M 229 37 + 1) ∧ (M' 229 39 = 0 → (n ≤ 11 ∧ CO M' (M 229 40).toNat (12 * (M 229 40).toNat + n.toNat) ∧ M' (229 + 44) (12 * (M 229 40).toNat + n.toNat) ≤ M' 229 42)) ∧ (∀ c j : Nat, (c = 229 + 42 ∨ c = 229 + 43 ∨ c = 229 + 44) → j ≠ 12 * (M 229 40).toNat + n.toNat → M' c j = M c j) ∧ (ovN t9 n9 (M' 229 38).toNat (M' 229 39) (M' 229 44) = bd (ovN t9 n9 a9 (M 229 39) (M 229 44)) (Rc t9 n9 n)) ∧ (M' 229 39 = 0 → (M' 229 43 = 0 ∧ M 229 44 ≤ M' 229 44))
set_option maxHeartbeats 4000000 in
set_option maxRecDepth 100000 in
theorem ctX10_ruleClause3 (Γ : Gam) (M : zM) (n : Int) (hnl : 0 ≤ n) (hnu : n ≤ 12) (t9 : Nat → Int) (n9 : Nat) (a9 : Nat) (pre0 : M 229 39 = 0) (pre1 : M 229 38 = a9) (pre2 : 0 ≤ M 229 44) (pre3 : M 229 43 = 0) (ex0 : Rd M (M 229 42) 0 0 0) (ex1 : Ty M t9 n9) : CtV Γ yX10_ruleClause cX10_ruleClause 5 none 11 239 [aR Γ 229, vI n] M (qctX10_ruleClause3 M n t9 n9 a9) := by
  refine met_v (by decide) (Nat.le_of_ble_eq_true rfl) (fun x hx hr => ?_)
  show G Γ x 5 (QV Γ x (qctX10_ruleClause3 M n t9 n9 a9)) M 0 [(0, aR Γ 229), (1, vI n)] []
  refine g_iv (fun hI0 => ?_)
  have hI_37 : (0 : Int) ≤ M 229 37 ∧ M 229 37 ≤ 400 := hI0 229 37
  have hI_38 : (0 : Int) ≤ M 229 38 ∧ M 229 38 ≤ 402 := hI0 229 38
  have hI_45 : (0 : Int) ≤ M 229 45 ∧ M 229 45 ≤ 402 := hI0 229 45
  have hI_42 : (0 : Int) ≤ M 229 42 ∧ M 229 42 ≤ 300 := hI0 229 42
  have hI_39 : (0 : Int) ≤ M 229 39 ∧ M 229 39 ≤ 100000 := hI0 229 39
  have hI_40 : (0 : Int) ≤ M 229 40 ∧ M 229 40 ≤ 5 := hI0 229 40
  have hI_41 : (0 : Int) ≤ M 229 41 ∧ M 229 41 ≤ 6 := hI0 229 41
  clear hI0
  have hty_n := ex1.1
  have hr_1 := Rd.nums ex0 (by omega)
  refine g_aload_n (n := 1) hx 0 (dq tX10_ruleClause 0 rfl) rfl rfl ?_
  refine g_callVv (n := 4) (As := []) (rest := []) hx (ctX10_blanks3 Γ M t9 n9 a9 (by omega) ex1) mlX10_268 (obX10 (by decide)) (dq tX10_ruleClause 1 rfl) rfl (Nat.le_of_ble_eq_true rfl) (Nat.le_of_ble_eq_true rfl) (Nat.le_of_ble_eq_true rfl) rfl (fun M_3 p_5 => ?_)
  obtain ⟨f_6, h_7, h_8, h_9⟩ := p_5
  have g_10 : Kp M M_3 := Kp.frame Kp.refl (fun c j hcj => f_6 c j (by omega))
  have g_11 : Rd M_3 (M 229 42) 0 0 0 := Rd.mv ex0 (fun c j hcj => f_6 c j (by omega)) (by have q39 := f_6 229 39 (by omega); omega)
  have g_12 : Ty M_3 t9 n9 := Ty.frame ex1 (fun c j hcj => f_6 c j (by omega))
  refine g_aload_n (n := 5) hx 0 (dq tX10_ruleClause 2 rfl) rfl rfl ?_
  refine g_getI (n := 8) hx glX10_249 (sX10_38 (by decide)) (dq tX10_ruleClause 3 rfl) rfl (fun h_13l h_13u => ?_)
  refine g_istore_n (n := 9) (lv' := [(2, vI (M_3 229 38)), (0, aR Γ 229), (1, vI n)]) hx (dq tX10_ruleClause 4 rfl) (by decide) rfl rfl ?_
  refine g_iconst (n := 10) hx (dq tX10_ruleClause 5 rfl) rfl ?_
  refine g_istore_n (n := 11) (lv' := [(3, vI 0), (2, vI (M_3 229 38)), (0, aR Γ 229), (1, vI n)]) hx (dq tX10_ruleClause 6 rfl) (by decide) rfl rfl ?_
  have L_15 : ∀ (n_ : Nat) (i_14 : Int), (0 ≤ i_14) → (i_14 ≤ 5) → (NW t9 n9 (sk t9 n9 a9) wAct i_14) → ((5 - i_14).toNat = n_) → G Γ x 5 (QV Γ x (qctX10_ruleClause3 M n t9 n9 a9)) M_3 11 [(3, vI i_14), (2, vI (M_3 229 38)), (0, aR Γ 229), (1, vI n)] [] := by
    intro n_
    induction n_ using Nat.strongRecOn with
    | _ n_ ih_16 =>
      intro i_14 h_20 h_21 h_19 hm_18
      refine g_iload_n (n := 12) hx 0 (dq tX10_ruleClause 7 rfl) rfl rfl ?_
      refine g_iconst (n := 13) hx (dq tX10_ruleClause 8 rfl) rfl ?_
      refine g_icmp_ge (n := 16) (t := 33) hx (dq tX10_ruleClause 9 rfl) (by decide) rfl ⟨by omega, by omega⟩ ⟨by decide, by decide⟩ (fun c_22 => ?_) (fun c_22 => ?_)
      · refine g_iload_n (n := 34) hx 0 (dq tX10_ruleClause 17 rfl) rfl rfl ?_
        refine g_iconst (n := 35) hx (dq tX10_ruleClause 18 rfl) rfl ?_
        refine g_icmp_ne (n := 38) (t := 45) hx (dq tX10_ruleClause 19 rfl) (by decide) rfl ⟨by omega, by omega⟩ ⟨by decide, by decide⟩ (fun c_23 => ?_) (fun c_23 => ?_)
        · omega
        · refine g_aload_n (n := 39) hx 2 (dq tX10_ruleClause 20 rfl) rfl rfl ?_
          refine g_iconst (n := 40) hx (dq tX10_ruleClause 21 rfl) rfl ?_
          refine g_iload_n (n := 41) hx 1 (dq tX10_ruleClause 22 rfl) rfl rfl ?_
          have e_24 : M_3 229 37 = M 229 37 := (f_6 229 37 (by omega))
          have e_25 : M_3 229 39 = M 229 39 := (f_6 229 39 (by omega))
          have e_26 : M_3 229 44 = M 229 44 := (f_6 229 44 (by omega))
          have e_27 : M_3 229 40 = M 229 40 := (f_6 229 40 (by omega))
          have e_28 : M_3 229 42 = M 229 42 := (f_6 229 42 (by omega))
          have e_29 : M_3 229 43 = M 229 43 := (f_6 229 43 (by omega))
          refine g_callVv (n := 44) (As := [vI 0, vI (M_3 229 38)]) (rest := []) hx (ctX10_fails3 Γ M_3 0 (by decide) (by decide) (M_3 229 38) (by omega) (by omega)) mlX10_284 (obX10 (by decide)) (dq tX10_ruleClause 23 rfl) rfl (Nat.le_of_ble_eq_true rfl) (Nat.le_of_ble_eq_true rfl) (Nat.le_of_ble_eq_true rfl) rfl (fun M_31 p_33 => ?_)
          obtain ⟨f_34, h_35, h_36⟩ := p_33
          have g_37 : Kp M M_31 := Kp.frame g_10 (fun c j hcj => f_34 c j (by omega))
          have g_39 : Ty M_31 t9 n9 := Ty.frame g_12 (fun c j hcj => f_34 c j (by omega))
          have e_40 : M_31 229 37 = M_3 229 37 := (f_34 229 37 (by omega))
          have e_41 : M_31 229 38 = M_3 229 38 := (f_34 229 38 (by omega))
          have e_42 : M_31 229 44 = M_3 229 44 := (f_34 229 44 (by omega))
          have e_43 : M_31 229 40 = M_3 229 40 := (f_34 229 40 (by omega))
          have e_44 : M_31 229 42 = M_3 229 42 := (f_34 229 42 (by omega))
          have e_45 : M_31 229 43 = M_3 229 43 := (f_34 229 43 (by omega))
          exact g_vret hx hr (dq tX10_ruleClause 24 rfl) ⟨(fun u_ v_ huv_ => ((f_34 u_ v_ huv_.2.1).trans (f_6 u_ v_ huv_.1))), (Rd.vac (by omega)), g_37, (by omega), (by omega), (fun q => absurd q (by omega)), (fun c j hc hj => ((f_34 c j (by omega)).trans (f_6 c j (by omega)))), (rc_k (a := sk t9 n9 a9) rfl (by omega) (NW.no h_19 (by have w1 := wAct_len; omega)) (by omega)), (by omega)⟩
      · refine g_aload_n (n := 17) hx 2 (dq tX10_ruleClause 10 rfl) rfl rfl ?_
        refine g_iload_n (n := 18) hx 0 (dq tX10_ruleClause 11 rfl) rfl rfl ?_
        have e_46 : M_3 229 37 = M 229 37 := (f_6 229 37 (by omega))
        have e_47 : M_3 229 39 = M 229 39 := (f_6 229 39 (by omega))
        have e_48 : M_3 229 44 = M 229 44 := (f_6 229 44 (by omega))
        have e_49 : M_3 229 40 = M 229 40 := (f_6 229 40 (by omega))
        have e_50 : M_3 229 42 = M 229 42 := (f_6 229 42 (by omega))
        have e_51 : M_3 229 43 = M 229 43 := (f_6 229 43 (by omega))
        refine g_callSs (n := 21) (As := [vI i_14]) (rest := [aR Γ 229]) hx (ctX10_actWord3 Γ M_3 i_14 (by omega) (by omega)) mlX10_394 (dq tX10_ruleClause 12 rfl) rfl (Nat.le_of_ble_eq_true rfl) (Nat.le_of_ble_eq_true rfl) (Nat.le_of_ble_eq_true rfl) rfl (fun z_52 M_53 p_55 => ?_)
        obtain ⟨rfl, h_57, h_58, h_59, h_60⟩ := p_55
        obtain ⟨qz_52, hz_52⟩ := sN_some z_52 (by omega)
        have hz_52n := sNle z_52 _ hz_52
        have hz_52l := sln_eq hz_52
        have h_61 := alF_pos (k := i_14) (by omega) (by omega)
        refine g_callVi (n := 24) (As := [sR Γ z_52]) (rest := []) hx (ctX10_stood3 Γ M_3 z_52 _ hz_52 hz_52n t9 n9 (sk t9 n9 a9) (by omega) (by omega) g_12 h_58) mlX10_271 (obX10 (by decide)) (dq tX10_ruleClause 13 rfl) rfl (Nat.le_of_ble_eq_true rfl) (Nat.le_of_ble_eq_true rfl) (Nat.le_of_ble_eq_true rfl) rfl (fun z_62 M_63 h_64 p_65 => ?_)
        obtain ⟨rfl, h_67, h_68, h_69⟩ := p_65
        refine g_if_ne (n := 27) (t := 33) hx (dq tX10_ruleClause 14 rfl) (by decide) rfl h_64 (fun c_70 => ?_) (fun c_70 => ?_)
        · refine g_iload_n (n := 34) hx 0 (dq tX10_ruleClause 17 rfl) rfl rfl ?_
          refine g_iconst (n := 35) hx (dq tX10_ruleClause 18 rfl) rfl ?_
          refine g_icmp_ne (n := 38) (t := 45) hx (dq tX10_ruleClause 19 rfl) (by decide) rfl ⟨by omega, by omega⟩ ⟨by decide, by decide⟩ (fun c_71 => ?_) (fun c_71 => ?_)
          · have h_72 := (stY h_69 (by omega)).2
            have hwk : wix t9 n9 (sk t9 n9 a9) wAct 0 = i_14 := NW.at h_19 (by omega) (by have w1 := wAct_len; omega) h_57 (stY h_69 (by omega)).1
            refine g_iload_n (n := 46) hx 3 (dq tX10_ruleClause 25 rfl) rfl rfl ?_
            refine g_bipush (n := 48) hx (dq tX10_ruleClause 26 rfl) rfl (by decide) ?_
            refine g_icmp_ne (n := 51) (t := 58) hx (dq tX10_ruleClause 27 rfl) (by decide) rfl (zrI hnl hnu (by decide) (by decide)) ⟨by decide, by decide⟩ (fun c_73 => ?_) (fun c_73 => ?_)
            · refine g_aload_n (n := 59) hx 2 (dq tX10_ruleClause 33 rfl) rfl rfl ?_
              refine g_dup (n := 60) hx (dq tX10_ruleClause 34 rfl) rfl rfl ?_
              refine g_getI (n := 63) hx glX10_249 (sX10_38 (by decide)) (dq tX10_ruleClause 35 rfl) rfl (fun h_74l h_74u => ?_)
              refine g_iload_n (n := 64) hx 0 (dq tX10_ruleClause 36 rfl) rfl rfl ?_
              refine g_callSs (n := 67) (As := [vI i_14]) (rest := [vI (M_3 229 38), aR Γ 229]) hx (ctX10_actWord3 Γ M_3 i_14 (by omega) (by omega)) mlX10_394 (dq tX10_ruleClause 37 rfl) rfl (Nat.le_of_ble_eq_true rfl) (Nat.le_of_ble_eq_true rfl) (Nat.le_of_ble_eq_true rfl) rfl (fun z_75 M_76 p_78 => ?_)
              obtain ⟨rfl, h_80, h_81, h_82, h_83⟩ := p_78
              obtain ⟨qz_75, hz_75⟩ := sN_some z_75 (by omega)
              have hz_75n := sNle z_75 _ hz_75
              have hz_75l := sln_eq hz_75
              have h_84 := alF_pos (k := i_14) (by omega) (by omega)
              refine g_callSt (n := 70) (As := []) (rest := [vI (M_3 229 38), aR Γ 229]) hx (ctJ0_length_8abf5 Γ M_3 z_75 _ hz_75) mlX10_260 rfl hz_75 (dq tX10_ruleClause 38 rfl) rfl (Nat.le_of_ble_eq_true rfl) (Nat.le_of_ble_eq_true rfl) (Nat.le_of_ble_eq_true rfl) rfl (fun z_85 M_86 h_87 p_88 => ?_)
              obtain ⟨rfl, h_89⟩ := p_88
              refine g_iadd (n := 71) hx (dq tX10_ruleClause 39 rfl) rfl ?_
              refine g_putI (n := 74) hx plX10_249 (sX10_38 (by decide)) (dq tX10_ruleClause 40 rfl) rfl (by omega) (by omega) (fun M_90 m_91e m_91 => ?_)
              have g_92 : Kp M M_90 := Kp.frame g_10 (fun c j hcj => m_91 c j (by omega))
              have g_93 : Rd M_90 (M 229 42) 0 0 0 := Rd.mv g_11 (fun c j hcj => m_91 c j (by omega)) (by have q39 := m_91 229 39 (by omega); omega)
              have g_94 : Ty M_90 t9 n9 := Ty.frame g_12 (fun c j hcj => m_91 c j (by omega))
              refine g_bipush (n := 76) hx (dq tX10_ruleClause 41 rfl) rfl (by decide) ?_
              refine g_aload_n (n := 77) hx 2 (dq tX10_ruleClause 42 rfl) rfl rfl ?_
              refine g_getI (n := 80) hx glX10_275 (sX10_40 (by decide)) (dq tX10_ruleClause 43 rfl) rfl (fun h_95l h_95u => ?_)
              have e_96 : M_90 229 40 = M_3 229 40 := (m_91 229 40 (by omega))
              refine g_imul (n := 81) hx (dq tX10_ruleClause 44 rfl) rfl ?_
              refine g_iload_n (n := 82) hx 3 (dq tX10_ruleClause 45 rfl) rfl rfl ?_
              refine g_iadd (n := 83) hx (dq tX10_ruleClause 46 rfl) rfl ?_
              refine g_istore (n := 85) (lv' := [(4, vI ((12 * (M_90 229 40)) + n)), (3, vI i_14), (2, vI (M_3 229 38)), (0, aR Γ 229), (1, vI n)]) hx (dq tX10_ruleClause 47 rfl) (by decide) rfl rfl ?_
              refine g_aload_n (n := 86) hx 3 (dq tX10_ruleClause 48 rfl) rfl rfl ?_
              refine g_getR (n := 89) hx glX10_135 (sX10_52 (by decide)) (dq tX10_ruleClause 49 rfl) rfl ?_
              refine g_iload (n := 91) hx 0 (dq tX10_ruleClause 50 rfl) rfl rfl ?_
              refine g_iload_n (n := 92) hx 1 (dq tX10_ruleClause 51 rfl) rfl rfl ?_
              have e_97 : M_90 229 37 = M_3 229 37 := (m_91 229 37 (by omega))
              have e_98 : M_90 229 39 = M_3 229 39 := (m_91 229 39 (by omega))
              have e_99 : M_90 229 44 = M_3 229 44 := (m_91 229 44 (by omega))
              have e_100 : M_90 229 42 = M_3 229 42 := (m_91 229 42 (by omega))
              have e_101 : M_90 229 43 = M_3 229 43 := (m_91 229 43 (by omega))
              refine g_iast (n := 93) (q := ((12 * (M_90 229 40)) + n).toNat) hx (aX10_52 (b := 229) (by decide)) (dq tX10_ruleClause 52 rfl) rfl (by omega) (by omega) (by omega) rfl (by omega) (by omega) (fun M_102 m_103e m_103 => ?_)
              have g_104 : Kp M M_102 := Kp.frame g_92 (fun c j hcj => m_103 c j (by omega))
              have g_105 : Rd M_102 (M 229 42) 0 0 0 := Rd.mv g_93 (fun c j hcj => m_103 c j (by omega)) (by have q38 := m_103 229 38 (by omega); have q39 := m_103 229 39 (by omega); omega)
              have g_106 : Ty M_102 t9 n9 := Ty.frame g_94 (fun c j hcj => m_103 c j (by omega))
              refine g_aload_n (n := 94) hx 3 (dq tX10_ruleClause 53 rfl) rfl rfl ?_
              refine g_getR (n := 97) hx glX10_138 (sX10_53 (by decide)) (dq tX10_ruleClause 54 rfl) rfl ?_
              refine g_iload (n := 99) hx 0 (dq tX10_ruleClause 55 rfl) rfl rfl ?_
              refine g_aload_n (n := 100) hx 3 (dq tX10_ruleClause 56 rfl) rfl rfl ?_
              refine g_getI (n := 103) hx glX10_278 (sX10_42 (by decide)) (dq tX10_ruleClause 57 rfl) rfl (fun h_107l h_107u => ?_)
              have e_108 : M_102 229 42 = M_90 229 42 := (m_103 229 42 (by omega))
              have e_109 : M_102 229 37 = M_90 229 37 := (m_103 229 37 (by omega))
              have e_110 : M_102 229 38 = M_90 229 38 := (m_103 229 38 (by omega))
              have e_111 : M_102 229 39 = M_90 229 39 := (m_103 229 39 (by omega))
              have e_112 : M_102 229 44 = M_90 229 44 := (m_103 229 44 (by omega))
              have e_113 : M_102 229 40 = M_90 229 40 := (m_103 229 40 (by omega))
              have e_114 : M_102 229 43 = M_90 229 43 := (m_103 229 43 (by omega))
              refine g_iast (n := 104) (q := ((12 * (M_90 229 40)) + n).toNat) hx (aX10_53 (b := 229) (by decide)) (dq tX10_ruleClause 58 rfl) rfl (by omega) (by omega) (by omega) rfl (by omega) (by omega) (fun M_115 m_116e m_116 => ?_)
              have g_117 : Kp M M_115 := Kp.frame g_104 (fun c j hcj => m_116 c j (by omega))
              have g_118 : Rd M_115 (M 229 42) 0 0 0 := Rd.mv g_105 (fun c j hcj => m_116 c j (by omega)) (by have q38 := m_116 229 38 (by omega); have q39 := m_116 229 39 (by omega); omega)
              have g_119 : Ty M_115 t9 n9 := Ty.frame g_106 (fun c j hcj => m_116 c j (by omega))
              refine g_iload_n (n := 105) hx 1 (dq tX10_ruleClause 59 rfl) rfl rfl ?_
              refine g_iconst (n := 106) hx (dq tX10_ruleClause 60 rfl) rfl ?_
              refine g_icmp_lt (n := 109) (t := 113) hx (dq tX10_ruleClause 61 rfl) (by decide) rfl ⟨by omega, by omega⟩ ⟨by decide, by decide⟩ (fun c_120 => ?_) (fun c_120 => ?_)
              · refine g_aload_n (n := 114) hx 3 (dq tX10_ruleClause 64 rfl) rfl rfl ?_
                refine g_getR (n := 117) hx glX10_141 (sX10_54 (by decide)) (dq tX10_ruleClause 65 rfl) rfl ?_
                refine g_iload (n := 119) hx 0 (dq tX10_ruleClause 66 rfl) rfl rfl ?_
                refine g_aload_n (n := 120) hx 3 (dq tX10_ruleClause 67 rfl) rfl rfl ?_
                refine g_getI (n := 123) hx glX10_278 (sX10_42 (by decide)) (dq tX10_ruleClause 68 rfl) rfl (fun h_121l h_121u => ?_)
                have e_122 : M_115 229 42 = M_102 229 42 := (m_116 229 42 (by omega))
                have e_123 : M_115 229 37 = M_102 229 37 := (m_116 229 37 (by omega))
                have e_124 : M_115 229 38 = M_102 229 38 := (m_116 229 38 (by omega))
                have e_125 : M_115 229 39 = M_102 229 39 := (m_116 229 39 (by omega))
                have e_126 : M_115 229 44 = M_102 229 44 := (m_116 229 44 (by omega))
                have e_127 : M_115 229 40 = M_102 229 40 := (m_116 229 40 (by omega))
                have e_128 : M_115 229 43 = M_102 229 43 := (m_116 229 43 (by omega))
                refine g_iast (n := 124) (q := ((12 * (M_90 229 40)) + n).toNat) hx (aX10_54 (b := 229) (by decide)) (dq tX10_ruleClause 69 rfl) rfl (by omega) (by omega) (by omega) rfl (by omega) (by omega) (fun M_129 m_130e m_130 => ?_)
                have g_131 : Kp M M_129 := Kp.frame g_117 (fun c j hcj => m_130 c j (by omega))
                have g_132 : Rd M_129 (M 229 42) 0 0 0 := Rd.mv g_118 (fun c j hcj => m_130 c j (by omega)) (by have q38 := m_130 229 38 (by omega); have q39 := m_130 229 39 (by omega); omega)
                have g_133 : Ty M_129 t9 n9 := Ty.frame g_119 (fun c j hcj => m_130 c j (by omega))
                refine g_iload_n (n := 125) hx 1 (dq tX10_ruleClause 70 rfl) rfl rfl ?_
                refine g_iconst (n := 126) hx (dq tX10_ruleClause 71 rfl) rfl ?_
                refine g_icmp_lt (n := 129) (t := 146) hx (dq tX10_ruleClause 72 rfl) (by decide) rfl ⟨by omega, by omega⟩ ⟨by decide, by decide⟩ (fun c_134 => ?_) (fun c_134 => ?_)
                · refine g_aload_n (n := 147) hx 3 (dq tX10_ruleClause 80 rfl) rfl rfl ?_
                  have e_135 : M_129 229 37 = M_115 229 37 := (m_130 229 37 (by omega))
                  have e_136 : M_129 229 38 = M_115 229 38 := (m_130 229 38 (by omega))
                  have e_137 : M_129 229 39 = M_115 229 39 := (m_130 229 39 (by omega))
                  have e_138 : M_129 229 44 = M_115 229 44 := (m_130 229 44 (by omega))
                  have e_139 : M_129 229 40 = M_115 229 40 := (m_130 229 40 (by omega))
                  have e_140 : M_129 229 42 = M_115 229 42 := (m_130 229 42 (by omega))
                  have e_141 : M_129 229 43 = M_115 229 43 := (m_130 229 43 (by omega))
                  refine g_callVv (n := 150) (As := []) (rest := []) hx (ctX10_test3 Γ M_129 (M 229 42) 0 0 0 t9 n9 ((M_129 229 38).toNat) (by omega) (by omega) (by omega) (by omega) (by omega) g_132 g_133) mlX10_402 (obX10 (by decide)) (dq tX10_ruleClause 81 rfl) rfl (Nat.le_of_ble_eq_true rfl) (Nat.le_of_ble_eq_true rfl) (Nat.le_of_ble_eq_true rfl) rfl (fun M_143 p_145 => ?_)
                  obtain ⟨f_146, h_147, h_148, h_149, h_150, h_151, h_152, h_153⟩ := p_145
                  have g_154 := Kp.trans g_131 h_149
                  have g_155 : Ty M_143 t9 n9 := Ty.frame g_133 (fun c j hcj => f_146 c j (by omega))
                  refine g_aload_n (n := 151) hx 3 (dq tX10_ruleClause 82 rfl) rfl rfl ?_
                  refine g_getR (n := 154) hx glX10_144 (sX10_55 (by decide)) (dq tX10_ruleClause 83 rfl) rfl ?_
                  refine g_iload (n := 156) hx 0 (dq tX10_ruleClause 84 rfl) rfl rfl ?_
                  refine g_aload_n (n := 157) hx 3 (dq tX10_ruleClause 85 rfl) rfl rfl ?_
                  refine g_getI (n := 160) hx glX10_278 (sX10_42 (by decide)) (dq tX10_ruleClause 86 rfl) rfl (fun h_156l h_156u => ?_)
                  have e_157 : M_143 229 37 = M_129 229 37 := (f_146 229 37 (by omega))
                  have e_158 : M_143 229 40 = M_129 229 40 := (f_146 229 40 (by omega))
                  refine g_iast (n := 161) (q := ((12 * (M_90 229 40)) + n).toNat) hx (aX10_55 (b := 229) (by decide)) (dq tX10_ruleClause 87 rfl) rfl (by omega) (by omega) (by omega) rfl (by omega) (by omega) (fun M_159 m_160e m_160 => ?_)
                  have g_161 : Kp M M_159 := Kp.frame g_154 (fun c j hcj => m_160 c j (by omega))
                  have g_162 : Rd M_159 (M_143 229 42) 0 0 0 := Rd.mv h_148 (fun c j hcj => m_160 c j (by omega)) (by have q38 := m_160 229 38 (by omega); have q39 := m_160 229 39 (by omega); omega)
                  have g_163 : Ty M_159 t9 n9 := Ty.frame g_155 (fun c j hcj => m_160 c j (by omega))
                  have e_164 : M_159 229 37 = M_143 229 37 := (m_160 229 37 (by omega))
                  have e_165 : M_159 229 38 = M_143 229 38 := (m_160 229 38 (by omega))
                  have e_166 : M_159 229 39 = M_143 229 39 := (m_160 229 39 (by omega))
                  have e_167 : M_159 229 44 = M_143 229 44 := (m_160 229 44 (by omega))
                  have e_168 : M_159 229 40 = M_143 229 40 := (m_160 229 40 (by omega))
                  have e_169 : M_159 229 42 = M_143 229 42 := (m_160 229 42 (by omega))
                  have e_170 : M_159 229 43 = M_143 229 43 := (m_160 229 43 (by omega))
                  exact g_vret hx hr (dq tX10_ruleClause 88 rfl) ⟨(fun u_ v_ huv_ => (((((((m_160 u_ v_ (by omega)).trans (f_146 u_ v_ ⟨huv_.1, huv_.2.1, huv_.2.2.1, huv_.2.2.2.1, huv_.2.2.2.2.1, huv_.2.2.2.2.2.1, huv_.2.2.2.2.2.2.1, huv_.2.2.2.2.2.2.2.1, huv_.2.2.2.2.2.2.2.2.1⟩)).trans (m_130 u_ v_ (by omega))).trans (m_116 u_ v_ (by omega))).trans (m_103 u_ v_ (by omega))).trans (m_91 u_ v_ huv_.1)).trans (f_6 u_ v_ huv_.1))), (Rd.new g_162 (by omega)), g_161, (by omega), (by omega), (fun q => ⟨by omega, CO.of (x := M_102 229 42) (y := M_115 229 42) (z := M_143 229 42) (by have w0 : ((12 * (M_90 229 40)) + n).toNat = (12 * (M 229 40).toNat + n.toNat) := (by omega); have w1 := ((((m_160 (229 + 42) (((12 * (M_90 229 40)) + n).toNat) (by omega)).trans (f_146 (229 + 42) (((12 * (M_90 229 40)) + n).toNat) (by omega))).trans (m_130 (229 + 42) (((12 * (M_90 229 40)) + n).toNat) (by omega)))).trans m_116e; rw [w0] at w1; exact w1) (by have w0 : ((12 * (M_90 229 40)) + n).toNat = (12 * (M 229 40).toNat + n.toNat) := (by omega); have w1 := (((m_160 (229 + 43) (((12 * (M_90 229 40)) + n).toNat) (by omega)).trans (f_146 (229 + 43) (((12 * (M_90 229 40)) + n).toNat) (by omega)))).trans m_130e; rw [w0] at w1; exact w1) (by have w0 : ((12 * (M_90 229 40)) + n).toNat = (12 * (M 229 40).toNat + n.toNat) := (by omega); have w1 := (rfl).trans m_160e; rw [w0] at w1; exact w1) (by have w3 : M_102 229 42 = M_115 229 42 := (by omega); rw [w3]; exact RunOk.nil (by omega)) (by have w1 := h_147 (by omega); have w2 := RunOk.kp w1 (Kp.frame Kp.refl (fun c j hcj => m_160 c j (by omega))) (by omega) (Int.le_refl _); have w3 : M_129 229 42 = M_115 229 42 := (by omega); have w4 : M_143 229 42 = M_143 229 42 := (by omega); have w5 : (M_143 229 40).toNat = (M 229 40).toNat := (by omega); rw [w3, w4, w5] at w2; exact w2), by have w8 : M_159 (229 + 44) (12 * (M 229 40).toNat + n.toNat) = M_143 229 42 := (by have w0 : ((12 * (M_90 229 40)) + n).toNat = (12 * (M 229 40).toNat + n.toNat) := (by omega); have w1 := (rfl).trans m_160e; rw [w0] at w1; exact w1); omega⟩), (fun c j hc hj => (((((((m_160 c j (by omega)).trans (f_146 c j (by omega))).trans (m_130 c j (by omega))).trans (m_116 c j (by omega))).trans (m_103 c j (by omega))).trans (m_91 c j (by omega))).trans (f_6 c j (by omega)))), (ov_mve (rc_t (a := sk t9 n9 a9) rfl (by omega) hwk (by omega) (by omega) (by omega) (by omega) (by omega) (by omega) h_152) (by omega) (by omega) (by omega)), (by omega)⟩
                · omega
              · refine g_aload_n (n := 110) hx 3 (dq tX10_ruleClause 62 rfl) rfl rfl ?_
                have e_171 : M_115 229 37 = M_102 229 37 := (m_116 229 37 (by omega))
                have e_172 : M_115 229 38 = M_102 229 38 := (m_116 229 38 (by omega))
                have e_173 : M_115 229 39 = M_102 229 39 := (m_116 229 39 (by omega))
                have e_174 : M_115 229 44 = M_102 229 44 := (m_116 229 44 (by omega))
                have e_175 : M_115 229 40 = M_102 229 40 := (m_116 229 40 (by omega))
                have e_176 : M_115 229 42 = M_102 229 42 := (m_116 229 42 (by omega))
                have e_177 : M_115 229 43 = M_102 229 43 := (m_116 229 43 (by omega))
                refine g_callVv (n := 113) (As := []) (rest := []) hx (ctX10_sum3 Γ M_115 (M 229 42) 0 0 0 t9 n9 ((M_115 229 38).toNat) (by omega) (by omega) (by omega) (by omega) g_118 g_119) mlX10_312 (obX10 (by decide)) (dq tX10_ruleClause 63 rfl) rfl (Nat.le_of_ble_eq_true rfl) (Nat.le_of_ble_eq_true rfl) (Nat.le_of_ble_eq_true rfl) rfl (fun M_179 p_181 => ?_)
                obtain ⟨f_182, h_183, h_184, h_185, h_186, h_187, h_188, h_189⟩ := p_181
                have g_190 := Kp.trans g_117 h_184
                have g_191 : Rd M_179 (M 229 42) (0 + 1) 0 0 := Rd.to h_183 (by omega) (by omega) (by omega)
                have g_192 : Ty M_179 t9 n9 := Ty.frame g_119 (fun c j hcj => f_182 c j (by omega))
                refine g_aload_n (n := 114) hx 3 (dq tX10_ruleClause 64 rfl) rfl rfl ?_
                refine g_getR (n := 117) hx glX10_141 (sX10_54 (by decide)) (dq tX10_ruleClause 65 rfl) rfl ?_
                refine g_iload (n := 119) hx 0 (dq tX10_ruleClause 66 rfl) rfl rfl ?_
                refine g_aload_n (n := 120) hx 3 (dq tX10_ruleClause 67 rfl) rfl rfl ?_
                refine g_getI (n := 123) hx glX10_278 (sX10_42 (by decide)) (dq tX10_ruleClause 68 rfl) rfl (fun h_193l h_193u => ?_)
                have e_194 : M_179 229 37 = M_115 229 37 := (f_182 229 37 (by omega))
                have e_195 : M_179 229 40 = M_115 229 40 := (f_182 229 40 (by omega))
                have e_196 : M_179 229 43 = M_115 229 43 := (f_182 229 43 (by omega))
                refine g_iast (n := 124) (q := ((12 * (M_90 229 40)) + n).toNat) hx (aX10_54 (b := 229) (by decide)) (dq tX10_ruleClause 69 rfl) rfl (by omega) (by omega) (by omega) rfl (by omega) (by omega) (fun M_197 m_198e m_198 => ?_)
                have g_199 : Kp M M_197 := Kp.frame g_190 (fun c j hcj => m_198 c j (by omega))
                have g_200 : Rd M_197 (M 229 42) (0 + 1) 0 0 := Rd.mv g_191 (fun c j hcj => m_198 c j (by omega)) (by have q38 := m_198 229 38 (by omega); have q39 := m_198 229 39 (by omega); omega)
                have g_201 : Ty M_197 t9 n9 := Ty.frame g_192 (fun c j hcj => m_198 c j (by omega))
                refine g_iload_n (n := 125) hx 1 (dq tX10_ruleClause 70 rfl) rfl rfl ?_
                refine g_iconst (n := 126) hx (dq tX10_ruleClause 71 rfl) rfl ?_
                refine g_icmp_lt (n := 129) (t := 146) hx (dq tX10_ruleClause 72 rfl) (by decide) rfl ⟨by omega, by omega⟩ ⟨by decide, by decide⟩ (fun c_202 => ?_) (fun c_202 => ?_)
                · omega
                · refine g_aload_n (n := 130) hx 3 (dq tX10_ruleClause 73 rfl) rfl rfl ?_
                  refine g_getI (n := 133) hx glX10_246 (sX10_39 (by decide)) (dq tX10_ruleClause 74 rfl) rfl (fun h_203l h_203u => ?_)
                  have e_204 : M_197 229 39 = M_179 229 39 := (m_198 229 39 (by omega))
                  refine g_if_ne (n := 136) (t := 150) hx (dq tX10_ruleClause 75 rfl) (by decide) rfl (zrI h_203l h_203u (by decide) (by decide)) (fun c_205 => ?_) (fun c_205 => ?_)
                  · refine g_aload_n (n := 151) hx 3 (dq tX10_ruleClause 82 rfl) rfl rfl ?_
                    refine g_getR (n := 154) hx glX10_144 (sX10_55 (by decide)) (dq tX10_ruleClause 83 rfl) rfl ?_
                    refine g_iload (n := 156) hx 0 (dq tX10_ruleClause 84 rfl) rfl rfl ?_
                    refine g_aload_n (n := 157) hx 3 (dq tX10_ruleClause 85 rfl) rfl rfl ?_
                    refine g_getI (n := 160) hx glX10_278 (sX10_42 (by decide)) (dq tX10_ruleClause 86 rfl) rfl (fun h_206l h_206u => ?_)
                    have e_207 : M_197 229 42 = M_179 229 42 := (m_198 229 42 (by omega))
                    have e_208 : M_197 229 37 = M_179 229 37 := (m_198 229 37 (by omega))
                    have e_209 : M_197 229 38 = M_179 229 38 := (m_198 229 38 (by omega))
                    have e_210 : M_197 229 44 = M_179 229 44 := (m_198 229 44 (by omega))
                    have e_211 : M_197 229 40 = M_179 229 40 := (m_198 229 40 (by omega))
                    have e_212 : M_197 229 43 = M_179 229 43 := (m_198 229 43 (by omega))
                    refine g_iast (n := 161) (q := ((12 * (M_90 229 40)) + n).toNat) hx (aX10_55 (b := 229) (by decide)) (dq tX10_ruleClause 87 rfl) rfl (by omega) (by omega) (by omega) rfl (by omega) (by omega) (fun M_213 m_214e m_214 => ?_)
                    have g_215 : Kp M M_213 := Kp.frame g_199 (fun c j hcj => m_214 c j (by omega))
                    have g_216 : Rd M_213 (M 229 42) (0 + 1) 0 0 := Rd.mv g_200 (fun c j hcj => m_214 c j (by omega)) (by have q38 := m_214 229 38 (by omega); have q39 := m_214 229 39 (by omega); omega)
                    have g_217 : Ty M_213 t9 n9 := Ty.frame g_201 (fun c j hcj => m_214 c j (by omega))
                    have e_218 : M_213 229 37 = M_197 229 37 := (m_214 229 37 (by omega))
                    have e_219 : M_213 229 38 = M_197 229 38 := (m_214 229 38 (by omega))
                    have e_220 : M_213 229 39 = M_197 229 39 := (m_214 229 39 (by omega))
                    have e_221 : M_213 229 44 = M_197 229 44 := (m_214 229 44 (by omega))
                    have e_222 : M_213 229 40 = M_197 229 40 := (m_214 229 40 (by omega))
                    have e_223 : M_213 229 42 = M_197 229 42 := (m_214 229 42 (by omega))
                    have e_224 : M_213 229 43 = M_197 229 43 := (m_214 229 43 (by omega))
                    exact g_vret hx hr (dq tX10_ruleClause 88 rfl) ⟨(fun u_ v_ huv_ => (((((((m_214 u_ v_ (by omega)).trans (m_198 u_ v_ (by omega))).trans (f_182 u_ v_ ⟨huv_.1, huv_.2.1, huv_.2.2.1, huv_.2.2.2.1, huv_.2.2.2.2.1, huv_.2.2.2.2.2.1⟩)).trans (m_116 u_ v_ (by omega))).trans (m_103 u_ v_ (by omega))).trans (m_91 u_ v_ huv_.1)).trans (f_6 u_ v_ huv_.1))), (Rd.new g_216 (by omega)), g_215, (by omega), (by omega), (fun q => ⟨by omega, CO.of (x := M_102 229 42) (y := M_179 229 42) (z := M_197 229 42) (by have w0 : ((12 * (M_90 229 40)) + n).toNat = (12 * (M 229 40).toNat + n.toNat) := (by omega); have w1 := ((((m_214 (229 + 42) (((12 * (M_90 229 40)) + n).toNat) (by omega)).trans (m_198 (229 + 42) (((12 * (M_90 229 40)) + n).toNat) (by omega))).trans (f_182 (229 + 42) (((12 * (M_90 229 40)) + n).toNat) (by omega)))).trans m_116e; rw [w0] at w1; exact w1) (by have w0 : ((12 * (M_90 229 40)) + n).toNat = (12 * (M 229 40).toNat + n.toNat) := (by omega); have w1 := ((m_214 (229 + 43) (((12 * (M_90 229 40)) + n).toNat) (by omega))).trans m_198e; rw [w0] at w1; exact w1) (by have w0 : ((12 * (M_90 229 40)) + n).toNat = (12 * (M 229 40).toNat + n.toNat) := (by omega); have w1 := (rfl).trans m_214e; rw [w0] at w1; exact w1) (by have w1 := Rd.run h_183 (by omega); have w2 := RunOk.kp w1 (Kp.frame (Kp.frame Kp.refl (fun c j hcj => m_198 c j (by omega))) (fun c j hcj => m_214 c j (by omega))) (by omega) (Int.le_refl _); have w3 : M 229 42 = M_102 229 42 := (by omega); have w4 : M_179 229 42 = M_179 229 42 := (by omega); have w5 : (M_179 229 40).toNat = (M 229 40).toNat := (by omega); rw [w3, w4, w5] at w2; exact w2) (by have w3 : M_179 229 42 = M_197 229 42 := (by omega); rw [w3]; exact RunOk.nil (by omega)), by have w8 : M_213 (229 + 44) (12 * (M 229 40).toNat + n.toNat) = M_197 229 42 := (by have w0 : ((12 * (M_90 229 40)) + n).toNat = (12 * (M 229 40).toNat + n.toNat) := (by omega); have w1 := (rfl).trans m_214e; rw [w0] at w1; exact w1); omega⟩), (fun c j hc hj => (((((((m_214 c j (by omega)).trans (m_198 c j (by omega))).trans (f_182 c j (by omega))).trans (m_116 c j (by omega))).trans (m_103 c j (by omega))).trans (m_91 c j (by omega))).trans (f_6 c j (by omega)))), (rc_se (p := 0) (rc_s (a := sk t9 n9 a9) rfl (by omega) hwk (by omega) (by omega) (by omega) (by omega) (by omega) (by omega) h_189) (by omega) (by omega)), (by omega)⟩
                  · refine g_aload_n (n := 137) hx 3 (dq tX10_ruleClause 76 rfl) rfl rfl ?_
                    refine g_ldcwS (n := 140) (q := 24) hx rfl rfl rfl (dq tX10_ruleClause 77 rfl) rfl ?_
                    have e_225 : M_197 229 37 = M_179 229 37 := (m_198 229 37 (by omega))
                    have e_226 : M_197 229 38 = M_179 229 38 := (m_198 229 38 (by omega))
                    have e_227 : M_197 229 44 = M_179 229 44 := (m_198 229 44 (by omega))
                    have e_228 : M_197 229 40 = M_179 229 40 := (m_198 229 40 (by omega))
                    have e_229 : M_197 229 42 = M_179 229 42 := (m_198 229 42 (by omega))
                    have e_230 : M_197 229 43 = M_179 229 43 := (m_198 229 43 (by omega))
                    refine g_callVi (n := 143) (As := [sR Γ 24]) (rest := []) hx (ctX10_takes3 Γ M_197 24 _ rfl (by decide) t9 n9 ((M_179 229 38).toNat) (by decide) (by omega) g_201 (by unfold LW; decide +kernel)) mlX10_399 (obX10 (by decide)) (dq tX10_ruleClause 78 rfl) rfl (Nat.le_of_ble_eq_true rfl) (Nat.le_of_ble_eq_true rfl) (Nat.le_of_ble_eq_true rfl) rfl (fun z_231 M_232 h_233 p_234 => ?_)
                    obtain ⟨f_235, h_236, h_237, h_238, h_239, h_240⟩ := p_234
                    have g_241 : Kp M M_232 := Kp.frame g_199 (fun c j hcj => f_235 c j (by omega))
                    have g_242 : Rd M_232 (M 229 42) (0 + 1) 0 0 := Rd.mv g_200 (fun c j hcj => f_235 c j (by omega)) (by have q39 := f_235 229 39 (by omega); omega)
                    have g_243 : Ty M_232 t9 n9 := Ty.frame g_201 (fun c j hcj => f_235 c j (by omega))
                    refine g_if_eq (n := 146) (t := 150) hx (dq tX10_ruleClause 79 rfl) (by decide) rfl h_233 (fun c_244 => ?_) (fun c_244 => ?_)
                    · refine g_aload_n (n := 151) hx 3 (dq tX10_ruleClause 82 rfl) rfl rfl ?_
                      refine g_getR (n := 154) hx glX10_144 (sX10_55 (by decide)) (dq tX10_ruleClause 83 rfl) rfl ?_
                      refine g_iload (n := 156) hx 0 (dq tX10_ruleClause 84 rfl) rfl rfl ?_
                      refine g_aload_n (n := 157) hx 3 (dq tX10_ruleClause 85 rfl) rfl rfl ?_
                      refine g_getI (n := 160) hx glX10_278 (sX10_42 (by decide)) (dq tX10_ruleClause 86 rfl) rfl (fun h_245l h_245u => ?_)
                      have e_246 : M_232 229 42 = M_197 229 42 := (f_235 229 42 (by omega))
                      have e_247 : M_232 229 37 = M_197 229 37 := (f_235 229 37 (by omega))
                      have e_248 : M_232 229 39 = M_197 229 39 := (f_235 229 39 (by omega))
                      have e_249 : M_232 229 44 = M_197 229 44 := (f_235 229 44 (by omega))
                      have e_250 : M_232 229 40 = M_197 229 40 := (f_235 229 40 (by omega))
                      have e_251 : M_232 229 43 = M_197 229 43 := (f_235 229 43 (by omega))
                      refine g_iast (n := 161) (q := ((12 * (M_90 229 40)) + n).toNat) hx (aX10_55 (b := 229) (by decide)) (dq tX10_ruleClause 87 rfl) rfl (by omega) (by omega) (by omega) rfl (by omega) (by omega) (fun M_252 m_253e m_253 => ?_)
                      have g_254 : Kp M M_252 := Kp.frame g_241 (fun c j hcj => m_253 c j (by omega))
                      have g_255 : Rd M_252 (M 229 42) (0 + 1) 0 0 := Rd.mv g_242 (fun c j hcj => m_253 c j (by omega)) (by have q38 := m_253 229 38 (by omega); have q39 := m_253 229 39 (by omega); omega)
                      have g_256 : Ty M_252 t9 n9 := Ty.frame g_243 (fun c j hcj => m_253 c j (by omega))
                      have e_257 : M_252 229 37 = M_232 229 37 := (m_253 229 37 (by omega))
                      have e_258 : M_252 229 38 = M_232 229 38 := (m_253 229 38 (by omega))
                      have e_259 : M_252 229 39 = M_232 229 39 := (m_253 229 39 (by omega))
                      have e_260 : M_252 229 44 = M_232 229 44 := (m_253 229 44 (by omega))
                      have e_261 : M_252 229 40 = M_232 229 40 := (m_253 229 40 (by omega))
                      have e_262 : M_252 229 42 = M_232 229 42 := (m_253 229 42 (by omega))
                      have e_263 : M_252 229 43 = M_232 229 43 := (m_253 229 43 (by omega))
                      exact g_vret hx hr (dq tX10_ruleClause 88 rfl) ⟨(fun u_ v_ huv_ => ((((((((m_253 u_ v_ (by omega)).trans (f_235 u_ v_ huv_.1)).trans (m_198 u_ v_ (by omega))).trans (f_182 u_ v_ ⟨huv_.1, huv_.2.1, huv_.2.2.1, huv_.2.2.2.1, huv_.2.2.2.2.1, huv_.2.2.2.2.2.1⟩)).trans (m_116 u_ v_ (by omega))).trans (m_103 u_ v_ (by omega))).trans (m_91 u_ v_ huv_.1)).trans (f_6 u_ v_ huv_.1))), (Rd.new g_255 (by omega)), g_254, (by omega), (by omega), (fun q => ⟨by omega, CO.of (x := M_102 229 42) (y := M_179 229 42) (z := M_232 229 42) (by have w0 : ((12 * (M_90 229 40)) + n).toNat = (12 * (M 229 40).toNat + n.toNat) := (by omega); have w1 := (((((m_253 (229 + 42) (((12 * (M_90 229 40)) + n).toNat) (by omega)).trans (f_235 (229 + 42) (((12 * (M_90 229 40)) + n).toNat) (by omega))).trans (m_198 (229 + 42) (((12 * (M_90 229 40)) + n).toNat) (by omega))).trans (f_182 (229 + 42) (((12 * (M_90 229 40)) + n).toNat) (by omega)))).trans m_116e; rw [w0] at w1; exact w1) (by have w0 : ((12 * (M_90 229 40)) + n).toNat = (12 * (M 229 40).toNat + n.toNat) := (by omega); have w1 := (((m_253 (229 + 43) (((12 * (M_90 229 40)) + n).toNat) (by omega)).trans (f_235 (229 + 43) (((12 * (M_90 229 40)) + n).toNat) (by omega)))).trans m_198e; rw [w0] at w1; exact w1) (by have w0 : ((12 * (M_90 229 40)) + n).toNat = (12 * (M 229 40).toNat + n.toNat) := (by omega); have w1 := (rfl).trans m_253e; rw [w0] at w1; exact w1) (by have w1 := Rd.run h_183 (by omega); have w2 := RunOk.kp w1 (Kp.frame (Kp.frame (Kp.frame Kp.refl (fun c j hcj => m_198 c j (by omega))) (fun c j hcj => f_235 c j (by omega))) (fun c j hcj => m_253 c j (by omega))) (by omega) (Int.le_refl _); have w3 : M 229 42 = M_102 229 42 := (by omega); have w4 : M_179 229 42 = M_179 229 42 := (by omega); have w5 : (M_179 229 40).toNat = (M 229 40).toNat := (by omega); rw [w3, w4, w5] at w2; exact w2) (by have w3 : M_179 229 42 = M_232 229 42 := (by omega); rw [w3]; exact RunOk.nil (by omega)), by have w8 : M_252 (229 + 44) (12 * (M 229 40).toNat + n.toNat) = M_232 229 42 := (by have w0 : ((12 * (M_90 229 40)) + n).toNat = (12 * (M 229 40).toNat + n.toNat) := (by omega); have w1 := (rfl).trans m_253e; rw [w0] at w1; exact w1); omega⟩), (fun c j hc hj => ((((((((m_253 c j (by omega)).trans (f_235 c j (by omega))).trans (m_198 c j (by omega))).trans (f_182 c j (by omega))).trans (m_116 c j (by omega))).trans (m_103 c j (by omega))).trans (m_91 c j (by omega))).trans (f_6 c j (by omega)))), (rc_sn (rc_s (a := sk t9 n9 a9) rfl (by omega) hwk (by omega) (by omega) (by omega) (by omega) (by omega) (by omega) h_189) (by omega) (a := sk t9 n9 ((M_179 229 38).toNat)) rfl (by omega) (no24 (stN h_240 (by omega)).1) (by omega) (by omega) (by omega)), (by omega)⟩
                    · refine g_aload_n (n := 147) hx 3 (dq tX10_ruleClause 80 rfl) rfl rfl ?_
                      have e_264 : M_232 229 37 = M_197 229 37 := (f_235 229 37 (by omega))
                      have e_265 : M_232 229 39 = M_197 229 39 := (f_235 229 39 (by omega))
                      have e_266 : M_232 229 44 = M_197 229 44 := (f_235 229 44 (by omega))
                      have e_267 : M_232 229 40 = M_197 229 40 := (f_235 229 40 (by omega))
                      have e_268 : M_232 229 42 = M_197 229 42 := (f_235 229 42 (by omega))
                      have e_269 : M_232 229 43 = M_197 229 43 := (f_235 229 43 (by omega))
                      refine g_callVv (n := 150) (As := []) (rest := []) hx (ctX10_test3 Γ M_232 (M 229 42) (0 + 1) 0 0 t9 n9 ((M_232 229 38).toNat) (by omega) (by omega) (by omega) (by omega) (by omega) g_242 g_243) mlX10_402 (obX10 (by decide)) (dq tX10_ruleClause 81 rfl) rfl (Nat.le_of_ble_eq_true rfl) (Nat.le_of_ble_eq_true rfl) (Nat.le_of_ble_eq_true rfl) rfl (fun M_271 p_273 => ?_)
                      obtain ⟨f_274, h_275, h_276, h_277, h_278, h_279, h_280, h_281⟩ := p_273
                      have g_282 := Kp.trans g_241 h_277
                      have g_283 : Ty M_271 t9 n9 := Ty.frame g_243 (fun c j hcj => f_274 c j (by omega))
                      refine g_aload_n (n := 151) hx 3 (dq tX10_ruleClause 82 rfl) rfl rfl ?_
                      refine g_getR (n := 154) hx glX10_144 (sX10_55 (by decide)) (dq tX10_ruleClause 83 rfl) rfl ?_
                      refine g_iload (n := 156) hx 0 (dq tX10_ruleClause 84 rfl) rfl rfl ?_
                      refine g_aload_n (n := 157) hx 3 (dq tX10_ruleClause 85 rfl) rfl rfl ?_
                      refine g_getI (n := 160) hx glX10_278 (sX10_42 (by decide)) (dq tX10_ruleClause 86 rfl) rfl (fun h_284l h_284u => ?_)
                      have e_285 : M_271 229 37 = M_232 229 37 := (f_274 229 37 (by omega))
                      have e_286 : M_271 229 40 = M_232 229 40 := (f_274 229 40 (by omega))
                      refine g_iast (n := 161) (q := ((12 * (M_90 229 40)) + n).toNat) hx (aX10_55 (b := 229) (by decide)) (dq tX10_ruleClause 87 rfl) rfl (by omega) (by omega) (by omega) rfl (by omega) (by omega) (fun M_287 m_288e m_288 => ?_)
                      have g_289 : Kp M M_287 := Kp.frame g_282 (fun c j hcj => m_288 c j (by omega))
                      have g_290 : Rd M_287 (M_271 229 42) 0 0 0 := Rd.mv h_276 (fun c j hcj => m_288 c j (by omega)) (by have q38 := m_288 229 38 (by omega); have q39 := m_288 229 39 (by omega); omega)
                      have g_291 : Ty M_287 t9 n9 := Ty.frame g_283 (fun c j hcj => m_288 c j (by omega))
                      have e_292 : M_287 229 37 = M_271 229 37 := (m_288 229 37 (by omega))
                      have e_293 : M_287 229 38 = M_271 229 38 := (m_288 229 38 (by omega))
                      have e_294 : M_287 229 39 = M_271 229 39 := (m_288 229 39 (by omega))
                      have e_295 : M_287 229 44 = M_271 229 44 := (m_288 229 44 (by omega))
                      have e_296 : M_287 229 40 = M_271 229 40 := (m_288 229 40 (by omega))
                      have e_297 : M_287 229 42 = M_271 229 42 := (m_288 229 42 (by omega))
                      have e_298 : M_287 229 43 = M_271 229 43 := (m_288 229 43 (by omega))
                      exact g_vret hx hr (dq tX10_ruleClause 88 rfl) ⟨(fun u_ v_ huv_ => (((((((((m_288 u_ v_ (by omega)).trans (f_274 u_ v_ ⟨huv_.1, huv_.2.1, huv_.2.2.1, huv_.2.2.2.1, huv_.2.2.2.2.1, huv_.2.2.2.2.2.1, huv_.2.2.2.2.2.2.1, huv_.2.2.2.2.2.2.2.1, huv_.2.2.2.2.2.2.2.2.1⟩)).trans (f_235 u_ v_ huv_.1)).trans (m_198 u_ v_ (by omega))).trans (f_182 u_ v_ ⟨huv_.1, huv_.2.1, huv_.2.2.1, huv_.2.2.2.1, huv_.2.2.2.2.1, huv_.2.2.2.2.2.1⟩)).trans (m_116 u_ v_ (by omega))).trans (m_103 u_ v_ (by omega))).trans (m_91 u_ v_ huv_.1)).trans (f_6 u_ v_ huv_.1))), (Rd.new g_290 (by omega)), g_289, (by omega), (by omega), (fun q => ⟨by omega, CO.of (x := M_102 229 42) (y := M_179 229 42) (z := M_271 229 42) (by have w0 : ((12 * (M_90 229 40)) + n).toNat = (12 * (M 229 40).toNat + n.toNat) := (by omega); have w1 := ((((((m_288 (229 + 42) (((12 * (M_90 229 40)) + n).toNat) (by omega)).trans (f_274 (229 + 42) (((12 * (M_90 229 40)) + n).toNat) (by omega))).trans (f_235 (229 + 42) (((12 * (M_90 229 40)) + n).toNat) (by omega))).trans (m_198 (229 + 42) (((12 * (M_90 229 40)) + n).toNat) (by omega))).trans (f_182 (229 + 42) (((12 * (M_90 229 40)) + n).toNat) (by omega)))).trans m_116e; rw [w0] at w1; exact w1) (by have w0 : ((12 * (M_90 229 40)) + n).toNat = (12 * (M 229 40).toNat + n.toNat) := (by omega); have w1 := ((((m_288 (229 + 43) (((12 * (M_90 229 40)) + n).toNat) (by omega)).trans (f_274 (229 + 43) (((12 * (M_90 229 40)) + n).toNat) (by omega))).trans (f_235 (229 + 43) (((12 * (M_90 229 40)) + n).toNat) (by omega)))).trans m_198e; rw [w0] at w1; exact w1) (by have w0 : ((12 * (M_90 229 40)) + n).toNat = (12 * (M 229 40).toNat + n.toNat) := (by omega); have w1 := (rfl).trans m_288e; rw [w0] at w1; exact w1) (by have w1 := Rd.run h_183 (by omega); have w2 := RunOk.kp w1 (Kp.frame (Kp.trans (Kp.frame (Kp.frame Kp.refl (fun c j hcj => m_198 c j (by omega))) (fun c j hcj => f_235 c j (by omega))) h_277) (fun c j hcj => m_288 c j (by omega))) (by omega) (Int.le_refl _); have w3 : M 229 42 = M_102 229 42 := (by omega); have w4 : M_179 229 42 = M_179 229 42 := (by omega); have w5 : (M_179 229 40).toNat = (M 229 40).toNat := (by omega); rw [w3, w4, w5] at w2; exact w2) (by have w1 := h_275 (by omega); have w2 := RunOk.kp w1 (Kp.frame Kp.refl (fun c j hcj => m_288 c j (by omega))) (by omega) (Int.le_refl _); have w3 : M_232 229 42 = M_179 229 42 := (by omega); have w4 : M_271 229 42 = M_271 229 42 := (by omega); have w5 : (M_271 229 40).toNat = (M 229 40).toNat := (by omega); rw [w3, w4, w5] at w2; exact w2), by have w8 : M_287 (229 + 44) (12 * (M 229 40).toNat + n.toNat) = M_271 229 42 := (by have w0 : ((12 * (M_90 229 40)) + n).toNat = (12 * (M 229 40).toNat + n.toNat) := (by omega); have w1 := (rfl).trans m_288e; rw [w0] at w1; exact w1); omega⟩), (fun c j hc hj => (((((((((m_288 c j (by omega)).trans (f_274 c j (by omega))).trans (f_235 c j (by omega))).trans (m_198 c j (by omega))).trans (f_182 c j (by omega))).trans (m_116 c j (by omega))).trans (m_103 c j (by omega))).trans (m_91 c j (by omega))).trans (f_6 c j (by omega)))), (ov_mve (rc_si (rc_s (a := sk t9 n9 a9) rfl (by omega) hwk (by omega) (by omega) (by omega) (by omega) (by omega) (by omega) h_189) (by omega) (a := sk t9 n9 ((M_179 229 38).toNat)) rfl (by omega) (is24 (stY h_240 (by omega)).1) (by omega) (by omega) (by omega) h_280) (by omega) (by omega) (by omega)), (by omega)⟩
            · refine g_aload_n (n := 52) hx 2 (dq tX10_ruleClause 28 rfl) rfl rfl ?_
              refine g_iconst (n := 53) hx (dq tX10_ruleClause 29 rfl) rfl ?_
              refine g_iload_n (n := 54) hx 1 (dq tX10_ruleClause 30 rfl) rfl rfl ?_
              refine g_callVv (n := 57) (As := [vI 4, vI (M_3 229 38)]) (rest := []) hx (ctX10_fails3 Γ M_3 4 (by decide) (by decide) (M_3 229 38) (by omega) (by omega)) mlX10_284 (obX10 (by decide)) (dq tX10_ruleClause 31 rfl) rfl (Nat.le_of_ble_eq_true rfl) (Nat.le_of_ble_eq_true rfl) (Nat.le_of_ble_eq_true rfl) rfl (fun M_300 p_302 => ?_)
              obtain ⟨f_303, h_304, h_305⟩ := p_302
              have g_306 : Kp M M_300 := Kp.frame g_10 (fun c j hcj => f_303 c j (by omega))
              have g_308 : Ty M_300 t9 n9 := Ty.frame g_12 (fun c j hcj => f_303 c j (by omega))
              have e_309 : M_300 229 37 = M_3 229 37 := (f_303 229 37 (by omega))
              have e_310 : M_300 229 38 = M_3 229 38 := (f_303 229 38 (by omega))
              have e_311 : M_300 229 44 = M_3 229 44 := (f_303 229 44 (by omega))
              have e_312 : M_300 229 40 = M_3 229 40 := (f_303 229 40 (by omega))
              have e_313 : M_300 229 42 = M_3 229 42 := (f_303 229 42 (by omega))
              have e_314 : M_300 229 43 = M_3 229 43 := (f_303 229 43 (by omega))
              exact g_vret hx hr (dq tX10_ruleClause 32 rfl) ⟨(fun u_ v_ huv_ => ((f_303 u_ v_ huv_.2.1).trans (f_6 u_ v_ huv_.1))), (Rd.vac (by omega)), g_306, (by omega), (by omega), (fun q => absurd q (by omega)), (fun c j hc hj => ((f_303 c j (by omega)).trans (f_6 c j (by omega)))), (rc_12 (a := sk t9 n9 a9) rfl (by omega) hwk (by omega) (by omega) (by omega)), (by omega)⟩
          · omega
        · refine g_iinc (n := 30) (lv' := [(3, vI (i_14 + 1)), (2, vI (M_3 229 38)), (0, aR Γ 229), (1, vI n)]) hx 0 (dq tX10_ruleClause 15 rfl) rfl (by decide) rfl rfl ?_
          refine g_goto (n := 11) hx (dq tX10_ruleClause 16 rfl) (by decide) ?_
          exact ih_16 _ (by omega) (i_14 + 1) (by omega) (by omega) (NW.go h_19 (by omega) h_57 (stN h_69 (by omega)) rfl) rfl
  have e_315 : M_3 229 37 = M 229 37 := (f_6 229 37 (by omega))
  have e_316 : M_3 229 39 = M 229 39 := (f_6 229 39 (by omega))
  have e_317 : M_3 229 44 = M 229 44 := (f_6 229 44 (by omega))
  have e_318 : M_3 229 40 = M 229 40 := (f_6 229 40 (by omega))
  have e_319 : M_3 229 42 = M 229 42 := (f_6 229 42 (by omega))
  have e_320 : M_3 229 43 = M 229 43 := (f_6 229 43 (by omega))
  exact L_15 _ 0 (by omega) (by omega) NW.nil rfl
