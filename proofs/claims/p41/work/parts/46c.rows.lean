abbrev qctX10_top (M : zM)  (z : Int) (M' : zM) : Prop := M = M' ∧ ((z = -1 ∧ M 229 45 = 0) ∨ (1 ≤ M 229 45 ∧ z = M (229 + 45) (M 229 45 - 1).toNat))
set_option maxHeartbeats 4000000 in
set_option maxRecDepth 100000 in
theorem ctX10_top (Γ : Gam) (M : zM)   : CtI Γ yX10_top cX10_top 1 (some .int) 0 0 [aR Γ 229] M (qctX10_top M) := by
  refine met_i (by decide) (Nat.le_of_ble_eq_true rfl) (fun x hx hr => ?_)
  show G Γ x 1 (QI Γ x (qctX10_top M)) M 0 [(0, aR Γ 229)] []
  refine g_aload_n (n := 1) hx 0 (dq tX10_top 0 rfl) rfl rfl ?_
  refine g_getI (n := 4) hx glX10_315 (sX10_45 (by decide)) (dq tX10_top 1 rfl) rfl (fun h_1l h_1u => ?_)
  refine g_if_ne (n := 7) (t := 11) hx (dq tX10_top 2 rfl) (by decide) rfl (zrI h_1l h_1u (by decide) (by decide)) (fun c_2 => ?_) (fun c_2 => ?_)
  · refine g_aload_n (n := 12) hx 0 (dq tX10_top 5 rfl) rfl rfl ?_
    refine g_getR (n := 15) hx glX10_147 (sX10_56 (by decide)) (dq tX10_top 6 rfl) rfl ?_
    refine g_aload_n (n := 16) hx 0 (dq tX10_top 7 rfl) rfl rfl ?_
    refine g_getI (n := 19) hx glX10_315 (sX10_45 (by decide)) (dq tX10_top 8 rfl) rfl (fun h_3l h_3u => ?_)
    refine g_iconst (n := 20) hx (dq tX10_top 9 rfl) rfl ?_
    refine g_isub (n := 21) hx (dq tX10_top 10 rfl) rfl ?_
    refine g_iald (n := 22) (q := ((M 229 45) - 1).toNat) hx (aX10_56 (b := 229) (by decide)) (dq tX10_top 11 rfl) rfl (by omega) (by omega) (by omega) rfl (fun h_4l h_4u => ?_)
    exact g_iret hx hr (dq tX10_top 12 rfl) (zrI h_4l h_4u (by decide) (by decide)) ⟨rfl, (by omega)⟩
  · refine g_iconst (n := 8) hx (dq tX10_top 3 rfl) rfl ?_
    refine g_goto (n := 22) hx (dq tX10_top 4 rfl) (by decide) ?_
    exact g_iret hx hr (dq tX10_top 12 rfl) ⟨by decide, by decide⟩ ⟨rfl, (by omega)⟩

abbrev qctX10_opens (M : zM) (k : Int) (M' : zM) : Prop := (∀ u_ v_, (u_ ≠ 229 ∨ v_ ≠ 39) ∧ (u_ ≠ 229 ∨ v_ ≠ 43) ∧ (u_ ≠ 229 ∨ v_ ≠ 45) ∧ u_ ≠ 229 + 45 → M' u_ v_ = M u_ v_) ∧ (M' 229 45 = M 229 45 + 1) ∧ (M' (229 + 45) (M 229 45).toNat = k) ∧ (∀ j : Nat, j ≠ (M 229 45).toNat → M' (229 + 45) j = M (229 + 45) j) ∧ (M' 229 39 = 0 → M 229 39 = 0)
set_option maxHeartbeats 4000000 in
set_option maxRecDepth 100000 in
theorem ctX10_opens (Γ : Gam) (M : zM) (k : Int) (hkl : 9 ≤ k) (hku : k ≤ 12) (pre0 : M 229 45 ≤ 401) : CtV Γ yX10_opens cX10_opens 2 none 1 22 [aR Γ 229, vI k] M (qctX10_opens M k) := by
  refine met_v (by decide) (Nat.le_of_ble_eq_true rfl) (fun x hx hr => ?_)
  show G Γ x 2 (QV Γ x (qctX10_opens M k)) M 0 [(0, aR Γ 229), (1, vI k)] []
  refine g_iv (fun hI0 => ?_)
  have hI_37 : (0 : Int) ≤ M 229 37 ∧ M 229 37 ≤ 400 := hI0 229 37
  have hI_38 : (0 : Int) ≤ M 229 38 ∧ M 229 38 ≤ 402 := hI0 229 38
  have hI_45 : (0 : Int) ≤ M 229 45 ∧ M 229 45 ≤ 402 := hI0 229 45
  have hI_42 : (0 : Int) ≤ M 229 42 ∧ M 229 42 ≤ 300 := hI0 229 42
  have hI_39 : (0 : Int) ≤ M 229 39 ∧ M 229 39 ≤ 100000 := hI0 229 39
  have hI_40 : (0 : Int) ≤ M 229 40 ∧ M 229 40 ≤ 5 := hI0 229 40
  have hI_41 : (0 : Int) ≤ M 229 41 ∧ M 229 41 ≤ 6 := hI0 229 41
  clear hI0
  refine g_iload_n (n := 1) hx 1 (dq tX10_opens 0 rfl) rfl rfl ?_
  refine g_bipush (n := 3) hx (dq tX10_opens 1 rfl) rfl (by decide) ?_
  refine g_icmp_eq (n := 6) (t := 12) hx (dq tX10_opens 2 rfl) (by decide) rfl (zrI hkl hku (by decide) (by decide)) ⟨by decide, by decide⟩ (fun c_1 => ?_) (fun c_1 => ?_)
  · refine g_aload_n (n := 13) hx 0 (dq tX10_opens 6 rfl) rfl rfl ?_
    refine g_getI (n := 16) hx glX10_318 (sX10_43 (by decide)) (dq tX10_opens 7 rfl) rfl (fun h_2l h_2u => ?_)
    refine g_bipush (n := 18) hx (dq tX10_opens 8 rfl) rfl (by decide) ?_
    refine g_icmp_ne (n := 21) (t := 30) hx (dq tX10_opens 9 rfl) (by decide) rfl (zrI h_2l h_2u (by decide) (by decide)) ⟨by decide, by decide⟩ (fun c_3 => ?_) (fun c_3 => ?_)
    · refine g_aload_n (n := 31) hx 0 (dq tX10_opens 15 rfl) rfl rfl ?_
      refine g_dup (n := 32) hx (dq tX10_opens 16 rfl) rfl rfl ?_
      refine g_getI (n := 35) hx glX10_318 (sX10_43 (by decide)) (dq tX10_opens 17 rfl) rfl (fun h_4l h_4u => ?_)
      refine g_iconst (n := 36) hx (dq tX10_opens 18 rfl) rfl ?_
      refine g_iadd (n := 37) hx (dq tX10_opens 19 rfl) rfl ?_
      refine g_any (fun z_5 h_6 => ?_)
      refine g_putI (n := 40) hx plX10_318 (sX10_43 (by decide)) (dq tX10_opens 20 rfl) rfl (by omega) (by omega) (fun M_7 m_8e m_8 => ?_)
      refine g_aload_n (n := 41) hx 0 (dq tX10_opens 21 rfl) rfl rfl ?_
      refine g_getR (n := 44) hx glX10_147 (sX10_56 (by decide)) (dq tX10_opens 22 rfl) rfl ?_
      refine g_aload_n (n := 45) hx 0 (dq tX10_opens 23 rfl) rfl rfl ?_
      refine g_getI (n := 48) hx glX10_315 (sX10_45 (by decide)) (dq tX10_opens 24 rfl) rfl (fun h_9l h_9u => ?_)
      have e_10 : M_7 229 45 = M 229 45 := (m_8 229 45 (by omega))
      refine g_iload_n (n := 49) hx 1 (dq tX10_opens 25 rfl) rfl rfl ?_
      have e_11 : M_7 229 37 = M 229 37 := (m_8 229 37 (by omega))
      have e_12 : M_7 229 38 = M 229 38 := (m_8 229 38 (by omega))
      have e_13 : M_7 229 39 = M 229 39 := (m_8 229 39 (by omega))
      refine g_iast (n := 50) (q := (M_7 229 45).toNat) hx (aX10_56 (b := 229) (by decide)) (dq tX10_opens 26 rfl) rfl (by omega) (by omega) (by omega) rfl (by omega) (by omega) (fun M_14 m_15e m_15 => ?_)
      refine g_aload_n (n := 51) hx 0 (dq tX10_opens 27 rfl) rfl rfl ?_
      refine g_dup (n := 52) hx (dq tX10_opens 28 rfl) rfl rfl ?_
      refine g_getI (n := 55) hx glX10_315 (sX10_45 (by decide)) (dq tX10_opens 29 rfl) rfl (fun h_16l h_16u => ?_)
      have e_17 : M_14 229 45 = M_7 229 45 := (m_15 229 45 (by omega))
      refine g_iconst (n := 56) hx (dq tX10_opens 30 rfl) rfl ?_
      refine g_iadd (n := 57) hx (dq tX10_opens 31 rfl) rfl ?_
      have e_18 : M_14 229 37 = M_7 229 37 := (m_15 229 37 (by omega))
      have e_19 : M_14 229 38 = M_7 229 38 := (m_15 229 38 (by omega))
      have e_20 : M_14 229 39 = M_7 229 39 := (m_15 229 39 (by omega))
      refine g_putI (n := 60) hx plX10_315 (sX10_45 (by decide)) (dq tX10_opens 32 rfl) rfl (by omega) (by omega) (fun M_21 m_22e m_22 => ?_)
      have e_23 : M_21 229 37 = M_14 229 37 := (m_22 229 37 (by omega))
      have e_24 : M_21 229 38 = M_14 229 38 := (m_22 229 38 (by omega))
      have e_25 : M_21 229 39 = M_14 229 39 := (m_22 229 39 (by omega))
      exact g_vret hx hr (dq tX10_opens 33 rfl) ⟨(fun u_ v_ huv_ => (((m_22 u_ v_ huv_.2.2.1).trans (m_15 u_ v_ (by omega))).trans (m_8 u_ v_ huv_.2.1))), (by omega), (by have e9 : ((M_7 229 45).toNat) = (M 229 45).toNat := (by omega); have q9 := m_15e; rw [e9] at q9; exact ((m_22 (229 + 45) ((M 229 45).toNat) (by omega))).trans q9), (fun j hj => (((m_22 (229 + 45) j (by omega)).trans (m_15 (229 + 45) j (by omega))).trans (m_8 (229 + 45) j (by omega)))), (by omega)⟩
    · refine g_aload_n (n := 22) hx 0 (dq tX10_opens 10 rfl) rfl rfl ?_
      refine g_iconst (n := 23) hx (dq tX10_opens 11 rfl) rfl ?_
      refine g_aload_n (n := 24) hx 0 (dq tX10_opens 12 rfl) rfl rfl ?_
      refine g_getI (n := 27) hx glX10_249 (sX10_38 (by decide)) (dq tX10_opens 13 rfl) rfl (fun h_26l h_26u => ?_)
      refine g_callVv (n := 30) (As := [vI 2, vI (M 229 38)]) (rest := []) hx (ctX10_fails Γ M 2 (by decide) (by decide) (M 229 38) (by omega) (by omega)) mlX10_284 (obX10 (by decide)) (dq tX10_opens 14 rfl) rfl (Nat.le_of_ble_eq_true rfl) (Nat.le_of_ble_eq_true rfl) (Nat.le_of_ble_eq_true rfl) rfl (fun M_28 p_30 => ?_)
      obtain ⟨f_31, h_32⟩ := p_30
      refine g_aload_n (n := 31) hx 0 (dq tX10_opens 15 rfl) rfl rfl ?_
      refine g_dup (n := 32) hx (dq tX10_opens 16 rfl) rfl rfl ?_
      refine g_getI (n := 35) hx glX10_318 (sX10_43 (by decide)) (dq tX10_opens 17 rfl) rfl (fun h_33l h_33u => ?_)
      have e_34 : M_28 229 43 = M 229 43 := (f_31 229 43 (by omega))
      refine g_iconst (n := 36) hx (dq tX10_opens 18 rfl) rfl ?_
      refine g_iadd (n := 37) hx (dq tX10_opens 19 rfl) rfl ?_
      refine g_any (fun z_35 h_36 => ?_)
      have e_37 : M_28 229 37 = M 229 37 := (f_31 229 37 (by omega))
      have e_38 : M_28 229 38 = M 229 38 := (f_31 229 38 (by omega))
      have e_39 : M_28 229 45 = M 229 45 := (f_31 229 45 (by omega))
      refine g_putI (n := 40) hx plX10_318 (sX10_43 (by decide)) (dq tX10_opens 20 rfl) rfl (by omega) (by omega) (fun M_40 m_41e m_41 => ?_)
      refine g_aload_n (n := 41) hx 0 (dq tX10_opens 21 rfl) rfl rfl ?_
      refine g_getR (n := 44) hx glX10_147 (sX10_56 (by decide)) (dq tX10_opens 22 rfl) rfl ?_
      refine g_aload_n (n := 45) hx 0 (dq tX10_opens 23 rfl) rfl rfl ?_
      refine g_getI (n := 48) hx glX10_315 (sX10_45 (by decide)) (dq tX10_opens 24 rfl) rfl (fun h_42l h_42u => ?_)
      have e_43 : M_40 229 45 = M_28 229 45 := (m_41 229 45 (by omega))
      refine g_iload_n (n := 49) hx 1 (dq tX10_opens 25 rfl) rfl rfl ?_
      have e_44 : M_40 229 37 = M_28 229 37 := (m_41 229 37 (by omega))
      have e_45 : M_40 229 38 = M_28 229 38 := (m_41 229 38 (by omega))
      have e_46 : M_40 229 39 = M_28 229 39 := (m_41 229 39 (by omega))
      refine g_iast (n := 50) (q := (M_40 229 45).toNat) hx (aX10_56 (b := 229) (by decide)) (dq tX10_opens 26 rfl) rfl (by omega) (by omega) (by omega) rfl (by omega) (by omega) (fun M_47 m_48e m_48 => ?_)
      refine g_aload_n (n := 51) hx 0 (dq tX10_opens 27 rfl) rfl rfl ?_
      refine g_dup (n := 52) hx (dq tX10_opens 28 rfl) rfl rfl ?_
      refine g_getI (n := 55) hx glX10_315 (sX10_45 (by decide)) (dq tX10_opens 29 rfl) rfl (fun h_49l h_49u => ?_)
      have e_50 : M_47 229 45 = M_40 229 45 := (m_48 229 45 (by omega))
      refine g_iconst (n := 56) hx (dq tX10_opens 30 rfl) rfl ?_
      refine g_iadd (n := 57) hx (dq tX10_opens 31 rfl) rfl ?_
      have e_51 : M_47 229 37 = M_40 229 37 := (m_48 229 37 (by omega))
      have e_52 : M_47 229 38 = M_40 229 38 := (m_48 229 38 (by omega))
      have e_53 : M_47 229 39 = M_40 229 39 := (m_48 229 39 (by omega))
      refine g_putI (n := 60) hx plX10_315 (sX10_45 (by decide)) (dq tX10_opens 32 rfl) rfl (by omega) (by omega) (fun M_54 m_55e m_55 => ?_)
      have e_56 : M_54 229 37 = M_47 229 37 := (m_55 229 37 (by omega))
      have e_57 : M_54 229 38 = M_47 229 38 := (m_55 229 38 (by omega))
      have e_58 : M_54 229 39 = M_47 229 39 := (m_55 229 39 (by omega))
      exact g_vret hx hr (dq tX10_opens 33 rfl) ⟨(fun u_ v_ huv_ => ((((m_55 u_ v_ huv_.2.2.1).trans (m_48 u_ v_ (by omega))).trans (m_41 u_ v_ huv_.2.1)).trans (f_31 u_ v_ huv_.1))), (by omega), (by have e9 : ((M_40 229 45).toNat) = (M 229 45).toNat := (by omega); have q9 := m_48e; rw [e9] at q9; exact ((m_55 (229 + 45) ((M 229 45).toNat) (by omega))).trans q9), (fun j hj => ((((m_55 (229 + 45) j (by omega)).trans (m_48 (229 + 45) j (by omega))).trans (m_41 (229 + 45) j (by omega))).trans (f_31 (229 + 45) j (by omega)))), (by omega)⟩
  · refine g_iload_n (n := 7) hx 1 (dq tX10_opens 3 rfl) rfl rfl ?_
    refine g_bipush (n := 9) hx (dq tX10_opens 4 rfl) rfl (by decide) ?_
    refine g_icmp_ne (n := 12) (t := 40) hx (dq tX10_opens 5 rfl) (by decide) rfl (zrI hkl hku (by decide) (by decide)) ⟨by decide, by decide⟩ (fun c_59 => ?_) (fun c_59 => ?_)
    · refine g_aload_n (n := 41) hx 0 (dq tX10_opens 21 rfl) rfl rfl ?_
      refine g_getR (n := 44) hx glX10_147 (sX10_56 (by decide)) (dq tX10_opens 22 rfl) rfl ?_
      refine g_aload_n (n := 45) hx 0 (dq tX10_opens 23 rfl) rfl rfl ?_
      refine g_getI (n := 48) hx glX10_315 (sX10_45 (by decide)) (dq tX10_opens 24 rfl) rfl (fun h_60l h_60u => ?_)
      refine g_iload_n (n := 49) hx 1 (dq tX10_opens 25 rfl) rfl rfl ?_
      refine g_iast (n := 50) (q := (M 229 45).toNat) hx (aX10_56 (b := 229) (by decide)) (dq tX10_opens 26 rfl) rfl (by omega) (by omega) (by omega) rfl (by omega) (by omega) (fun M_61 m_62e m_62 => ?_)
      refine g_aload_n (n := 51) hx 0 (dq tX10_opens 27 rfl) rfl rfl ?_
      refine g_dup (n := 52) hx (dq tX10_opens 28 rfl) rfl rfl ?_
      refine g_getI (n := 55) hx glX10_315 (sX10_45 (by decide)) (dq tX10_opens 29 rfl) rfl (fun h_63l h_63u => ?_)
      have e_64 : M_61 229 45 = M 229 45 := (m_62 229 45 (by omega))
      refine g_iconst (n := 56) hx (dq tX10_opens 30 rfl) rfl ?_
      refine g_iadd (n := 57) hx (dq tX10_opens 31 rfl) rfl ?_
      have e_65 : M_61 229 37 = M 229 37 := (m_62 229 37 (by omega))
      have e_66 : M_61 229 38 = M 229 38 := (m_62 229 38 (by omega))
      have e_67 : M_61 229 39 = M 229 39 := (m_62 229 39 (by omega))
      refine g_putI (n := 60) hx plX10_315 (sX10_45 (by decide)) (dq tX10_opens 32 rfl) rfl (by omega) (by omega) (fun M_68 m_69e m_69 => ?_)
      have e_70 : M_68 229 37 = M_61 229 37 := (m_69 229 37 (by omega))
      have e_71 : M_68 229 38 = M_61 229 38 := (m_69 229 38 (by omega))
      have e_72 : M_68 229 39 = M_61 229 39 := (m_69 229 39 (by omega))
      exact g_vret hx hr (dq tX10_opens 33 rfl) ⟨(fun u_ v_ huv_ => ((m_69 u_ v_ huv_.2.2.1).trans (m_62 u_ v_ (by omega)))), (by omega), (by have e9 : ((M 229 45).toNat) = (M 229 45).toNat := (by omega); have q9 := m_62e; rw [e9] at q9; exact ((m_69 (229 + 45) ((M 229 45).toNat) (by omega))).trans q9), (fun j hj => ((m_69 (229 + 45) j (by omega)).trans (m_62 (229 + 45) j (by omega)))), (by omega)⟩
    · refine g_aload_n (n := 13) hx 0 (dq tX10_opens 6 rfl) rfl rfl ?_
      refine g_getI (n := 16) hx glX10_318 (sX10_43 (by decide)) (dq tX10_opens 7 rfl) rfl (fun h_73l h_73u => ?_)
      refine g_bipush (n := 18) hx (dq tX10_opens 8 rfl) rfl (by decide) ?_
      refine g_icmp_ne (n := 21) (t := 30) hx (dq tX10_opens 9 rfl) (by decide) rfl (zrI h_73l h_73u (by decide) (by decide)) ⟨by decide, by decide⟩ (fun c_74 => ?_) (fun c_74 => ?_)
      · refine g_aload_n (n := 31) hx 0 (dq tX10_opens 15 rfl) rfl rfl ?_
        refine g_dup (n := 32) hx (dq tX10_opens 16 rfl) rfl rfl ?_
        refine g_getI (n := 35) hx glX10_318 (sX10_43 (by decide)) (dq tX10_opens 17 rfl) rfl (fun h_75l h_75u => ?_)
        refine g_iconst (n := 36) hx (dq tX10_opens 18 rfl) rfl ?_
        refine g_iadd (n := 37) hx (dq tX10_opens 19 rfl) rfl ?_
        refine g_any (fun z_76 h_77 => ?_)
        refine g_putI (n := 40) hx plX10_318 (sX10_43 (by decide)) (dq tX10_opens 20 rfl) rfl (by omega) (by omega) (fun M_78 m_79e m_79 => ?_)
        refine g_aload_n (n := 41) hx 0 (dq tX10_opens 21 rfl) rfl rfl ?_
        refine g_getR (n := 44) hx glX10_147 (sX10_56 (by decide)) (dq tX10_opens 22 rfl) rfl ?_
        refine g_aload_n (n := 45) hx 0 (dq tX10_opens 23 rfl) rfl rfl ?_
        refine g_getI (n := 48) hx glX10_315 (sX10_45 (by decide)) (dq tX10_opens 24 rfl) rfl (fun h_80l h_80u => ?_)
        have e_81 : M_78 229 45 = M 229 45 := (m_79 229 45 (by omega))
        refine g_iload_n (n := 49) hx 1 (dq tX10_opens 25 rfl) rfl rfl ?_
        have e_82 : M_78 229 37 = M 229 37 := (m_79 229 37 (by omega))
        have e_83 : M_78 229 38 = M 229 38 := (m_79 229 38 (by omega))
        have e_84 : M_78 229 39 = M 229 39 := (m_79 229 39 (by omega))
        refine g_iast (n := 50) (q := (M_78 229 45).toNat) hx (aX10_56 (b := 229) (by decide)) (dq tX10_opens 26 rfl) rfl (by omega) (by omega) (by omega) rfl (by omega) (by omega) (fun M_85 m_86e m_86 => ?_)
        refine g_aload_n (n := 51) hx 0 (dq tX10_opens 27 rfl) rfl rfl ?_
        refine g_dup (n := 52) hx (dq tX10_opens 28 rfl) rfl rfl ?_
        refine g_getI (n := 55) hx glX10_315 (sX10_45 (by decide)) (dq tX10_opens 29 rfl) rfl (fun h_87l h_87u => ?_)
        have e_88 : M_85 229 45 = M_78 229 45 := (m_86 229 45 (by omega))
        refine g_iconst (n := 56) hx (dq tX10_opens 30 rfl) rfl ?_
        refine g_iadd (n := 57) hx (dq tX10_opens 31 rfl) rfl ?_
        have e_89 : M_85 229 37 = M_78 229 37 := (m_86 229 37 (by omega))
        have e_90 : M_85 229 38 = M_78 229 38 := (m_86 229 38 (by omega))
        have e_91 : M_85 229 39 = M_78 229 39 := (m_86 229 39 (by omega))
        refine g_putI (n := 60) hx plX10_315 (sX10_45 (by decide)) (dq tX10_opens 32 rfl) rfl (by omega) (by omega) (fun M_92 m_93e m_93 => ?_)
        have e_94 : M_92 229 37 = M_85 229 37 := (m_93 229 37 (by omega))
        have e_95 : M_92 229 38 = M_85 229 38 := (m_93 229 38 (by omega))
        have e_96 : M_92 229 39 = M_85 229 39 := (m_93 229 39 (by omega))
        exact g_vret hx hr (dq tX10_opens 33 rfl) ⟨(fun u_ v_ huv_ => (((m_93 u_ v_ huv_.2.2.1).trans (m_86 u_ v_ (by omega))).trans (m_79 u_ v_ huv_.2.1))), (by omega), (by have e9 : ((M_78 229 45).toNat) = (M 229 45).toNat := (by omega); have q9 := m_86e; rw [e9] at q9; exact ((m_93 (229 + 45) ((M 229 45).toNat) (by omega))).trans q9), (fun j hj => (((m_93 (229 + 45) j (by omega)).trans (m_86 (229 + 45) j (by omega))).trans (m_79 (229 + 45) j (by omega)))), (by omega)⟩
      · refine g_aload_n (n := 22) hx 0 (dq tX10_opens 10 rfl) rfl rfl ?_
        refine g_iconst (n := 23) hx (dq tX10_opens 11 rfl) rfl ?_
        refine g_aload_n (n := 24) hx 0 (dq tX10_opens 12 rfl) rfl rfl ?_
        refine g_getI (n := 27) hx glX10_249 (sX10_38 (by decide)) (dq tX10_opens 13 rfl) rfl (fun h_97l h_97u => ?_)
        refine g_callVv (n := 30) (As := [vI 2, vI (M 229 38)]) (rest := []) hx (ctX10_fails Γ M 2 (by decide) (by decide) (M 229 38) (by omega) (by omega)) mlX10_284 (obX10 (by decide)) (dq tX10_opens 14 rfl) rfl (Nat.le_of_ble_eq_true rfl) (Nat.le_of_ble_eq_true rfl) (Nat.le_of_ble_eq_true rfl) rfl (fun M_99 p_101 => ?_)
        obtain ⟨f_102, h_103⟩ := p_101
        refine g_aload_n (n := 31) hx 0 (dq tX10_opens 15 rfl) rfl rfl ?_
        refine g_dup (n := 32) hx (dq tX10_opens 16 rfl) rfl rfl ?_
        refine g_getI (n := 35) hx glX10_318 (sX10_43 (by decide)) (dq tX10_opens 17 rfl) rfl (fun h_104l h_104u => ?_)
        have e_105 : M_99 229 43 = M 229 43 := (f_102 229 43 (by omega))
        refine g_iconst (n := 36) hx (dq tX10_opens 18 rfl) rfl ?_
        refine g_iadd (n := 37) hx (dq tX10_opens 19 rfl) rfl ?_
        refine g_any (fun z_106 h_107 => ?_)
        have e_108 : M_99 229 37 = M 229 37 := (f_102 229 37 (by omega))
        have e_109 : M_99 229 38 = M 229 38 := (f_102 229 38 (by omega))
        have e_110 : M_99 229 45 = M 229 45 := (f_102 229 45 (by omega))
        refine g_putI (n := 40) hx plX10_318 (sX10_43 (by decide)) (dq tX10_opens 20 rfl) rfl (by omega) (by omega) (fun M_111 m_112e m_112 => ?_)
        refine g_aload_n (n := 41) hx 0 (dq tX10_opens 21 rfl) rfl rfl ?_
        refine g_getR (n := 44) hx glX10_147 (sX10_56 (by decide)) (dq tX10_opens 22 rfl) rfl ?_
        refine g_aload_n (n := 45) hx 0 (dq tX10_opens 23 rfl) rfl rfl ?_
        refine g_getI (n := 48) hx glX10_315 (sX10_45 (by decide)) (dq tX10_opens 24 rfl) rfl (fun h_113l h_113u => ?_)
        have e_114 : M_111 229 45 = M_99 229 45 := (m_112 229 45 (by omega))
        refine g_iload_n (n := 49) hx 1 (dq tX10_opens 25 rfl) rfl rfl ?_
        have e_115 : M_111 229 37 = M_99 229 37 := (m_112 229 37 (by omega))
        have e_116 : M_111 229 38 = M_99 229 38 := (m_112 229 38 (by omega))
        have e_117 : M_111 229 39 = M_99 229 39 := (m_112 229 39 (by omega))
        refine g_iast (n := 50) (q := (M_111 229 45).toNat) hx (aX10_56 (b := 229) (by decide)) (dq tX10_opens 26 rfl) rfl (by omega) (by omega) (by omega) rfl (by omega) (by omega) (fun M_118 m_119e m_119 => ?_)
        refine g_aload_n (n := 51) hx 0 (dq tX10_opens 27 rfl) rfl rfl ?_
        refine g_dup (n := 52) hx (dq tX10_opens 28 rfl) rfl rfl ?_
        refine g_getI (n := 55) hx glX10_315 (sX10_45 (by decide)) (dq tX10_opens 29 rfl) rfl (fun h_120l h_120u => ?_)
        have e_121 : M_118 229 45 = M_111 229 45 := (m_119 229 45 (by omega))
        refine g_iconst (n := 56) hx (dq tX10_opens 30 rfl) rfl ?_
        refine g_iadd (n := 57) hx (dq tX10_opens 31 rfl) rfl ?_
        have e_122 : M_118 229 37 = M_111 229 37 := (m_119 229 37 (by omega))
        have e_123 : M_118 229 38 = M_111 229 38 := (m_119 229 38 (by omega))
        have e_124 : M_118 229 39 = M_111 229 39 := (m_119 229 39 (by omega))
        refine g_putI (n := 60) hx plX10_315 (sX10_45 (by decide)) (dq tX10_opens 32 rfl) rfl (by omega) (by omega) (fun M_125 m_126e m_126 => ?_)
        have e_127 : M_125 229 37 = M_118 229 37 := (m_126 229 37 (by omega))
        have e_128 : M_125 229 38 = M_118 229 38 := (m_126 229 38 (by omega))
        have e_129 : M_125 229 39 = M_118 229 39 := (m_126 229 39 (by omega))
        exact g_vret hx hr (dq tX10_opens 33 rfl) ⟨(fun u_ v_ huv_ => ((((m_126 u_ v_ huv_.2.2.1).trans (m_119 u_ v_ (by omega))).trans (m_112 u_ v_ huv_.2.1)).trans (f_102 u_ v_ huv_.1))), (by omega), (by have e9 : ((M_111 229 45).toNat) = (M 229 45).toNat := (by omega); have q9 := m_119e; rw [e9] at q9; exact ((m_126 (229 + 45) ((M 229 45).toNat) (by omega))).trans q9), (fun j hj => ((((m_126 (229 + 45) j (by omega)).trans (m_119 (229 + 45) j (by omega))).trans (m_112 (229 + 45) j (by omega))).trans (f_102 (229 + 45) j (by omega)))), (by omega)⟩

abbrev qctX10_answers9 (M : zM) (k : Int) (ua : Int) (M' : zM) : Prop := (∀ u_ v_, (u_ ≠ 229 ∨ v_ ≠ 42) ∧ (u_ ≠ 229 ∨ v_ ≠ 43) ∧ (u_ ≠ 229 ∨ v_ ≠ 45) ∧ u_ ≠ 229 + 38 ∧ u_ ≠ 229 + 39 → M' u_ v_ = M u_ v_) ∧ (Ts M' ua 0) ∧ (Kp M M')
set_option maxHeartbeats 4000000 in
set_option maxRecDepth 100000 in
theorem ctX10_answers9 (Γ : Gam) (M : zM) (k : Int) (hkl : 9 ≤ k) (hku : k ≤ 9) (ua : Int) (ex0 : Ts M ua 0) : CtV Γ yX10_answers cX10_answers 2 none 1 22 [aR Γ 229, vI k] M (qctX10_answers9 M k ua) := by
  refine met_v (by decide) (Nat.le_of_ble_eq_true rfl) (fun x hx hr => ?_)
  show G Γ x 2 (QV Γ x (qctX10_answers9 M k ua)) M 0 [(0, aR Γ 229), (1, vI k)] []
  refine g_iv (fun hI0 => ?_)
  have hI_37 : (0 : Int) ≤ M 229 37 ∧ M 229 37 ≤ 400 := hI0 229 37
  have hI_38 : (0 : Int) ≤ M 229 38 ∧ M 229 38 ≤ 402 := hI0 229 38
  have hI_45 : (0 : Int) ≤ M 229 45 ∧ M 229 45 ≤ 402 := hI0 229 45
  have hI_42 : (0 : Int) ≤ M 229 42 ∧ M 229 42 ≤ 300 := hI0 229 42
  have hI_39 : (0 : Int) ≤ M 229 39 ∧ M 229 39 ≤ 100000 := hI0 229 39
  have hI_40 : (0 : Int) ≤ M 229 40 ∧ M 229 40 ≤ 5 := hI0 229 40
  have hI_41 : (0 : Int) ≤ M 229 41 ∧ M 229 41 ≤ 6 := hI0 229 41
  clear hI0
  have L_2 : ∀ (n_ : Nat) (M_1 : zM), (∀ u_ v_, (u_ ≠ 229 ∨ v_ ≠ 43) ∧ (u_ ≠ 229 ∨ v_ ≠ 45) ∧ u_ ≠ 229 + 38 ∧ u_ ≠ 229 + 39 ∧ (u_ ≠ 229 ∨ v_ ≠ 42) → M_1 u_ v_ = M u_ v_) → (Kp M M_1) → (Ts M_1 ua 0) → ((M_1 229 45).toNat = n_) → G Γ x 2 (QV Γ x (qctX10_answers9 M k ua)) M_1 0 [(0, aR Γ 229), (1, vI k)] [] := by
    intro n_
    induction n_ using Nat.strongRecOn with
    | _ n_ ih_3 =>
      intro M_1 f_4 g_5 h_7 hm_6
      refine g_aload_n (n := 1) hx 0 (dq tX10_answers 0 rfl) rfl rfl ?_
      have e_8 : M_1 229 37 = M 229 37 := (f_4 229 37 (by omega))
      have e_9 : M_1 229 38 = M 229 38 := (f_4 229 38 (by omega))
      have e_10 : M_1 229 39 = M 229 39 := (f_4 229 39 (by omega))
      refine g_callVi (n := 4) (As := []) (rest := []) hx (ctX10_top Γ M_1 ) mlX10_321 (obX10 (by decide)) (dq tX10_answers 1 rfl) rfl (Nat.le_of_ble_eq_true rfl) (Nat.le_of_ble_eq_true rfl) (Nat.le_of_ble_eq_true rfl) rfl (fun z_11 M_12 h_13 p_14 => ?_)
      obtain ⟨rfl, h_16⟩ := p_14
      refine g_iload_n (n := 5) hx 1 (dq tX10_answers 2 rfl) rfl rfl ?_
      refine g_icmp_ne (n := 8) (t := 54) hx (dq tX10_answers 3 rfl) (by decide) rfl h_13 (zrI hkl hku (by decide) (by decide)) (fun c_17 => ?_) (fun c_17 => ?_)
      · exact g_vret hx hr (dq tX10_answers 29 rfl) ⟨(fun u_ v_ huv_ => (f_4 u_ v_ ⟨huv_.2.1, huv_.2.2.1, huv_.2.2.2.1, huv_.2.2.2.2, huv_.1⟩)), h_7, g_5⟩
      · refine g_aload_n (n := 9) hx 0 (dq tX10_answers 4 rfl) rfl rfl ?_
        refine g_getI (n := 12) hx glX10_246 (sX10_39 (by decide)) (dq tX10_answers 5 rfl) rfl (fun h_18l h_18u => ?_)
        refine g_if_ne (n := 15) (t := 54) hx (dq tX10_answers 6 rfl) (by decide) rfl (zrI h_18l h_18u (by decide) (by decide)) (fun c_19 => ?_) (fun c_19 => ?_)
        · exact g_vret hx hr (dq tX10_answers 29 rfl) ⟨(fun u_ v_ huv_ => (f_4 u_ v_ ⟨huv_.2.1, huv_.2.2.1, huv_.2.2.2.1, huv_.2.2.2.2, huv_.1⟩)), h_7, g_5⟩
        · have ht_20 := Ts.top h_7 (by omega)
          have ht_20n := Ts.nums h_7 (by omega)
          refine g_aload_n (n := 16) hx 0 (dq tX10_answers 7 rfl) rfl rfl ?_
          refine g_iload_n (n := 17) hx 1 (dq tX10_answers 8 rfl) rfl rfl ?_
          refine g_iconst (n := 18) hx (dq tX10_answers 9 rfl) rfl ?_
          refine g_callVv (n := 21) (As := [vI k, vI 0]) (rest := []) hx (ctX10_entry9 Γ M_1 k (by omega) (by omega) 0 (by decide) (by decide) ua (nbO M_1 (M_1 229 45).toNat + 1 - 0) (nnO M_1 (M_1 229 45).toNat) 0 (by omega) (by omega) (by omega) h_7.2) mlX10_299 (obX10 (by decide)) (dq tX10_answers 10 rfl) rfl (Nat.le_of_ble_eq_true rfl) (Nat.le_of_ble_eq_true rfl) (Nat.le_of_ble_eq_true rfl) rfl (fun M_22 p_24 => ?_)
          obtain ⟨f_25, h_26, h_27⟩ := p_24
          have g_28 := Kp.trans g_5 h_27
          refine g_aload_n (n := 22) hx 0 (dq tX10_answers 11 rfl) rfl rfl ?_
          refine g_dup (n := 23) hx (dq tX10_answers 12 rfl) rfl rfl ?_
          refine g_getI (n := 26) hx glX10_315 (sX10_45 (by decide)) (dq tX10_answers 13 rfl) rfl (fun h_29l h_29u => ?_)
          have e_30 : M_22 229 45 = M_1 229 45 := (f_25 229 45 (by omega))
          refine g_iconst (n := 27) hx (dq tX10_answers 14 rfl) rfl ?_
          refine g_isub (n := 28) hx (dq tX10_answers 15 rfl) rfl ?_
          have e_31 : M_22 229 37 = M_1 229 37 := (f_25 229 37 (by omega))
          have e_32 : M_22 229 38 = M_1 229 38 := (f_25 229 38 (by omega))
          have e_33 : M_22 229 39 = M_1 229 39 := (f_25 229 39 (by omega))
          refine g_putI (n := 31) hx plX10_315 (sX10_45 (by decide)) (dq tX10_answers 16 rfl) rfl (by omega) (by omega) (fun M_34 m_35e m_35 => ?_)
          have g_36 : Kp M M_34 := Kp.frame g_28 (fun c j hcj => m_35 c j (by omega))
          refine g_aload_n (n := 32) hx 0 (dq tX10_answers 17 rfl) rfl rfl ?_
          refine g_dup (n := 33) hx (dq tX10_answers 18 rfl) rfl rfl ?_
          refine g_getI (n := 36) hx glX10_318 (sX10_43 (by decide)) (dq tX10_answers 19 rfl) rfl (fun h_37l h_37u => ?_)
          refine g_iload_n (n := 37) hx 1 (dq tX10_answers 20 rfl) rfl rfl ?_
          refine g_bipush (n := 39) hx (dq tX10_answers 21 rfl) rfl (by decide) ?_
          refine g_icmp_ne (n := 42) (t := 46) hx (dq tX10_answers 22 rfl) (by decide) rfl (zrI hkl hku (by decide) (by decide)) ⟨by decide, by decide⟩ (fun c_38 => ?_) (fun c_38 => ?_)
          · omega
          · refine g_iconst (n := 43) hx (dq tX10_answers 23 rfl) rfl ?_
            refine g_goto (n := 47) hx (dq tX10_answers 24 rfl) (by decide) ?_
            refine g_isub (n := 48) hx (dq tX10_answers 26 rfl) rfl ?_
            refine g_any (fun z_39 h_40 => ?_)
            have e_41 : M_34 229 37 = M_22 229 37 := (m_35 229 37 (by omega))
            have e_42 : M_34 229 38 = M_22 229 38 := (m_35 229 38 (by omega))
            have e_43 : M_34 229 39 = M_22 229 39 := (m_35 229 39 (by omega))
            refine g_putI (n := 51) hx plX10_318 (sX10_43 (by decide)) (dq tX10_answers 27 rfl) rfl (by omega) (by omega) (fun M_44 m_45e m_45 => ?_)
            have g_46 : Kp M M_44 := Kp.frame g_36 (fun c j hcj => m_45 c j (by omega))
            refine g_goto (n := 0) hx (dq tX10_answers 28 rfl) (by decide) ?_
            have e_47 : M_44 229 37 = M_34 229 37 := (m_45 229 37 (by omega))
            have e_48 : M_44 229 38 = M_34 229 38 := (m_45 229 38 (by omega))
            have e_49 : M_44 229 39 = M_34 229 39 := (m_45 229 39 (by omega))
            have e_50 : M_44 229 45 = M_34 229 45 := (m_45 229 45 (by omega))
            exact ih_3 _ (by omega) M_44 (fun u_ v_ huv_ => ((((m_45 u_ v_ huv_.1).trans (m_35 u_ v_ huv_.2.1)).trans (f_25 u_ v_ ⟨huv_.2.2.1, huv_.2.2.2.1, huv_.2.2.2.2⟩)).trans (f_4 u_ v_ ⟨huv_.1, huv_.2.1, huv_.2.2.1, huv_.2.2.2.1, huv_.2.2.2.2⟩))) g_46 (Ts.pop (M := M_1) (M1 := M_22) h_26 (by omega) (by omega) (fun j => (((m_45 (229 + 45) j (by omega)).trans (m_35 (229 + 45) j (by omega))).trans (f_25 (229 + 45) j (by omega)))) (fun c j hcj => ((m_45 c j (by omega)).trans (m_35 c j (by omega)))) (fun q => ⟨by omega, fun q2 => ⟨by omega, by omega⟩, by omega⟩) (by omega)) rfl
  exact L_2 _ M (fun _ _ _ => rfl) Kp.refl ex0 rfl

abbrev qctX10_answers10 (M : zM) (k : Int) (ua : Int) (M' : zM) : Prop := (∀ u_ v_, (u_ ≠ 229 ∨ v_ ≠ 42) ∧ (u_ ≠ 229 ∨ v_ ≠ 43) ∧ (u_ ≠ 229 ∨ v_ ≠ 45) ∧ u_ ≠ 229 + 38 ∧ u_ ≠ 229 + 39 → M' u_ v_ = M u_ v_) ∧ (Ts M' ua 0) ∧ (Kp M M')
set_option maxHeartbeats 4000000 in
set_option maxRecDepth 100000 in
theorem ctX10_answers10 (Γ : Gam) (M : zM) (k : Int) (hkl : 10 ≤ k) (hku : k ≤ 11) (ua : Int) (ex0 : Ts M ua 0) : CtV Γ yX10_answers cX10_answers 2 none 1 22 [aR Γ 229, vI k] M (qctX10_answers10 M k ua) := by
  refine met_v (by decide) (Nat.le_of_ble_eq_true rfl) (fun x hx hr => ?_)
  show G Γ x 2 (QV Γ x (qctX10_answers10 M k ua)) M 0 [(0, aR Γ 229), (1, vI k)] []
  refine g_iv (fun hI0 => ?_)
  have hI_37 : (0 : Int) ≤ M 229 37 ∧ M 229 37 ≤ 400 := hI0 229 37
  have hI_38 : (0 : Int) ≤ M 229 38 ∧ M 229 38 ≤ 402 := hI0 229 38
  have hI_45 : (0 : Int) ≤ M 229 45 ∧ M 229 45 ≤ 402 := hI0 229 45
  have hI_42 : (0 : Int) ≤ M 229 42 ∧ M 229 42 ≤ 300 := hI0 229 42
  have hI_39 : (0 : Int) ≤ M 229 39 ∧ M 229 39 ≤ 100000 := hI0 229 39
  have hI_40 : (0 : Int) ≤ M 229 40 ∧ M 229 40 ≤ 5 := hI0 229 40
  have hI_41 : (0 : Int) ≤ M 229 41 ∧ M 229 41 ≤ 6 := hI0 229 41
  clear hI0
  have L_2 : ∀ (n_ : Nat) (M_1 : zM), (∀ u_ v_, (u_ ≠ 229 ∨ v_ ≠ 43) ∧ (u_ ≠ 229 ∨ v_ ≠ 45) ∧ u_ ≠ 229 + 38 ∧ u_ ≠ 229 + 39 ∧ (u_ ≠ 229 ∨ v_ ≠ 42) → M_1 u_ v_ = M u_ v_) → (Kp M M_1) → (Ts M_1 ua 0) → ((M_1 229 45).toNat = n_) → G Γ x 2 (QV Γ x (qctX10_answers10 M k ua)) M_1 0 [(0, aR Γ 229), (1, vI k)] [] := by
    intro n_
    induction n_ using Nat.strongRecOn with
    | _ n_ ih_3 =>
      intro M_1 f_4 g_5 h_7 hm_6
      refine g_aload_n (n := 1) hx 0 (dq tX10_answers 0 rfl) rfl rfl ?_
      have e_8 : M_1 229 37 = M 229 37 := (f_4 229 37 (by omega))
      have e_9 : M_1 229 38 = M 229 38 := (f_4 229 38 (by omega))
      have e_10 : M_1 229 39 = M 229 39 := (f_4 229 39 (by omega))
      refine g_callVi (n := 4) (As := []) (rest := []) hx (ctX10_top Γ M_1 ) mlX10_321 (obX10 (by decide)) (dq tX10_answers 1 rfl) rfl (Nat.le_of_ble_eq_true rfl) (Nat.le_of_ble_eq_true rfl) (Nat.le_of_ble_eq_true rfl) rfl (fun z_11 M_12 h_13 p_14 => ?_)
      obtain ⟨rfl, h_16⟩ := p_14
      refine g_iload_n (n := 5) hx 1 (dq tX10_answers 2 rfl) rfl rfl ?_
      refine g_icmp_ne (n := 8) (t := 54) hx (dq tX10_answers 3 rfl) (by decide) rfl h_13 (zrI hkl hku (by decide) (by decide)) (fun c_17 => ?_) (fun c_17 => ?_)
      · exact g_vret hx hr (dq tX10_answers 29 rfl) ⟨(fun u_ v_ huv_ => (f_4 u_ v_ ⟨huv_.2.1, huv_.2.2.1, huv_.2.2.2.1, huv_.2.2.2.2, huv_.1⟩)), h_7, g_5⟩
      · refine g_aload_n (n := 9) hx 0 (dq tX10_answers 4 rfl) rfl rfl ?_
        refine g_getI (n := 12) hx glX10_246 (sX10_39 (by decide)) (dq tX10_answers 5 rfl) rfl (fun h_18l h_18u => ?_)
        refine g_if_ne (n := 15) (t := 54) hx (dq tX10_answers 6 rfl) (by decide) rfl (zrI h_18l h_18u (by decide) (by decide)) (fun c_19 => ?_) (fun c_19 => ?_)
        · exact g_vret hx hr (dq tX10_answers 29 rfl) ⟨(fun u_ v_ huv_ => (f_4 u_ v_ ⟨huv_.2.1, huv_.2.2.1, huv_.2.2.2.1, huv_.2.2.2.2, huv_.1⟩)), h_7, g_5⟩
        · have ht_20 := Ts.top h_7 (by omega)
          have ht_20n := Ts.nums h_7 (by omega)
          refine g_aload_n (n := 16) hx 0 (dq tX10_answers 7 rfl) rfl rfl ?_
          refine g_iload_n (n := 17) hx 1 (dq tX10_answers 8 rfl) rfl rfl ?_
          refine g_iconst (n := 18) hx (dq tX10_answers 9 rfl) rfl ?_
          refine g_callVv (n := 21) (As := [vI k, vI 0]) (rest := []) hx (ctX10_entry2 Γ M_1 k (by omega) (by omega) 0 (by decide) (by decide) ua (nbO M_1 (M_1 229 45).toNat + 1 - 0) (nnO M_1 (M_1 229 45).toNat) 0 (by omega) (by omega) (by omega) h_7.2) mlX10_299 (obX10 (by decide)) (dq tX10_answers 10 rfl) rfl (Nat.le_of_ble_eq_true rfl) (Nat.le_of_ble_eq_true rfl) (Nat.le_of_ble_eq_true rfl) rfl (fun M_22 p_24 => ?_)
          obtain ⟨f_25, h_26, h_27⟩ := p_24
          have g_28 := Kp.trans g_5 h_27
          refine g_aload_n (n := 22) hx 0 (dq tX10_answers 11 rfl) rfl rfl ?_
          refine g_dup (n := 23) hx (dq tX10_answers 12 rfl) rfl rfl ?_
          refine g_getI (n := 26) hx glX10_315 (sX10_45 (by decide)) (dq tX10_answers 13 rfl) rfl (fun h_29l h_29u => ?_)
          have e_30 : M_22 229 45 = M_1 229 45 := (f_25 229 45 (by omega))
          refine g_iconst (n := 27) hx (dq tX10_answers 14 rfl) rfl ?_
          refine g_isub (n := 28) hx (dq tX10_answers 15 rfl) rfl ?_
          have e_31 : M_22 229 37 = M_1 229 37 := (f_25 229 37 (by omega))
          have e_32 : M_22 229 38 = M_1 229 38 := (f_25 229 38 (by omega))
          have e_33 : M_22 229 39 = M_1 229 39 := (f_25 229 39 (by omega))
          refine g_putI (n := 31) hx plX10_315 (sX10_45 (by decide)) (dq tX10_answers 16 rfl) rfl (by omega) (by omega) (fun M_34 m_35e m_35 => ?_)
          have g_36 : Kp M M_34 := Kp.frame g_28 (fun c j hcj => m_35 c j (by omega))
          refine g_aload_n (n := 32) hx 0 (dq tX10_answers 17 rfl) rfl rfl ?_
          refine g_dup (n := 33) hx (dq tX10_answers 18 rfl) rfl rfl ?_
          refine g_getI (n := 36) hx glX10_318 (sX10_43 (by decide)) (dq tX10_answers 19 rfl) rfl (fun h_37l h_37u => ?_)
          refine g_iload_n (n := 37) hx 1 (dq tX10_answers 20 rfl) rfl rfl ?_
          refine g_bipush (n := 39) hx (dq tX10_answers 21 rfl) rfl (by decide) ?_
          refine g_icmp_ne (n := 42) (t := 46) hx (dq tX10_answers 22 rfl) (by decide) rfl (zrI hkl hku (by decide) (by decide)) ⟨by decide, by decide⟩ (fun c_38 => ?_) (fun c_38 => ?_)
          · refine g_iconst (n := 47) hx (dq tX10_answers 25 rfl) rfl ?_
            refine g_isub (n := 48) hx (dq tX10_answers 26 rfl) rfl ?_
            have e_39 : M_34 229 37 = M_22 229 37 := (m_35 229 37 (by omega))
            have e_40 : M_34 229 38 = M_22 229 38 := (m_35 229 38 (by omega))
            have e_41 : M_34 229 39 = M_22 229 39 := (m_35 229 39 (by omega))
            refine g_putI (n := 51) hx plX10_318 (sX10_43 (by decide)) (dq tX10_answers 27 rfl) rfl (by omega) (by omega) (fun M_42 m_43e m_43 => ?_)
            have g_44 : Kp M M_42 := Kp.frame g_36 (fun c j hcj => m_43 c j (by omega))
            refine g_goto (n := 0) hx (dq tX10_answers 28 rfl) (by decide) ?_
            have e_45 : M_42 229 37 = M_34 229 37 := (m_43 229 37 (by omega))
            have e_46 : M_42 229 38 = M_34 229 38 := (m_43 229 38 (by omega))
            have e_47 : M_42 229 39 = M_34 229 39 := (m_43 229 39 (by omega))
            have e_48 : M_42 229 45 = M_34 229 45 := (m_43 229 45 (by omega))
            exact ih_3 _ (by omega) M_42 (fun u_ v_ huv_ => ((((m_43 u_ v_ huv_.1).trans (m_35 u_ v_ huv_.2.1)).trans (f_25 u_ v_ ⟨huv_.2.2.1, huv_.2.2.2.1, huv_.2.2.2.2⟩)).trans (f_4 u_ v_ ⟨huv_.1, huv_.2.1, huv_.2.2.1, huv_.2.2.2.1, huv_.2.2.2.2⟩))) g_44 (Ts.pop (M := M_1) (M1 := M_22) h_26 (by omega) (by omega) (fun j => (((m_43 (229 + 45) j (by omega)).trans (m_35 (229 + 45) j (by omega))).trans (f_25 (229 + 45) j (by omega)))) (fun c j hcj => ((m_43 c j (by omega)).trans (m_35 c j (by omega)))) (fun q => ⟨by omega, fun q2 => ⟨by omega, by omega⟩, by omega⟩) (by omega)) rfl
          · omega
  exact L_2 _ M (fun _ _ _ => rfl) Kp.refl ex0 rfl

abbrev qctX10_fact (M : zM) (ua : Int) (z : Int) (M' : zM) : Prop := (∀ u_ v_, (u_ ≠ 229 ∨ v_ ≠ 38) ∧ (u_ ≠ 229 ∨ v_ ≠ 39) ∧ (u_ ≠ 229 ∨ v_ ≠ 42) ∧ (u_ ≠ 229 ∨ v_ ≠ 44) ∧ u_ ≠ 229 + 38 ∧ u_ ≠ 229 + 39 ∧ (u_ ≠ 229 ∨ v_ ≠ 43) ∧ (u_ ≠ 229 ∨ v_ ≠ 45) ∧ u_ ≠ 229 + 45 → M' u_ v_ = M u_ v_) ∧ (z = 0 ∨ (z = 1)) ∧ (Ts M' ua (1 - z)) ∧ (Kp M M') ∧ (M 229 38 ≤ M' 229 38) ∧ (z = 0 → M 229 38 + 1 ≤ M' 229 38) ∧ (M' 229 38 = M 229 38 ∨ M' 229 38 ≤ M 229 37)
set_option maxHeartbeats 4000000 in
set_option maxRecDepth 100000 in
theorem ctX10_fact (Γ : Gam) (M : zM) (ua : Int) (pre0 : M 229 39 = 0) (ex0 : Ts M ua 1) : CtI Γ yX10_fact cX10_fact 1 (some .boolean) 9 195 [aR Γ 229] M (qctX10_fact M ua) := by
  refine met_i (by decide) (Nat.le_of_ble_eq_true rfl) (fun x hx hr => ?_)
  show G Γ x 1 (QI Γ x (qctX10_fact M ua)) M 0 [(0, aR Γ 229)] []
  refine g_iv (fun hI0 => ?_)
  have hI_37 : (0 : Int) ≤ M 229 37 ∧ M 229 37 ≤ 400 := hI0 229 37
  have hI_38 : (0 : Int) ≤ M 229 38 ∧ M 229 38 ≤ 402 := hI0 229 38
  have hI_45 : (0 : Int) ≤ M 229 45 ∧ M 229 45 ≤ 402 := hI0 229 45
  have hI_42 : (0 : Int) ≤ M 229 42 ∧ M 229 42 ≤ 300 := hI0 229 42
  have hI_39 : (0 : Int) ≤ M 229 39 ∧ M 229 39 ≤ 100000 := hI0 229 39
  have hI_40 : (0 : Int) ≤ M 229 40 ∧ M 229 40 ≤ 5 := hI0 229 40
  have hI_41 : (0 : Int) ≤ M 229 41 ∧ M 229 41 ≤ 6 := hI0 229 41
  clear hI0
  refine g_aload_n (n := 1) hx 0 (dq tX10_fact 0 rfl) rfl rfl ?_
  refine g_callVv (n := 4) (As := []) (rest := []) hx (ctX10_blanks Γ M ) mlX10_268 (obX10 (by decide)) (dq tX10_fact 1 rfl) rfl (Nat.le_of_ble_eq_true rfl) (Nat.le_of_ble_eq_true rfl) (Nat.le_of_ble_eq_true rfl) rfl (fun M_2 p_4 => ?_)
  obtain ⟨f_5, h_6, h_7⟩ := p_4
  have g_8 : Kp M M_2 := Kp.frame Kp.refl (fun c j hcj => f_5 c j (by omega))
  have g_9 : Ts M_2 ua 1 := Ts.mv ex0 (fun c j hcj => f_5 c j (by omega)) (by have q39 := f_5 229 39 (by omega); omega)
  refine g_aload_n (n := 5) hx 0 (dq tX10_fact 2 rfl) rfl rfl ?_
  refine g_ldcwS (n := 8) (q := 13) hx rfl rfl rfl (dq tX10_fact 3 rfl) rfl ?_
  have e_10 : M_2 229 37 = M 229 37 := (f_5 229 37 (by omega))
  have e_11 : M_2 229 39 = M 229 39 := (f_5 229 39 (by omega))
  have e_12 : M_2 229 45 = M 229 45 := (f_5 229 45 (by omega))
  refine g_callVi (n := 11) (As := [sR Γ 13]) (rest := []) hx (ctX10_stood Γ M_2 13 _ rfl (by decide) (by decide)) mlX10_271 (obX10 (by decide)) (dq tX10_fact 4 rfl) rfl (Nat.le_of_ble_eq_true rfl) (Nat.le_of_ble_eq_true rfl) (Nat.le_of_ble_eq_true rfl) rfl (fun z_13 M_14 h_15 p_16 => ?_)
  obtain ⟨rfl, b_18⟩ := p_16
  have h_20 : sln 13 = 3 := by decide
  refine g_if_eq (n := 14) (t := 32) hx (dq tX10_fact 5 rfl) (by decide) rfl h_15 (fun c_21 => ?_) (fun c_21 => ?_)
  · clear b_18
    refine g_aload_n (n := 33) hx 0 (dq tX10_fact 17 rfl) rfl rfl ?_
    refine g_callVi (n := 36) (As := []) (rest := []) hx (ctX10_sign Γ M_2 ) mlX10_252 (obX10 (by decide)) (dq tX10_fact 18 rfl) rfl (Nat.le_of_ble_eq_true rfl) (Nat.le_of_ble_eq_true rfl) (Nat.le_of_ble_eq_true rfl) rfl (fun z_22 M_23 h_24 p_25 => ?_)
    obtain ⟨rfl, h_27, h_28, h_29⟩ := p_25
    refine g_bipush (n := 38) hx (dq tX10_fact 19 rfl) rfl (by decide) ?_
    refine g_icmp_ne (n := 41) (t := 59) hx (dq tX10_fact 20 rfl) (by decide) rfl h_24 ⟨by decide, by decide⟩ (fun c_30 => ?_) (fun c_30 => ?_)
    · have hb_31 := nbO_pos (M := M_2) (M_2 229 45).toNat
      have hu_32 := Ts.nums g_9 (by omega)
      refine g_aload_n (n := 60) hx 0 (dq tX10_fact 32 rfl) rfl rfl ?_
      refine g_callVv (n := 63) (As := []) (rest := []) hx (ctX10_compared Γ M_2 ua (nbO M_2 (M_2 229 45).toNat + 1 - 1) (nnO M_2 (M_2 229 45).toNat) 0 (by omega) (by omega) g_9.2) mlX10_329 (obX10 (by decide)) (dq tX10_fact 33 rfl) rfl (Nat.le_of_ble_eq_true rfl) (Nat.le_of_ble_eq_true rfl) (Nat.le_of_ble_eq_true rfl) rfl (fun M_34 p_36 => ?_)
      obtain ⟨f_37, h_38, h_39, h_40, h_41⟩ := p_36
      have g_42 := Kp.trans g_8 h_39
      refine g_iconst (n := 64) hx (dq tX10_fact 34 rfl) rfl ?_
      have e_44 : M_34 229 37 = M_2 229 37 := (f_37 229 37 (by omega))
      have e_45 : M_34 229 45 = M_2 229 45 := (f_37 229 45 (by omega))
      exact g_zret hx hr (dq tX10_fact 35 rfl) (by omega) ⟨(fun u_ v_ huv_ => ((f_37 u_ v_ ⟨huv_.1, huv_.2.1, huv_.2.2.1, huv_.2.2.2.1, huv_.2.2.2.2.1, huv_.2.2.2.2.2.1⟩).trans (f_5 u_ v_ huv_.1))), (by omega), (Ts.fact (M := M_2) h_38 (by omega) (fun j => (f_37 (229 + 45) j (by omega))) (by omega) (by omega) (by omega)), g_42, (by omega), (by omega), (by omega)⟩
    · refine g_iv (fun hI_46 => ?_)
      have hI_467 : (0 : Int) ≤ M_2 229 37 ∧ M_2 229 37 ≤ 400 := hI_46 229 37
      have hI_465 : (0 : Int) ≤ M_2 229 45 ∧ M_2 229 45 ≤ 402 := hI_46 229 45
      clear hI_46
      have hu_47 := Ts.nums g_9 (by omega)
      refine g_aload_n (n := 42) hx 0 (dq tX10_fact 21 rfl) rfl rfl ?_
      refine g_bipush (n := 44) hx (dq tX10_fact 22 rfl) rfl (by decide) ?_
      refine g_callVv (n := 47) (As := [vI 12]) (rest := []) hx (ctX10_opens Γ M_2 12 (by decide) (by decide) (by omega)) mlX10_326 (obX10 (by decide)) (dq tX10_fact 23 rfl) rfl (Nat.le_of_ble_eq_true rfl) (Nat.le_of_ble_eq_true rfl) (Nat.le_of_ble_eq_true rfl) rfl (fun M_49 p_51 => ?_)
      obtain ⟨f_52, h_53, h_54, h_55, h_56⟩ := p_51
      have g_57 : Kp M M_49 := Kp.frame g_8 (fun c j hcj => f_52 c j (by omega))
      refine g_aload_n (n := 48) hx 0 (dq tX10_fact 24 rfl) rfl rfl ?_
      refine g_dup (n := 49) hx (dq tX10_fact 25 rfl) rfl rfl ?_
      refine g_getI (n := 52) hx glX10_249 (sX10_38 (by decide)) (dq tX10_fact 26 rfl) rfl (fun h_59l h_59u => ?_)
      have e_60 : M_49 229 38 = M_2 229 38 := (f_52 229 38 (by omega))
      refine g_iconst (n := 53) hx (dq tX10_fact 27 rfl) rfl ?_
      refine g_iadd (n := 54) hx (dq tX10_fact 28 rfl) rfl ?_
      have e_61 : M_49 229 37 = M_2 229 37 := (f_52 229 37 (by omega))
      refine g_putI (n := 57) hx plX10_249 (sX10_38 (by decide)) (dq tX10_fact 29 rfl) rfl (by omega) (by omega) (fun M_62 m_63e m_63 => ?_)
      have g_64 : Kp M M_62 := Kp.frame g_57 (fun c j hcj => m_63 c j (by omega))
      refine g_iconst (n := 58) hx (dq tX10_fact 30 rfl) rfl ?_
      have e_65 : M_62 229 37 = M_49 229 37 := (m_63 229 37 (by omega))
      have e_66 : M_62 229 39 = M_49 229 39 := (m_63 229 39 (by omega))
      have e_67 : M_62 229 45 = M_49 229 45 := (m_63 229 45 (by omega))
      exact g_zret hx hr (dq tX10_fact 31 rfl) (by omega) ⟨(fun u_ v_ huv_ => (((m_63 u_ v_ huv_.1).trans (f_52 u_ v_ ⟨huv_.2.1, huv_.2.2.2.2.2.2.1, huv_.2.2.2.2.2.2.2.1, huv_.2.2.2.2.2.2.2.2⟩)).trans (f_5 u_ v_ huv_.1))), (by omega), (Ts.push g_9 (by omega) (((m_63 (229 + 45) ((M_2 229 45).toNat) (by omega))).trans h_54) (by omega) (fun j hj => ((m_63 (229 + 45) j (by omega))).trans (h_55 j hj)) (fun c j hcj => ((m_63 c j (by omega)).trans (f_52 c j (by omega)))) (fun q => ⟨by omega, fun q2 => ⟨by omega, by omega, by omega⟩⟩) (by omega)), g_64, (by omega), (by omega), (by omega)⟩
  · have b_18 := b_18.resolve_left c_21
    obtain ⟨-, h_19⟩ := b_18
    refine g_iv (fun hI_68 => ?_)
    have hI_687 : (0 : Int) ≤ M_2 229 37 ∧ M_2 229 37 ≤ 400 := hI_68 229 37
    have hI_685 : (0 : Int) ≤ M_2 229 45 ∧ M_2 229 45 ≤ 402 := hI_68 229 45
    clear hI_68
    have hu_69 := Ts.nums g_9 (by omega)
    refine g_aload_n (n := 15) hx 0 (dq tX10_fact 6 rfl) rfl rfl ?_
    refine g_bipush (n := 17) hx (dq tX10_fact 7 rfl) rfl (by decide) ?_
    refine g_callVv (n := 20) (As := [vI 9]) (rest := []) hx (ctX10_opens Γ M_2 9 (by decide) (by decide) (by omega)) mlX10_326 (obX10 (by decide)) (dq tX10_fact 8 rfl) rfl (Nat.le_of_ble_eq_true rfl) (Nat.le_of_ble_eq_true rfl) (Nat.le_of_ble_eq_true rfl) rfl (fun M_71 p_73 => ?_)
    obtain ⟨f_74, h_75, h_76, h_77, h_78⟩ := p_73
    have g_79 : Kp M M_71 := Kp.frame g_8 (fun c j hcj => f_74 c j (by omega))
    refine g_aload_n (n := 21) hx 0 (dq tX10_fact 9 rfl) rfl rfl ?_
    refine g_dup (n := 22) hx (dq tX10_fact 10 rfl) rfl rfl ?_
    refine g_getI (n := 25) hx glX10_249 (sX10_38 (by decide)) (dq tX10_fact 11 rfl) rfl (fun h_81l h_81u => ?_)
    have e_82 : M_71 229 38 = M_2 229 38 := (f_74 229 38 (by omega))
    refine g_iconst (n := 26) hx (dq tX10_fact 12 rfl) rfl ?_
    refine g_iadd (n := 27) hx (dq tX10_fact 13 rfl) rfl ?_
    have e_83 : M_71 229 37 = M_2 229 37 := (f_74 229 37 (by omega))
    refine g_putI (n := 30) hx plX10_249 (sX10_38 (by decide)) (dq tX10_fact 14 rfl) rfl (by omega) (by omega) (fun M_84 m_85e m_85 => ?_)
    have g_86 : Kp M M_84 := Kp.frame g_79 (fun c j hcj => m_85 c j (by omega))
    refine g_iconst (n := 31) hx (dq tX10_fact 15 rfl) rfl ?_
    have e_87 : M_84 229 37 = M_71 229 37 := (m_85 229 37 (by omega))
    have e_88 : M_84 229 39 = M_71 229 39 := (m_85 229 39 (by omega))
    have e_89 : M_84 229 45 = M_71 229 45 := (m_85 229 45 (by omega))
    exact g_zret hx hr (dq tX10_fact 16 rfl) (by omega) ⟨(fun u_ v_ huv_ => (((m_85 u_ v_ huv_.1).trans (f_74 u_ v_ ⟨huv_.2.1, huv_.2.2.2.2.2.2.1, huv_.2.2.2.2.2.2.2.1, huv_.2.2.2.2.2.2.2.2⟩)).trans (f_5 u_ v_ huv_.1))), (by omega), (Ts.push g_9 (by omega) (((m_85 (229 + 45) ((M_2 229 45).toNat) (by omega))).trans h_76) (by omega) (fun j hj => ((m_85 (229 + 45) j (by omega))).trans (h_77 j hj)) (fun c j hcj => ((m_85 c j (by omega)).trans (f_74 c j (by omega)))) (fun q => ⟨by omega, fun q2 => ⟨by omega, by omega, by omega⟩⟩) (by omega)), g_86, (by omega), (by omega), (by omega)⟩

abbrev qctX10_test (M : zM) (ua : Int) (ud : Int) (un : Int) (us : Int) (M' : zM) : Prop := (∀ u_ v_, (u_ ≠ 229 ∨ v_ ≠ 38) ∧ (u_ ≠ 229 ∨ v_ ≠ 39) ∧ (u_ ≠ 229 ∨ v_ ≠ 42) ∧ (u_ ≠ 229 ∨ v_ ≠ 44) ∧ u_ ≠ 229 + 38 ∧ u_ ≠ 229 + 39 ∧ (u_ ≠ 229 ∨ v_ ≠ 43) ∧ (u_ ≠ 229 ∨ v_ ≠ 45) ∧ u_ ≠ 229 + 45 → M' u_ v_ = M u_ v_) ∧ (M' 229 39 = 0 → RunOk M' (M' 229 40).toNat (M 229 42) (M' 229 42)) ∧ (Rd M' (M' 229 42) 0 0 0) ∧ (Kp M M') ∧ (M 229 38 ≤ M' 229 38) ∧ (M' 229 38 = M 229 38 ∨ M' 229 38 ≤ M 229 37 + 1)
set_option maxHeartbeats 4000000 in
set_option maxRecDepth 100000 in
theorem ctX10_test (Γ : Gam) (M : zM) (ua : Int) (ud : Int) (un : Int) (us : Int) (pre0 : 0 ≤ us) (ex0 : Rd M ua ud un us) : CtV Γ yX10_test cX10_test 5 none 10 215 [aR Γ 229] M (qctX10_test M ua ud un us) := by
  refine met_v (by decide) (Nat.le_of_ble_eq_true rfl) (fun x hx hr => ?_)
  show G Γ x 5 (QV Γ x (qctX10_test M ua ud un us)) M 0 [(0, aR Γ 229)] []
  refine g_iv (fun hI0 => ?_)
  have hI_37 : (0 : Int) ≤ M 229 37 ∧ M 229 37 ≤ 400 := hI0 229 37
  have hI_38 : (0 : Int) ≤ M 229 38 ∧ M 229 38 ≤ 402 := hI0 229 38
  have hI_45 : (0 : Int) ≤ M 229 45 ∧ M 229 45 ≤ 402 := hI0 229 45
  have hI_42 : (0 : Int) ≤ M 229 42 ∧ M 229 42 ≤ 300 := hI0 229 42
  have hI_39 : (0 : Int) ≤ M 229 39 ∧ M 229 39 ≤ 100000 := hI0 229 39
  have hI_40 : (0 : Int) ≤ M 229 40 ∧ M 229 40 ≤ 5 := hI0 229 40
  have hI_41 : (0 : Int) ≤ M 229 41 ∧ M 229 41 ≤ 6 := hI0 229 41
  clear hI0
  refine g_aload_n (n := 1) hx 0 (dq tX10_test 0 rfl) rfl rfl ?_
  refine g_iconst (n := 2) hx (dq tX10_test 1 rfl) rfl ?_
  refine g_putI (n := 5) hx plX10_315 (sX10_45 (by decide)) (dq tX10_test 2 rfl) rfl (by omega) (by omega) (fun M_1 m_2e m_2 => ?_)
  have g_3 : Kp M M_1 := Kp.frame Kp.refl (fun c j hcj => m_2 c j (by omega))
  refine g_iconst (n := 6) hx (dq tX10_test 3 rfl) rfl ?_
  refine g_istore_n (n := 7) (lv' := [(1, vI 1), (0, aR Γ 229)]) hx (dq tX10_test 4 rfl) (by decide) rfl rfl ?_
  refine g_iconst (n := 8) hx (dq tX10_test 5 rfl) rfl ?_
  refine g_istore_n (n := 9) (lv' := [(2, vI 1), (1, vI 1), (0, aR Γ 229)]) hx (dq tX10_test 6 rfl) (by decide) rfl rfl ?_
  have L_7 : ∀ (n_ : Nat) (i_4 : Int) (i_5 : Int) (M_6 : zM), (0 ≤ i_4) → (i_4 ≤ 1) → (0 ≤ i_5) → (i_5 ≤ 1) → (∀ u_ v_, (u_ ≠ 229 ∨ v_ ≠ 38) ∧ (u_ ≠ 229 ∨ v_ ≠ 39) ∧ (u_ ≠ 229 ∨ v_ ≠ 43) ∧ (u_ ≠ 229 ∨ v_ ≠ 45) ∧ u_ ≠ 229 + 45 ∧ (u_ ≠ 229 ∨ v_ ≠ 42) ∧ u_ ≠ 229 + 38 ∧ u_ ≠ 229 + 39 ∧ (u_ ≠ 229 ∨ v_ ≠ 44) → M_6 u_ v_ = M_1 u_ v_) → (Kp M M_6) → (Ts M_6 (M 229 42) i_5) → (M 229 38 ≤ M_6 229 38) → (M_6 229 38 = M 229 38 ∨ M_6 229 38 ≤ M 229 37 + 1) → ((4 * (402 - M_6 229 38) + 2 * i_5 + i_4).toNat = n_) → G Γ x 5 (QV Γ x (qctX10_test M ua ud un us)) M_6 9 [(2, vI i_4), (1, vI i_5), (0, aR Γ 229)] [] := by
    intro n_
    induction n_ using Nat.strongRecOn with
    | _ n_ ih_8 =>
      intro i_4 i_5 M_6 h_15 h_16 h_17 h_18 f_9 g_10 h_12 h_13 h_14 hm_11
      refine g_iload_n (n := 10) hx 0 (dq tX10_test 7 rfl) rfl rfl ?_
      refine g_if_eq (n := 13) (t := 202) hx (dq tX10_test 8 rfl) (by decide) rfl ⟨by omega, by omega⟩ (fun c_19 => ?_) (fun c_19 => ?_)
      · have e_20 : M_6 229 37 = M 229 37 := ((f_9 229 37 (by omega))).trans (m_2 229 37 (by omega))
        exact g_vret hx hr (dq tX10_test 105 rfl) ⟨(fun u_ v_ huv_ => ((f_9 u_ v_ ⟨huv_.1, huv_.2.1, huv_.2.2.2.2.2.2.1, huv_.2.2.2.2.2.2.2.1, huv_.2.2.2.2.2.2.2.2, huv_.2.2.1, huv_.2.2.2.2.1, huv_.2.2.2.2.2.1, huv_.2.2.2.1⟩).trans (m_2 u_ v_ huv_.2.2.2.2.2.2.2.1))), (fun q => Rd.run h_12.2 q), (Rd.new h_12.2 (by omega)), g_10, (by omega), (by omega)⟩
      · refine g_aload_n (n := 14) hx 2 (dq tX10_test 9 rfl) rfl rfl ?_
        refine g_getI (n := 17) hx glX10_246 (sX10_39 (by decide)) (dq tX10_test 10 rfl) rfl (fun h_21l h_21u => ?_)
        refine g_if_ne (n := 20) (t := 202) hx (dq tX10_test 11 rfl) (by decide) rfl (zrI h_21l h_21u (by decide) (by decide)) (fun c_22 => ?_) (fun c_22 => ?_)
        · have e_23 : M_6 229 37 = M 229 37 := ((f_9 229 37 (by omega))).trans (m_2 229 37 (by omega))
          exact g_vret hx hr (dq tX10_test 105 rfl) ⟨(fun u_ v_ huv_ => ((f_9 u_ v_ ⟨huv_.1, huv_.2.1, huv_.2.2.2.2.2.2.1, huv_.2.2.2.2.2.2.2.1, huv_.2.2.2.2.2.2.2.2, huv_.2.2.1, huv_.2.2.2.2.1, huv_.2.2.2.2.2.1, huv_.2.2.2.1⟩).trans (m_2 u_ v_ huv_.2.2.2.2.2.2.2.1))), (fun q => Rd.run h_12.2 q), (Rd.new h_12.2 (by omega)), g_10, (by omega), (by omega)⟩
        · refine g_iload_n (n := 21) hx 1 (dq tX10_test 12 rfl) rfl rfl ?_
          refine g_if_eq (n := 24) (t := 40) hx (dq tX10_test 13 rfl) (by decide) rfl ⟨by omega, by omega⟩ (fun c_24 => ?_) (fun c_24 => ?_)
          · have g_25 : Ts M_6 (M 229 42) 0 := Ts.w h_12 (by omega)
            refine g_aload_n (n := 41) hx 2 (dq tX10_test 22 rfl) rfl rfl ?_
            refine g_bipush (n := 43) hx (dq tX10_test 23 rfl) rfl (by decide) ?_
            have e_26 : M_6 229 37 = M 229 37 := ((f_9 229 37 (by omega))).trans (m_2 229 37 (by omega))
            refine g_callVv (n := 46) (As := [vI 9]) (rest := []) hx (ctX10_answers9 Γ M_6 9 (by decide) (by decide) (M 229 42) g_25) mlX10_335 (obX10 (by decide)) (dq tX10_test 24 rfl) rfl (Nat.le_of_ble_eq_true rfl) (Nat.le_of_ble_eq_true rfl) (Nat.le_of_ble_eq_true rfl) rfl (fun M_28 p_30 => ?_)
            obtain ⟨f_31, h_32, h_33⟩ := p_30
            have g_34 := Kp.trans g_10 h_33
            refine g_aload_n (n := 47) hx 2 (dq tX10_test 25 rfl) rfl rfl ?_
            have e_36 : M_28 229 37 = M_6 229 37 := (f_31 229 37 (by omega))
            have e_37 : M_28 229 38 = M_6 229 38 := (f_31 229 38 (by omega))
            have e_38 : M_28 229 39 = M_6 229 39 := (f_31 229 39 (by omega))
            refine g_callVv (n := 50) (As := []) (rest := []) hx (ctX10_blanks Γ M_28 ) mlX10_268 (obX10 (by decide)) (dq tX10_test 26 rfl) rfl (Nat.le_of_ble_eq_true rfl) (Nat.le_of_ble_eq_true rfl) (Nat.le_of_ble_eq_true rfl) rfl (fun M_40 p_42 => ?_)
            obtain ⟨f_43, h_44, h_45⟩ := p_42
            have g_46 : Kp M M_40 := Kp.frame g_34 (fun c j hcj => f_43 c j (by omega))
            have g_47 : Ts M_40 (M 229 42) 0 := Ts.mv h_32 (fun c j hcj => f_43 c j (by omega)) (by have q39 := f_43 229 39 (by omega); omega)
            refine g_aload_n (n := 51) hx 2 (dq tX10_test 27 rfl) rfl rfl ?_
            refine g_ldcwS (n := 54) (q := 14) hx rfl rfl rfl (dq tX10_test 28 rfl) rfl ?_
            have e_48 : M_40 229 37 = M_28 229 37 := (f_43 229 37 (by omega))
            have e_49 : M_40 229 39 = M_28 229 39 := (f_43 229 39 (by omega))
            have e_50 : M_40 229 45 = M_28 229 45 := (f_43 229 45 (by omega))
            refine g_callVi (n := 57) (As := [sR Γ 14]) (rest := []) hx (ctX10_stood Γ M_40 14 _ rfl (by decide) (by decide)) mlX10_271 (obX10 (by decide)) (dq tX10_test 29 rfl) rfl (Nat.le_of_ble_eq_true rfl) (Nat.le_of_ble_eq_true rfl) (Nat.le_of_ble_eq_true rfl) rfl (fun z_51 M_52 h_53 p_54 => ?_)
            obtain ⟨rfl, b_56⟩ := p_54
            have h_58 : sln 14 = 3 := by decide
            refine g_istore_n (n := 58) (lv' := [(3, vI z_51), (2, vI i_4), (1, vI i_5), (0, aR Γ 229)]) hx (dq tX10_test 30 rfl) (by decide) rfl rfl ?_
            refine g_aload_n (n := 59) hx 3 (dq tX10_test 31 rfl) rfl rfl ?_
            refine g_ldcwS (n := 62) (q := 15) hx rfl rfl rfl (dq tX10_test 32 rfl) rfl ?_
            refine g_callVi (n := 65) (As := [sR Γ 15]) (rest := []) hx (ctX10_stood Γ M_40 15 _ rfl (by decide) (by decide)) mlX10_271 (obX10 (by decide)) (dq tX10_test 33 rfl) rfl (Nat.le_of_ble_eq_true rfl) (Nat.le_of_ble_eq_true rfl) (Nat.le_of_ble_eq_true rfl) rfl (fun z_59 M_60 h_61 p_62 => ?_)
            obtain ⟨rfl, b_64⟩ := p_62
            have h_66 : sln 15 = 2 := by decide
            refine g_istore (n := 67) (lv' := [(4, vI z_59), (3, vI z_51), (2, vI i_4), (1, vI i_5), (0, aR Γ 229)]) hx (dq tX10_test 34 rfl) (by decide) rfl rfl ?_
            refine g_aload_n (n := 68) hx 4 (dq tX10_test 35 rfl) rfl rfl ?_
            refine g_bipush (n := 70) hx (dq tX10_test 36 rfl) rfl (by decide) ?_
            refine g_callVv (n := 73) (As := [vI 10]) (rest := []) hx (ctX10_answers10 Γ M_40 10 (by decide) (by decide) (M 229 42) g_47) mlX10_335 (obX10 (by decide)) (dq tX10_test 37 rfl) rfl (Nat.le_of_ble_eq_true rfl) (Nat.le_of_ble_eq_true rfl) (Nat.le_of_ble_eq_true rfl) rfl (fun M_68 p_70 => ?_)
            obtain ⟨f_71, h_72, h_73⟩ := p_70
            have g_74 := Kp.trans g_46 h_73
            refine g_iload_n (n := 74) hx 1 (dq tX10_test 38 rfl) rfl rfl ?_
            refine g_if_ne (n := 77) (t := 82) hx (dq tX10_test 39 rfl) (by decide) rfl h_53 (fun c_76 => ?_) (fun c_76 => ?_)
            · have b_56 := b_56.resolve_left c_76
              obtain ⟨-, h_57⟩ := b_56
              refine g_iload (n := 84) hx 0 (dq tX10_test 42 rfl) rfl rfl ?_
              refine g_if_eq (n := 87) (t := 93) hx (dq tX10_test 43 rfl) (by decide) rfl h_61 (fun c_77 => ?_) (fun c_77 => ?_)
              · clear b_64
                have e_78 : M_68 229 37 = M_40 229 37 := (f_71 229 37 (by omega))
                have e_79 : M_68 229 38 = M_40 229 38 := (f_71 229 38 (by omega))
                have e_80 : M_68 229 39 = M_40 229 39 := (f_71 229 39 (by omega))
                refine g_iv (fun hI_81 => ?_)
                have hI_817 : (0 : Int) ≤ M_68 229 37 ∧ M_68 229 37 ≤ 400 := hI_81 229 37
                have hI_815 : (0 : Int) ≤ M_68 229 45 ∧ M_68 229 45 ≤ 402 := hI_81 229 45
                clear hI_81
                have hu_82 := Ts.nums h_72 (by omega)
                refine g_aload_n (n := 94) hx 4 (dq tX10_test 47 rfl) rfl rfl ?_
                refine g_iload_n (n := 95) hx 1 (dq tX10_test 48 rfl) rfl rfl ?_
                refine g_if_eq (n := 98) (t := 103) hx (dq tX10_test 49 rfl) (by decide) rfl h_53 (fun c_83 => ?_) (fun c_83 => ?_)
                · omega
                · refine g_bipush (n := 100) hx (dq tX10_test 50 rfl) rfl (by decide) ?_
                  refine g_goto (n := 105) hx (dq tX10_test 51 rfl) (by decide) ?_
                  refine g_callVv (n := 108) (As := [vI 10]) (rest := []) hx (ctX10_opens Γ M_68 10 (by decide) (by decide) (by omega)) mlX10_326 (obX10 (by decide)) (dq tX10_test 53 rfl) rfl (Nat.le_of_ble_eq_true rfl) (Nat.le_of_ble_eq_true rfl) (Nat.le_of_ble_eq_true rfl) rfl (fun M_85 p_87 => ?_)
                  obtain ⟨f_88, h_89, h_90, h_91, h_92⟩ := p_87
                  have g_93 : Kp M M_85 := Kp.frame g_74 (fun c j hcj => f_88 c j (by omega))
                  refine g_aload_n (n := 109) hx 4 (dq tX10_test 54 rfl) rfl rfl ?_
                  refine g_dup (n := 110) hx (dq tX10_test 55 rfl) rfl rfl ?_
                  refine g_getI (n := 113) hx glX10_249 (sX10_38 (by decide)) (dq tX10_test 56 rfl) rfl (fun h_95l h_95u => ?_)
                  have e_96 : M_85 229 38 = M_68 229 38 := (f_88 229 38 (by omega))
                  refine g_iload_n (n := 114) hx 1 (dq tX10_test 57 rfl) rfl rfl ?_
                  refine g_if_eq (n := 117) (t := 121) hx (dq tX10_test 58 rfl) (by decide) rfl h_53 (fun c_97 => ?_) (fun c_97 => ?_)
                  · omega
                  · refine g_iconst (n := 118) hx (dq tX10_test 59 rfl) rfl ?_
                    refine g_goto (n := 122) hx (dq tX10_test 60 rfl) (by decide) ?_
                    refine g_iadd (n := 123) hx (dq tX10_test 62 rfl) rfl ?_
                    have e_98 : M_85 229 37 = M_68 229 37 := (f_88 229 37 (by omega))
                    refine g_putI (n := 126) hx plX10_249 (sX10_38 (by decide)) (dq tX10_test 63 rfl) rfl (by omega) (by omega) (fun M_99 m_100e m_100 => ?_)
                    have g_101 : Kp M M_99 := Kp.frame g_93 (fun c j hcj => m_100 c j (by omega))
                    refine g_iconst (n := 127) hx (dq tX10_test 64 rfl) rfl ?_
                    refine g_istore_n (n := 128) (lv' := [(1, vI 1), (4, vI z_59), (3, vI z_51), (2, vI i_4), (0, aR Γ 229)]) hx (dq tX10_test 65 rfl) (by decide) rfl rfl ?_
                    refine g_goto (n := 199) hx (dq tX10_test 66 rfl) (by decide) ?_
                    refine g_goto (n := 9) hx (dq tX10_test 104 rfl) (by decide) ?_
                    have e_102 : M_99 229 37 = M_85 229 37 := (m_100 229 37 (by omega))
                    have e_103 : M_99 229 39 = M_85 229 39 := (m_100 229 39 (by omega))
                    have e_104 : M_99 229 45 = M_85 229 45 := (m_100 229 45 (by omega))
                    refine g_lv [3, 0, 4] rfl ?_
                    exact ih_8 _ (by omega) i_4 1 M_99 (by omega) (by omega) (by omega) (by omega) (fun u_ v_ huv_ => ((((((m_100 u_ v_ huv_.1).trans (f_88 u_ v_ ⟨huv_.2.1, huv_.2.2.1, huv_.2.2.2.1, huv_.2.2.2.2.1⟩)).trans (f_71 u_ v_ ⟨huv_.2.2.2.2.2.1, huv_.2.2.1, huv_.2.2.2.1, huv_.2.2.2.2.2.2.1, huv_.2.2.2.2.2.2.2.1⟩)).trans (f_43 u_ v_ huv_.1)).trans (f_31 u_ v_ ⟨huv_.2.2.2.2.2.1, huv_.2.2.1, huv_.2.2.2.1, huv_.2.2.2.2.2.2.1, huv_.2.2.2.2.2.2.2.1⟩)).trans (f_9 u_ v_ ⟨huv_.1, huv_.2.1, huv_.2.2.1, huv_.2.2.2.1, huv_.2.2.2.2.1, huv_.2.2.2.2.2.1, huv_.2.2.2.2.2.2.1, huv_.2.2.2.2.2.2.2.1, huv_.2.2.2.2.2.2.2.2⟩))) g_101 (Ts.push h_72 (by omega) (((m_100 (229 + 45) ((M_68 229 45).toNat) (by omega))).trans h_90) (by omega) (fun j hj => ((m_100 (229 + 45) j (by omega))).trans (h_91 j hj)) (fun c j hcj => ((m_100 c j (by omega)).trans (f_88 c j (by omega)))) (fun q => ⟨by omega, fun q2 => ⟨by omega, by omega, by omega⟩⟩) (by omega)) (by omega) (by omega) rfl
              · have b_64 := b_64.resolve_left c_77
                obtain ⟨-, h_65⟩ := b_64
                refine g_aload_n (n := 88) hx 4 (dq tX10_test 44 rfl) rfl rfl ?_
                refine g_bipush (n := 90) hx (dq tX10_test 45 rfl) rfl (by decide) ?_
                have e_105 : M_68 229 37 = M_40 229 37 := (f_71 229 37 (by omega))
                have e_106 : M_68 229 38 = M_40 229 38 := (f_71 229 38 (by omega))
                have e_107 : M_68 229 39 = M_40 229 39 := (f_71 229 39 (by omega))
                refine g_callVv (n := 93) (As := [vI 11]) (rest := []) hx (ctX10_answers10 Γ M_68 11 (by decide) (by decide) (M 229 42) h_72) mlX10_335 (obX10 (by decide)) (dq tX10_test 46 rfl) rfl (Nat.le_of_ble_eq_true rfl) (Nat.le_of_ble_eq_true rfl) (Nat.le_of_ble_eq_true rfl) rfl (fun M_109 p_111 => ?_)
                obtain ⟨f_112, h_113, h_114⟩ := p_111
                have g_115 := Kp.trans g_74 h_114
                have e_117 : M_109 229 37 = M_68 229 37 := (f_112 229 37 (by omega))
                have e_118 : M_109 229 38 = M_68 229 38 := (f_112 229 38 (by omega))
                have e_119 : M_109 229 39 = M_68 229 39 := (f_112 229 39 (by omega))
                refine g_iv (fun hI_120 => ?_)
                have hI_1207 : (0 : Int) ≤ M_109 229 37 ∧ M_109 229 37 ≤ 400 := hI_120 229 37
                have hI_1205 : (0 : Int) ≤ M_109 229 45 ∧ M_109 229 45 ≤ 402 := hI_120 229 45
                clear hI_120
                have hu_121 := Ts.nums h_113 (by omega)
                refine g_aload_n (n := 94) hx 4 (dq tX10_test 47 rfl) rfl rfl ?_
                refine g_iload_n (n := 95) hx 1 (dq tX10_test 48 rfl) rfl rfl ?_
                refine g_if_eq (n := 98) (t := 103) hx (dq tX10_test 49 rfl) (by decide) rfl h_53 (fun c_122 => ?_) (fun c_122 => ?_)
                · omega
                · refine g_bipush (n := 100) hx (dq tX10_test 50 rfl) rfl (by decide) ?_
                  refine g_goto (n := 105) hx (dq tX10_test 51 rfl) (by decide) ?_
                  refine g_callVv (n := 108) (As := [vI 10]) (rest := []) hx (ctX10_opens Γ M_109 10 (by decide) (by decide) (by omega)) mlX10_326 (obX10 (by decide)) (dq tX10_test 53 rfl) rfl (Nat.le_of_ble_eq_true rfl) (Nat.le_of_ble_eq_true rfl) (Nat.le_of_ble_eq_true rfl) rfl (fun M_124 p_126 => ?_)
                  obtain ⟨f_127, h_128, h_129, h_130, h_131⟩ := p_126
                  have g_132 : Kp M M_124 := Kp.frame g_115 (fun c j hcj => f_127 c j (by omega))
                  refine g_aload_n (n := 109) hx 4 (dq tX10_test 54 rfl) rfl rfl ?_
                  refine g_dup (n := 110) hx (dq tX10_test 55 rfl) rfl rfl ?_
                  refine g_getI (n := 113) hx glX10_249 (sX10_38 (by decide)) (dq tX10_test 56 rfl) rfl (fun h_134l h_134u => ?_)
                  have e_135 : M_124 229 38 = M_109 229 38 := (f_127 229 38 (by omega))
                  refine g_iload_n (n := 114) hx 1 (dq tX10_test 57 rfl) rfl rfl ?_
                  refine g_if_eq (n := 117) (t := 121) hx (dq tX10_test 58 rfl) (by decide) rfl h_53 (fun c_136 => ?_) (fun c_136 => ?_)
                  · omega
                  · refine g_iconst (n := 118) hx (dq tX10_test 59 rfl) rfl ?_
                    refine g_goto (n := 122) hx (dq tX10_test 60 rfl) (by decide) ?_
                    refine g_iadd (n := 123) hx (dq tX10_test 62 rfl) rfl ?_
                    have e_137 : M_124 229 37 = M_109 229 37 := (f_127 229 37 (by omega))
                    refine g_putI (n := 126) hx plX10_249 (sX10_38 (by decide)) (dq tX10_test 63 rfl) rfl (by omega) (by omega) (fun M_138 m_139e m_139 => ?_)
                    have g_140 : Kp M M_138 := Kp.frame g_132 (fun c j hcj => m_139 c j (by omega))
                    refine g_iconst (n := 127) hx (dq tX10_test 64 rfl) rfl ?_
                    refine g_istore_n (n := 128) (lv' := [(1, vI 1), (4, vI z_59), (3, vI z_51), (2, vI i_4), (0, aR Γ 229)]) hx (dq tX10_test 65 rfl) (by decide) rfl rfl ?_
                    refine g_goto (n := 199) hx (dq tX10_test 66 rfl) (by decide) ?_
                    refine g_goto (n := 9) hx (dq tX10_test 104 rfl) (by decide) ?_
                    have e_141 : M_138 229 37 = M_124 229 37 := (m_139 229 37 (by omega))
                    have e_142 : M_138 229 39 = M_124 229 39 := (m_139 229 39 (by omega))
                    have e_143 : M_138 229 45 = M_124 229 45 := (m_139 229 45 (by omega))
                    refine g_lv [3, 0, 4] rfl ?_
                    exact ih_8 _ (by omega) i_4 1 M_138 (by omega) (by omega) (by omega) (by omega) (fun u_ v_ huv_ => (((((((m_139 u_ v_ huv_.1).trans (f_127 u_ v_ ⟨huv_.2.1, huv_.2.2.1, huv_.2.2.2.1, huv_.2.2.2.2.1⟩)).trans (f_112 u_ v_ ⟨huv_.2.2.2.2.2.1, huv_.2.2.1, huv_.2.2.2.1, huv_.2.2.2.2.2.2.1, huv_.2.2.2.2.2.2.2.1⟩)).trans (f_71 u_ v_ ⟨huv_.2.2.2.2.2.1, huv_.2.2.1, huv_.2.2.2.1, huv_.2.2.2.2.2.2.1, huv_.2.2.2.2.2.2.2.1⟩)).trans (f_43 u_ v_ huv_.1)).trans (f_31 u_ v_ ⟨huv_.2.2.2.2.2.1, huv_.2.2.1, huv_.2.2.2.1, huv_.2.2.2.2.2.2.1, huv_.2.2.2.2.2.2.2.1⟩)).trans (f_9 u_ v_ ⟨huv_.1, huv_.2.1, huv_.2.2.1, huv_.2.2.2.1, huv_.2.2.2.2.1, huv_.2.2.2.2.2.1, huv_.2.2.2.2.2.2.1, huv_.2.2.2.2.2.2.2.1, huv_.2.2.2.2.2.2.2.2⟩))) g_140 (Ts.push h_113 (by omega) (((m_139 (229 + 45) ((M_109 229 45).toNat) (by omega))).trans h_129) (by omega) (fun j hj => ((m_139 (229 + 45) j (by omega))).trans (h_130 j hj)) (fun c j hcj => ((m_139 c j (by omega)).trans (f_127 c j (by omega)))) (fun q => ⟨by omega, fun q2 => ⟨by omega, by omega, by omega⟩⟩) (by omega)) (by omega) (by omega) rfl
            · clear b_56
              refine g_iload (n := 79) hx 0 (dq tX10_test 40 rfl) rfl rfl ?_
              refine g_if_eq (n := 82) (t := 131) hx (dq tX10_test 41 rfl) (by decide) rfl h_61 (fun c_144 => ?_) (fun c_144 => ?_)
              · clear b_64
                refine g_aload_n (n := 132) hx 4 (dq tX10_test 67 rfl) rfl rfl ?_
                refine g_bipush (n := 134) hx (dq tX10_test 68 rfl) rfl (by decide) ?_
                have e_145 : M_68 229 37 = M_40 229 37 := (f_71 229 37 (by omega))
                have e_146 : M_68 229 38 = M_40 229 38 := (f_71 229 38 (by omega))
                have e_147 : M_68 229 39 = M_40 229 39 := (f_71 229 39 (by omega))
                refine g_callVv (n := 137) (As := [vI 11]) (rest := []) hx (ctX10_answers10 Γ M_68 11 (by decide) (by decide) (M 229 42) h_72) mlX10_335 (obX10 (by decide)) (dq tX10_test 69 rfl) rfl (Nat.le_of_ble_eq_true rfl) (Nat.le_of_ble_eq_true rfl) (Nat.le_of_ble_eq_true rfl) rfl (fun M_149 p_151 => ?_)
                obtain ⟨f_152, h_153, h_154⟩ := p_151
                have g_155 := Kp.trans g_74 h_154
                have e_157 : M_149 229 37 = M_68 229 37 := (f_152 229 37 (by omega))
                have e_158 : M_149 229 38 = M_68 229 38 := (f_152 229 38 (by omega))
                have e_159 : M_149 229 39 = M_68 229 39 := (f_152 229 39 (by omega))
                refine g_iv (fun hI_160 => ?_)
                have hI_1607 : (0 : Int) ≤ M_149 229 37 ∧ M_149 229 37 ≤ 400 := hI_160 229 37
                have hI_1605 : (0 : Int) ≤ M_149 229 45 ∧ M_149 229 45 ≤ 402 := hI_160 229 45
                clear hI_160
                have hu_161 := Ts.nums h_153 (by omega)
                refine g_aload_n (n := 138) hx 4 (dq tX10_test 70 rfl) rfl rfl ?_
                refine g_callVi (n := 141) (As := []) (rest := []) hx (ctX10_top Γ M_149 ) mlX10_321 (obX10 (by decide)) (dq tX10_test 71 rfl) rfl (Nat.le_of_ble_eq_true rfl) (Nat.le_of_ble_eq_true rfl) (Nat.le_of_ble_eq_true rfl) rfl (fun z_162 M_163 h_164 p_165 => ?_)
                obtain ⟨rfl, h_167⟩ := p_165
                refine g_bipush (n := 143) hx (dq tX10_test 72 rfl) rfl (by decide) ?_
                refine g_icmp_ne (n := 146) (t := 197) hx (dq tX10_test 73 rfl) (by decide) rfl h_164 ⟨by decide, by decide⟩ (fun c_168 => ?_) (fun c_168 => ?_)
                · refine g_iconst (n := 198) hx (dq tX10_test 102 rfl) rfl ?_
                  refine g_istore_n (n := 199) (lv' := [(2, vI 0), (4, vI z_59), (3, vI z_51), (1, vI i_5), (0, aR Γ 229)]) hx (dq tX10_test 103 rfl) (by decide) rfl rfl ?_
                  refine g_goto (n := 9) hx (dq tX10_test 104 rfl) (by decide) ?_
                  refine g_lv [0, 3, 4] rfl ?_
                  exact ih_8 _ (by omega) 0 i_5 M_149 (by omega) (by omega) (by omega) (by omega) (fun u_ v_ huv_ => (((((f_152 u_ v_ ⟨huv_.2.2.2.2.2.1, huv_.2.2.1, huv_.2.2.2.1, huv_.2.2.2.2.2.2.1, huv_.2.2.2.2.2.2.2.1⟩).trans (f_71 u_ v_ ⟨huv_.2.2.2.2.2.1, huv_.2.2.1, huv_.2.2.2.1, huv_.2.2.2.2.2.2.1, huv_.2.2.2.2.2.2.2.1⟩)).trans (f_43 u_ v_ huv_.1)).trans (f_31 u_ v_ ⟨huv_.2.2.2.2.2.1, huv_.2.2.1, huv_.2.2.2.1, huv_.2.2.2.2.2.2.1, huv_.2.2.2.2.2.2.2.1⟩)).trans (f_9 u_ v_ ⟨huv_.1, huv_.2.1, huv_.2.2.1, huv_.2.2.2.1, huv_.2.2.2.2.1, huv_.2.2.2.2.2.1, huv_.2.2.2.2.2.2.1, huv_.2.2.2.2.2.2.2.1, huv_.2.2.2.2.2.2.2.2⟩))) g_155 (Ts.w h_153 (by omega)) (by omega) (by omega) rfl
                · refine g_aload_n (n := 147) hx 4 (dq tX10_test 74 rfl) rfl rfl ?_
                  refine g_callVi (n := 150) (As := []) (rest := []) hx (ctX10_sign Γ M_149 ) mlX10_252 (obX10 (by decide)) (dq tX10_test 75 rfl) rfl (Nat.le_of_ble_eq_true rfl) (Nat.le_of_ble_eq_true rfl) (Nat.le_of_ble_eq_true rfl) rfl (fun z_169 M_170 h_171 p_172 => ?_)
                  obtain ⟨rfl, h_174, h_175, h_176⟩ := p_172
                  refine g_bipush (n := 152) hx (dq tX10_test 76 rfl) rfl (by decide) ?_
                  refine g_icmp_eq (n := 155) (t := 164) hx (dq tX10_test 77 rfl) (by decide) rfl h_171 ⟨by decide, by decide⟩ (fun c_177 => ?_) (fun c_177 => ?_)
                  · refine g_aload_n (n := 165) hx 4 (dq tX10_test 83 rfl) rfl rfl ?_
                    refine g_dup (n := 166) hx (dq tX10_test 84 rfl) rfl rfl ?_
                    refine g_getI (n := 169) hx glX10_249 (sX10_38 (by decide)) (dq tX10_test 85 rfl) rfl (fun h_178l h_178u => ?_)
                    refine g_iconst (n := 170) hx (dq tX10_test 86 rfl) rfl ?_
                    refine g_iadd (n := 171) hx (dq tX10_test 87 rfl) rfl ?_
                    refine g_putI (n := 174) hx plX10_249 (sX10_38 (by decide)) (dq tX10_test 88 rfl) rfl (by omega) (by omega) (fun M_179 m_180e m_180 => ?_)
                    have g_181 : Kp M M_179 := Kp.frame g_155 (fun c j hcj => m_180 c j (by omega))
                    refine g_aload_n (n := 175) hx 4 (dq tX10_test 89 rfl) rfl rfl ?_
                    refine g_dup (n := 176) hx (dq tX10_test 90 rfl) rfl rfl ?_
                    refine g_getI (n := 179) hx glX10_315 (sX10_45 (by decide)) (dq tX10_test 91 rfl) rfl (fun h_183l h_183u => ?_)
                    have e_184 : M_179 229 45 = M_149 229 45 := (m_180 229 45 (by omega))
                    refine g_iconst (n := 180) hx (dq tX10_test 92 rfl) rfl ?_
                    refine g_isub (n := 181) hx (dq tX10_test 93 rfl) rfl ?_
                    have e_185 : M_179 229 37 = M_149 229 37 := (m_180 229 37 (by omega))
                    have e_186 : M_179 229 39 = M_149 229 39 := (m_180 229 39 (by omega))
                    refine g_putI (n := 184) hx plX10_315 (sX10_45 (by decide)) (dq tX10_test 94 rfl) rfl (by omega) (by omega) (fun M_187 m_188e m_188 => ?_)
                    have g_189 : Kp M M_187 := Kp.frame g_181 (fun c j hcj => m_188 c j (by omega))
                    refine g_aload_n (n := 185) hx 4 (dq tX10_test 95 rfl) rfl rfl ?_
                    refine g_dup (n := 186) hx (dq tX10_test 96 rfl) rfl rfl ?_
                    refine g_getI (n := 189) hx glX10_318 (sX10_43 (by decide)) (dq tX10_test 97 rfl) rfl (fun h_190l h_190u => ?_)
                    refine g_iconst (n := 190) hx (dq tX10_test 98 rfl) rfl ?_
                    refine g_isub (n := 191) hx (dq tX10_test 99 rfl) rfl ?_
                    refine g_any (fun z_191 h_192 => ?_)
                    have e_193 : M_187 229 37 = M_179 229 37 := (m_188 229 37 (by omega))
                    have e_194 : M_187 229 38 = M_179 229 38 := (m_188 229 38 (by omega))
                    have e_195 : M_187 229 39 = M_179 229 39 := (m_188 229 39 (by omega))
                    refine g_putI (n := 194) hx plX10_318 (sX10_43 (by decide)) (dq tX10_test 100 rfl) rfl (by omega) (by omega) (fun M_196 m_197e m_197 => ?_)
                    have g_198 : Kp M M_196 := Kp.frame g_189 (fun c j hcj => m_197 c j (by omega))
                    refine g_goto (n := 199) hx (dq tX10_test 101 rfl) (by decide) ?_
                    refine g_goto (n := 9) hx (dq tX10_test 104 rfl) (by decide) ?_
                    have e_199 : M_196 229 37 = M_187 229 37 := (m_197 229 37 (by omega))
                    have e_200 : M_196 229 38 = M_187 229 38 := (m_197 229 38 (by omega))
                    have e_201 : M_196 229 39 = M_187 229 39 := (m_197 229 39 (by omega))
                    have e_202 : M_196 229 45 = M_187 229 45 := (m_197 229 45 (by omega))
                    refine g_lv [2, 3, 4] rfl ?_
                    exact ih_8 _ (by omega) i_4 i_5 M_196 (by omega) (by omega) (by omega) (by omega) (fun u_ v_ huv_ => ((((((((m_197 u_ v_ huv_.2.2.1).trans (m_188 u_ v_ huv_.2.2.2.1)).trans (m_180 u_ v_ huv_.1)).trans (f_152 u_ v_ ⟨huv_.2.2.2.2.2.1, huv_.2.2.1, huv_.2.2.2.1, huv_.2.2.2.2.2.2.1, huv_.2.2.2.2.2.2.2.1⟩)).trans (f_71 u_ v_ ⟨huv_.2.2.2.2.2.1, huv_.2.2.1, huv_.2.2.2.1, huv_.2.2.2.2.2.2.1, huv_.2.2.2.2.2.2.2.1⟩)).trans (f_43 u_ v_ huv_.1)).trans (f_31 u_ v_ ⟨huv_.2.2.2.2.2.1, huv_.2.2.1, huv_.2.2.2.1, huv_.2.2.2.2.2.2.1, huv_.2.2.2.2.2.2.2.1⟩)).trans (f_9 u_ v_ ⟨huv_.1, huv_.2.1, huv_.2.2.1, huv_.2.2.2.1, huv_.2.2.2.2.1, huv_.2.2.2.2.2.1, huv_.2.2.2.2.2.2.1, huv_.2.2.2.2.2.2.2.1, huv_.2.2.2.2.2.2.2.2⟩))) g_198 (Ts.pop (M := M_149) (M1 := M_149) h_153.2 (by omega) (by omega) (fun j => (((m_197 (229 + 45) j (by omega)).trans (m_188 (229 + 45) j (by omega))).trans (m_180 (229 + 45) j (by omega)))) (fun c j hcj => (((m_197 c j (by omega)).trans (m_188 c j (by omega))).trans (m_180 c j (by omega)))) (fun q => ⟨by omega, fun q2 => ⟨by omega, by omega⟩, by omega⟩) (by omega)) (by omega) (by omega) rfl
                  · refine g_aload_n (n := 156) hx 4 (dq tX10_test 78 rfl) rfl rfl ?_
                    refine g_iconst (n := 157) hx (dq tX10_test 79 rfl) rfl ?_
                    refine g_aload_n (n := 158) hx 4 (dq tX10_test 80 rfl) rfl rfl ?_
                    refine g_getI (n := 161) hx glX10_249 (sX10_38 (by decide)) (dq tX10_test 81 rfl) rfl (fun h_203l h_203u => ?_)
                    refine g_callVv (n := 164) (As := [vI 0, vI (M_149 229 38)]) (rest := []) hx (ctX10_fails Γ M_149 0 (by decide) (by decide) (M_149 229 38) (by omega) (by omega)) mlX10_284 (obX10 (by decide)) (dq tX10_test 82 rfl) rfl (Nat.le_of_ble_eq_true rfl) (Nat.le_of_ble_eq_true rfl) (Nat.le_of_ble_eq_true rfl) rfl (fun M_205 p_207 => ?_)
                    obtain ⟨f_208, h_209⟩ := p_207
                    have g_210 : Kp M M_205 := Kp.frame g_155 (fun c j hcj => f_208 c j (by omega))
                    refine g_aload_n (n := 165) hx 4 (dq tX10_test 83 rfl) rfl rfl ?_
                    refine g_dup (n := 166) hx (dq tX10_test 84 rfl) rfl rfl ?_
                    refine g_getI (n := 169) hx glX10_249 (sX10_38 (by decide)) (dq tX10_test 85 rfl) rfl (fun h_212l h_212u => ?_)
                    have e_213 : M_205 229 38 = M_149 229 38 := (f_208 229 38 (by omega))
                    refine g_iconst (n := 170) hx (dq tX10_test 86 rfl) rfl ?_
                    refine g_iadd (n := 171) hx (dq tX10_test 87 rfl) rfl ?_
                    have e_214 : M_205 229 37 = M_149 229 37 := (f_208 229 37 (by omega))
                    have e_215 : M_205 229 45 = M_149 229 45 := (f_208 229 45 (by omega))
                    refine g_putI (n := 174) hx plX10_249 (sX10_38 (by decide)) (dq tX10_test 88 rfl) rfl (by omega) (by omega) (fun M_216 m_217e m_217 => ?_)
                    have g_218 : Kp M M_216 := Kp.frame g_210 (fun c j hcj => m_217 c j (by omega))
                    refine g_aload_n (n := 175) hx 4 (dq tX10_test 89 rfl) rfl rfl ?_
                    refine g_dup (n := 176) hx (dq tX10_test 90 rfl) rfl rfl ?_
                    refine g_getI (n := 179) hx glX10_315 (sX10_45 (by decide)) (dq tX10_test 91 rfl) rfl (fun h_219l h_219u => ?_)
                    have e_220 : M_216 229 45 = M_205 229 45 := (m_217 229 45 (by omega))
                    refine g_iconst (n := 180) hx (dq tX10_test 92 rfl) rfl ?_
                    refine g_isub (n := 181) hx (dq tX10_test 93 rfl) rfl ?_
                    have e_221 : M_216 229 37 = M_205 229 37 := (m_217 229 37 (by omega))
                    have e_222 : M_216 229 39 = M_205 229 39 := (m_217 229 39 (by omega))
                    refine g_putI (n := 184) hx plX10_315 (sX10_45 (by decide)) (dq tX10_test 94 rfl) rfl (by omega) (by omega) (fun M_223 m_224e m_224 => ?_)
                    have g_225 : Kp M M_223 := Kp.frame g_218 (fun c j hcj => m_224 c j (by omega))
                    refine g_aload_n (n := 185) hx 4 (dq tX10_test 95 rfl) rfl rfl ?_
                    refine g_dup (n := 186) hx (dq tX10_test 96 rfl) rfl rfl ?_
                    refine g_getI (n := 189) hx glX10_318 (sX10_43 (by decide)) (dq tX10_test 97 rfl) rfl (fun h_226l h_226u => ?_)
                    refine g_iconst (n := 190) hx (dq tX10_test 98 rfl) rfl ?_
                    refine g_isub (n := 191) hx (dq tX10_test 99 rfl) rfl ?_
                    refine g_any (fun z_227 h_228 => ?_)
                    have e_229 : M_223 229 37 = M_216 229 37 := (m_224 229 37 (by omega))
                    have e_230 : M_223 229 38 = M_216 229 38 := (m_224 229 38 (by omega))
                    have e_231 : M_223 229 39 = M_216 229 39 := (m_224 229 39 (by omega))
                    refine g_putI (n := 194) hx plX10_318 (sX10_43 (by decide)) (dq tX10_test 100 rfl) rfl (by omega) (by omega) (fun M_232 m_233e m_233 => ?_)
                    have g_234 : Kp M M_232 := Kp.frame g_225 (fun c j hcj => m_233 c j (by omega))
                    refine g_goto (n := 199) hx (dq tX10_test 101 rfl) (by decide) ?_
                    refine g_goto (n := 9) hx (dq tX10_test 104 rfl) (by decide) ?_
                    have e_235 : M_232 229 37 = M_223 229 37 := (m_233 229 37 (by omega))
                    have e_236 : M_232 229 38 = M_223 229 38 := (m_233 229 38 (by omega))
                    have e_237 : M_232 229 39 = M_223 229 39 := (m_233 229 39 (by omega))
                    have e_238 : M_232 229 45 = M_223 229 45 := (m_233 229 45 (by omega))
                    refine g_lv [2, 3, 4] rfl ?_
                    exact ih_8 _ (by omega) i_4 i_5 M_232 (by omega) (by omega) (by omega) (by omega) (fun u_ v_ huv_ => (((((((((m_233 u_ v_ huv_.2.2.1).trans (m_224 u_ v_ huv_.2.2.2.1)).trans (m_217 u_ v_ huv_.1)).trans (f_208 u_ v_ huv_.2.1)).trans (f_152 u_ v_ ⟨huv_.2.2.2.2.2.1, huv_.2.2.1, huv_.2.2.2.1, huv_.2.2.2.2.2.2.1, huv_.2.2.2.2.2.2.2.1⟩)).trans (f_71 u_ v_ ⟨huv_.2.2.2.2.2.1, huv_.2.2.1, huv_.2.2.2.1, huv_.2.2.2.2.2.2.1, huv_.2.2.2.2.2.2.2.1⟩)).trans (f_43 u_ v_ huv_.1)).trans (f_31 u_ v_ ⟨huv_.2.2.2.2.2.1, huv_.2.2.1, huv_.2.2.2.1, huv_.2.2.2.2.2.2.1, huv_.2.2.2.2.2.2.2.1⟩)).trans (f_9 u_ v_ ⟨huv_.1, huv_.2.1, huv_.2.2.1, huv_.2.2.2.1, huv_.2.2.2.2.1, huv_.2.2.2.2.2.1, huv_.2.2.2.2.2.2.1, huv_.2.2.2.2.2.2.2.1, huv_.2.2.2.2.2.2.2.2⟩))) g_234 (Ts.vac (by omega)) (by omega) (by omega) rfl
              · have b_64 := b_64.resolve_left c_144
                obtain ⟨-, h_65⟩ := b_64
                refine g_iload (n := 84) hx 0 (dq tX10_test 42 rfl) rfl rfl ?_
                refine g_if_eq (n := 87) (t := 93) hx (dq tX10_test 43 rfl) (by decide) rfl h_61 (fun c_239 => ?_) (fun c_239 => ?_)
                · omega
                · refine g_aload_n (n := 88) hx 4 (dq tX10_test 44 rfl) rfl rfl ?_
                  refine g_bipush (n := 90) hx (dq tX10_test 45 rfl) rfl (by decide) ?_
                  have e_240 : M_68 229 37 = M_40 229 37 := (f_71 229 37 (by omega))
                  have e_241 : M_68 229 38 = M_40 229 38 := (f_71 229 38 (by omega))
                  have e_242 : M_68 229 39 = M_40 229 39 := (f_71 229 39 (by omega))
                  refine g_callVv (n := 93) (As := [vI 11]) (rest := []) hx (ctX10_answers10 Γ M_68 11 (by decide) (by decide) (M 229 42) h_72) mlX10_335 (obX10 (by decide)) (dq tX10_test 46 rfl) rfl (Nat.le_of_ble_eq_true rfl) (Nat.le_of_ble_eq_true rfl) (Nat.le_of_ble_eq_true rfl) rfl (fun M_244 p_246 => ?_)
                  obtain ⟨f_247, h_248, h_249⟩ := p_246
                  have g_250 := Kp.trans g_74 h_249
                  have e_252 : M_244 229 37 = M_68 229 37 := (f_247 229 37 (by omega))
                  have e_253 : M_244 229 38 = M_68 229 38 := (f_247 229 38 (by omega))
                  have e_254 : M_244 229 39 = M_68 229 39 := (f_247 229 39 (by omega))
                  refine g_iv (fun hI_255 => ?_)
                  have hI_2557 : (0 : Int) ≤ M_244 229 37 ∧ M_244 229 37 ≤ 400 := hI_255 229 37
                  have hI_2555 : (0 : Int) ≤ M_244 229 45 ∧ M_244 229 45 ≤ 402 := hI_255 229 45
                  clear hI_255
                  have hu_256 := Ts.nums h_248 (by omega)
                  refine g_aload_n (n := 94) hx 4 (dq tX10_test 47 rfl) rfl rfl ?_
                  refine g_iload_n (n := 95) hx 1 (dq tX10_test 48 rfl) rfl rfl ?_
                  refine g_if_eq (n := 98) (t := 103) hx (dq tX10_test 49 rfl) (by decide) rfl h_53 (fun c_257 => ?_) (fun c_257 => ?_)
                  · refine g_bipush (n := 105) hx (dq tX10_test 52 rfl) rfl (by decide) ?_
                    refine g_callVv (n := 108) (As := [vI 11]) (rest := []) hx (ctX10_opens Γ M_244 11 (by decide) (by decide) (by omega)) mlX10_326 (obX10 (by decide)) (dq tX10_test 53 rfl) rfl (Nat.le_of_ble_eq_true rfl) (Nat.le_of_ble_eq_true rfl) (Nat.le_of_ble_eq_true rfl) rfl (fun M_259 p_261 => ?_)
                    obtain ⟨f_262, h_263, h_264, h_265, h_266⟩ := p_261
                    have g_267 : Kp M M_259 := Kp.frame g_250 (fun c j hcj => f_262 c j (by omega))
                    refine g_aload_n (n := 109) hx 4 (dq tX10_test 54 rfl) rfl rfl ?_
                    refine g_dup (n := 110) hx (dq tX10_test 55 rfl) rfl rfl ?_
                    refine g_getI (n := 113) hx glX10_249 (sX10_38 (by decide)) (dq tX10_test 56 rfl) rfl (fun h_269l h_269u => ?_)
                    have e_270 : M_259 229 38 = M_244 229 38 := (f_262 229 38 (by omega))
                    refine g_iload_n (n := 114) hx 1 (dq tX10_test 57 rfl) rfl rfl ?_
                    refine g_if_eq (n := 117) (t := 121) hx (dq tX10_test 58 rfl) (by decide) rfl h_53 (fun c_271 => ?_) (fun c_271 => ?_)
                    · refine g_iconst (n := 122) hx (dq tX10_test 61 rfl) rfl ?_
                      refine g_iadd (n := 123) hx (dq tX10_test 62 rfl) rfl ?_
                      have e_272 : M_259 229 37 = M_244 229 37 := (f_262 229 37 (by omega))
                      refine g_putI (n := 126) hx plX10_249 (sX10_38 (by decide)) (dq tX10_test 63 rfl) rfl (by omega) (by omega) (fun M_273 m_274e m_274 => ?_)
                      have g_275 : Kp M M_273 := Kp.frame g_267 (fun c j hcj => m_274 c j (by omega))
                      refine g_iconst (n := 127) hx (dq tX10_test 64 rfl) rfl ?_
                      refine g_istore_n (n := 128) (lv' := [(1, vI 1), (4, vI z_59), (3, vI z_51), (2, vI i_4), (0, aR Γ 229)]) hx (dq tX10_test 65 rfl) (by decide) rfl rfl ?_
                      refine g_goto (n := 199) hx (dq tX10_test 66 rfl) (by decide) ?_
                      refine g_goto (n := 9) hx (dq tX10_test 104 rfl) (by decide) ?_
                      have e_276 : M_273 229 37 = M_259 229 37 := (m_274 229 37 (by omega))
                      have e_277 : M_273 229 39 = M_259 229 39 := (m_274 229 39 (by omega))
                      have e_278 : M_273 229 45 = M_259 229 45 := (m_274 229 45 (by omega))
                      refine g_lv [3, 0, 4] rfl ?_
                      exact ih_8 _ (by omega) i_4 1 M_273 (by omega) (by omega) (by omega) (by omega) (fun u_ v_ huv_ => (((((((m_274 u_ v_ huv_.1).trans (f_262 u_ v_ ⟨huv_.2.1, huv_.2.2.1, huv_.2.2.2.1, huv_.2.2.2.2.1⟩)).trans (f_247 u_ v_ ⟨huv_.2.2.2.2.2.1, huv_.2.2.1, huv_.2.2.2.1, huv_.2.2.2.2.2.2.1, huv_.2.2.2.2.2.2.2.1⟩)).trans (f_71 u_ v_ ⟨huv_.2.2.2.2.2.1, huv_.2.2.1, huv_.2.2.2.1, huv_.2.2.2.2.2.2.1, huv_.2.2.2.2.2.2.2.1⟩)).trans (f_43 u_ v_ huv_.1)).trans (f_31 u_ v_ ⟨huv_.2.2.2.2.2.1, huv_.2.2.1, huv_.2.2.2.1, huv_.2.2.2.2.2.2.1, huv_.2.2.2.2.2.2.2.1⟩)).trans (f_9 u_ v_ ⟨huv_.1, huv_.2.1, huv_.2.2.1, huv_.2.2.2.1, huv_.2.2.2.2.1, huv_.2.2.2.2.2.1, huv_.2.2.2.2.2.2.1, huv_.2.2.2.2.2.2.2.1, huv_.2.2.2.2.2.2.2.2⟩))) g_275 (Ts.push h_248 (by omega) (((m_274 (229 + 45) ((M_244 229 45).toNat) (by omega))).trans h_264) (by omega) (fun j hj => ((m_274 (229 + 45) j (by omega))).trans (h_265 j hj)) (fun c j hcj => ((m_274 c j (by omega)).trans (f_262 c j (by omega)))) (fun q => ⟨by omega, fun q2 => ⟨by omega, by omega, by omega⟩⟩) (by omega)) (by omega) (by omega) rfl
                    · omega
                  · omega
          · refine g_aload_n (n := 25) hx 2 (dq tX10_test 14 rfl) rfl rfl ?_
            have e_279 : M_6 229 37 = M 229 37 := ((f_9 229 37 (by omega))).trans (m_2 229 37 (by omega))
            refine g_callVi (n := 28) (As := []) (rest := []) hx (ctX10_fact Γ M_6 (M 229 42) (by omega) (Ts.w h_12 (by omega))) mlX10_332 (obX10 (by decide)) (dq tX10_test 15 rfl) rfl (Nat.le_of_ble_eq_true rfl) (Nat.le_of_ble_eq_true rfl) (Nat.le_of_ble_eq_true rfl) rfl (fun z_280 M_281 h_282 p_283 => ?_)
            obtain ⟨f_284, b_285, h_286, h_287, h_288, h_289, h_290⟩ := p_283
            have g_291 := Kp.trans g_10 h_287
            refine g_if_ne (n := 31) (t := 35) hx (dq tX10_test 16 rfl) (by decide) rfl h_282 (fun c_292 => ?_) (fun c_292 => ?_)
            · have b_285 := b_285.resolve_left c_292
              refine g_iconst (n := 36) hx (dq tX10_test 19 rfl) rfl ?_
              refine g_istore_n (n := 37) (lv' := [(1, vI 0), (2, vI i_4), (0, aR Γ 229)]) hx (dq tX10_test 20 rfl) (by decide) rfl rfl ?_
              refine g_goto (n := 9) hx (dq tX10_test 21 rfl) (by decide) ?_
              have e_293 : M_281 229 37 = M_6 229 37 := (f_284 229 37 (by omega))
              refine g_lv [1, 0, 2] rfl ?_
              exact ih_8 _ (by omega) i_4 0 M_281 (by omega) (by omega) (by omega) (by omega) (fun u_ v_ huv_ => ((f_284 u_ v_ ⟨huv_.1, huv_.2.1, huv_.2.2.2.2.2.1, huv_.2.2.2.2.2.2.2.2, huv_.2.2.2.2.2.2.1, huv_.2.2.2.2.2.2.2.1, huv_.2.2.1, huv_.2.2.2.1, huv_.2.2.2.2.1⟩).trans (f_9 u_ v_ ⟨huv_.1, huv_.2.1, huv_.2.2.1, huv_.2.2.2.1, huv_.2.2.2.2.1, huv_.2.2.2.2.2.1, huv_.2.2.2.2.2.2.1, huv_.2.2.2.2.2.2.2.1, huv_.2.2.2.2.2.2.2.2⟩))) g_291 (Ts.w h_286 (by omega)) (by omega) (by omega) rfl
            · clear b_285
              refine g_iconst (n := 32) hx (dq tX10_test 17 rfl) rfl ?_
              refine g_goto (n := 36) hx (dq tX10_test 18 rfl) (by decide) ?_
              refine g_istore_n (n := 37) (lv' := [(1, vI 1), (2, vI i_4), (0, aR Γ 229)]) hx (dq tX10_test 20 rfl) (by decide) rfl rfl ?_
              refine g_goto (n := 9) hx (dq tX10_test 21 rfl) (by decide) ?_
              have e_294 : M_281 229 37 = M_6 229 37 := (f_284 229 37 (by omega))
              refine g_lv [1, 0, 2] rfl ?_
              exact ih_8 _ (by omega) i_4 1 M_281 (by omega) (by omega) (by omega) (by omega) (fun u_ v_ huv_ => ((f_284 u_ v_ ⟨huv_.1, huv_.2.1, huv_.2.2.2.2.2.1, huv_.2.2.2.2.2.2.2.2, huv_.2.2.2.2.2.2.1, huv_.2.2.2.2.2.2.2.1, huv_.2.2.1, huv_.2.2.2.1, huv_.2.2.2.2.1⟩).trans (f_9 u_ v_ ⟨huv_.1, huv_.2.1, huv_.2.2.1, huv_.2.2.2.1, huv_.2.2.2.2.1, huv_.2.2.2.2.2.1, huv_.2.2.2.2.2.2.1, huv_.2.2.2.2.2.2.2.1, huv_.2.2.2.2.2.2.2.2⟩))) g_291 (Ts.w h_286 (by omega)) (by omega) (by omega) rfl
  have e_295 : M_1 229 37 = M 229 37 := (m_2 229 37 (by omega))
  have e_296 : M_1 229 38 = M 229 38 := (m_2 229 38 (by omega))
  have e_297 : M_1 229 39 = M 229 39 := (m_2 229 39 (by omega))
  exact L_7 _ 1 1 M_1 (by omega) (by omega) (by omega) (by omega) (fun _ _ _ => rfl) g_3 (Ts.begin ex0 pre0 m_2e (by omega) (fun c j hcj => m_2 c j (by omega))) (by omega) (by omega) rfl
