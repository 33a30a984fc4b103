abbrev qctX7_fails2 (M : zM) (kind : Int) (z : Int) (M' : zM) : Prop := (∀ u_ v_, (u_ ≠ 7 ∨ v_ ≠ 5) → M' u_ v_ = M u_ v_) ∧ 0 ≤ z ∧ z ≤ 0 ∧ (M' 7 5 = 1 + 8 * M 7 2 + kind)
set_option maxHeartbeats 4000000 in
set_option maxRecDepth 100000 in
theorem ctX7_fails2 (Γ : Gam) (M : zM) (kind : Int) (hkindl : 0 ≤ kind) (hkindu : kind ≤ 4)  : CtI Γ yX7_fails cX7_fails 2 (some .boolean) 0 0 [aR Γ 7, vI kind] M (qctX7_fails2 M kind) := by
  refine met_i (by decide) (Nat.le_of_ble_eq_true rfl) (fun x hx hr => ?_)
  show G Γ x 2 (QI Γ x (qctX7_fails2 M kind)) M 0 [(0, aR Γ 7), (1, vI kind)] []
  refine g_aload_n (n := 1) hx 0 (dq tX7_fails 0 rfl) rfl rfl ?_
  refine g_iconst (n := 2) hx (dq tX7_fails 1 rfl) rfl ?_
  refine g_bipush (n := 4) hx (dq tX7_fails 2 rfl) rfl (by decide) ?_
  refine g_aload_n (n := 5) hx 0 (dq tX7_fails 3 rfl) rfl rfl ?_
  refine g_getI (n := 8) hx glX7_28 (sX7_2 (by decide)) (dq tX7_fails 4 rfl) rfl (fun h_1l h_1u => ?_)
  refine g_imul (n := 9) hx (dq tX7_fails 5 rfl) rfl ?_
  refine g_iadd (n := 10) hx (dq tX7_fails 6 rfl) rfl ?_
  refine g_iload_n (n := 11) hx 1 (dq tX7_fails 7 rfl) rfl rfl ?_
  refine g_iadd (n := 12) hx (dq tX7_fails 8 rfl) rfl ?_
  refine g_putI (n := 15) hx plX7_19 (sX7_5 (by decide)) (dq tX7_fails 9 rfl) rfl (by omega) (by omega) (fun M_2 m_3e m_3 => ?_)
  refine g_iconst (n := 16) hx (dq tX7_fails 10 rfl) rfl ?_
  have e_4 : M_2 7 2 = M 7 2 := (m_3 7 2 (by omega))
  exact g_zret hx hr (dq tX7_fails 11 rfl) (by omega) ⟨(fun u_ v_ huv_ => (m_3 u_ v_ (by omega))), (by omega), (by omega), (by omega)⟩

abbrev qctX5_readSign2 (M : zM) (t9 : Nat → Int) (n9 : Nat) (a9 : Nat) (z : Int) (M' : zM) : Prop := (∀ u_ v_, (u_ ≠ 7 ∨ v_ ≠ 2) ∧ (u_ ≠ 7 ∨ v_ ≠ 3) ∧ (u_ ≠ 7 ∨ v_ ≠ 4) ∧ (u_ ≠ 7 ∨ v_ ≠ 5) ∧ (u_ ≠ 18 ∨ v_ ≠ 1) → M' u_ v_ = M u_ v_) ∧ ((z = -1 ∧ ((¬ (fst9 t9 n9 a9 = 60 ∨ fst9 t9 n9 a9 = 61 ∨ fst9 t9 n9 a9 = 62) ∧ M' 7 5 = 1 + 8 * (a9 : Int)) ∨ ((fst9 t9 n9 a9 = 60 ∨ fst9 t9 n9 a9 = 61 ∨ fst9 t9 n9 a9 = 62) ∧ 60 ≤ M 18 1 ∧ M' 7 5 = 1 + 8 * (a9 : Int) + 3))) ∨ (z ≠ -1 ∧ (fst9 t9 n9 a9 = 60 ∨ fst9 t9 n9 a9 = 61 ∨ fst9 t9 n9 a9 = 62) ∧ M 18 1 < 60 ∧ M' 18 1 = M 18 1 + 1)) ∧ (z ≠ -1 → Tc M' t9 n9 (nx t9 n9 a9))
set_option maxHeartbeats 4000000 in
set_option maxRecDepth 100000 in
theorem ctX5_readSign2 (Γ : Gam) (M : zM) (t9 : Nat → Int) (n9 : Nat) (a9 : Nat) (ex0 : Tc M t9 n9 a9) : CtI Γ yX5_readSign cX5_readSign 2 (some .int) 1 23 [aR Γ 18] M (qctX5_readSign2 M t9 n9 a9) := by
  refine met_i (by decide) (Nat.le_of_ble_eq_true rfl) (fun x hx hr => ?_)
  show G Γ x 2 (QI Γ x (qctX5_readSign2 M t9 n9 a9)) M 0 [(0, aR Γ 18)] []
  have ht_at := Tc.at ex0
  have ht_fst := Tc.fst ex0
  have ht_le := Tc.le ex0
  have ht_stop := Tc.stop ex0
  have ht_sle := Tc.sle ex0
  have ht_n := (Tc.tx ex0).1
  have ht_r := stp_le t9 n9 a9 ht_le
  have hw31 : wiR t9 a9 ((stp t9 n9 a9 : Int) - a9) 31 = wix t9 n9 a9 wVal 0 := wR31 ht_le
  refine g_iv (fun hI0 => ?_)
  have hI_c : (0 : Int) ≤ M 18 1 ∧ M 18 1 ≤ 60 := hI0 18 1
  clear hI0
  refine g_iconst (n := 1) hx (dq tX5_readSign 0 rfl) rfl ?_
  refine g_istore_n (n := 2) (lv' := [(1, vI (-1)), (0, aR Γ 18)]) hx (dq tX5_readSign 1 rfl) (by decide) rfl rfl ?_
  refine g_aload_n (n := 3) hx 1 (dq tX5_readSign 2 rfl) rfl rfl ?_
  refine g_getR (n := 6) hx glX5_9 (sX5_0 (by decide)) (dq tX5_readSign 3 rfl) rfl ?_
  refine g_getI (n := 9) hx glX5_67 (sX7_4 (by decide)) (dq tX5_readSign 4 rfl) rfl (fun h_1l h_1u => ?_)
  refine g_bipush (n := 11) hx (dq tX5_readSign 5 rfl) rfl (by decide) ?_
  refine g_icmp_ne (n := 14) (t := 35) hx (dq tX5_readSign 6 rfl) (by decide) rfl (zrI h_1l h_1u (by decide) (by decide)) ⟨by decide, by decide⟩ (fun c_2 => ?_) (fun c_2 => ?_)
  · refine g_aload_n (n := 36) hx 1 (dq tX5_readSign 16 rfl) rfl rfl ?_
    refine g_getR (n := 39) hx glX5_9 (sX5_0 (by decide)) (dq tX5_readSign 17 rfl) rfl ?_
    refine g_getI (n := 42) hx glX5_67 (sX7_4 (by decide)) (dq tX5_readSign 18 rfl) rfl (fun h_3l h_3u => ?_)
    refine g_bipush (n := 44) hx (dq tX5_readSign 19 rfl) rfl (by decide) ?_
    refine g_icmp_ne (n := 47) (t := 68) hx (dq tX5_readSign 20 rfl) (by decide) rfl (zrI h_3l h_3u (by decide) (by decide)) ⟨by decide, by decide⟩ (fun c_4 => ?_) (fun c_4 => ?_)
    · refine g_aload_n (n := 69) hx 1 (dq tX5_readSign 30 rfl) rfl rfl ?_
      refine g_getR (n := 72) hx glX5_9 (sX5_0 (by decide)) (dq tX5_readSign 31 rfl) rfl ?_
      refine g_getI (n := 75) hx glX5_67 (sX7_4 (by decide)) (dq tX5_readSign 32 rfl) rfl (fun h_5l h_5u => ?_)
      refine g_bipush (n := 77) hx (dq tX5_readSign 33 rfl) rfl (by decide) ?_
      refine g_icmp_ne (n := 80) (t := 83) hx (dq tX5_readSign 34 rfl) (by decide) rfl (zrI h_5l h_5u (by decide) (by decide)) ⟨by decide, by decide⟩ (fun c_6 => ?_) (fun c_6 => ?_)
      · refine g_iload_n (n := 84) hx 0 (dq tX5_readSign 37 rfl) rfl rfl ?_
        refine g_iconst (n := 85) hx (dq tX5_readSign 38 rfl) rfl ?_
        refine g_icmp_eq (n := 88) (t := 97) hx (dq tX5_readSign 39 rfl) (by decide) rfl ⟨by decide, by decide⟩ ⟨by decide, by decide⟩ (fun c_7 => ?_) (fun c_7 => ?_)
        · refine g_aload_n (n := 98) hx 1 (dq tX5_readSign 44 rfl) rfl rfl ?_
          refine g_getR (n := 101) hx glX5_9 (sX5_0 (by decide)) (dq tX5_readSign 45 rfl) rfl ?_
          refine g_iload_n (n := 102) hx 0 (dq tX5_readSign 46 rfl) rfl rfl ?_
          refine g_iconst (n := 103) hx (dq tX5_readSign 47 rfl) rfl ?_
          refine g_icmp_ne (n := 106) (t := 110) hx (dq tX5_readSign 48 rfl) (by decide) rfl ⟨by decide, by decide⟩ ⟨by decide, by decide⟩ (fun c_8 => ?_) (fun c_8 => ?_)
          · omega
          · refine g_iconst (n := 107) hx (dq tX5_readSign 49 rfl) rfl ?_
            refine g_goto (n := 111) hx (dq tX5_readSign 50 rfl) (by decide) ?_
            refine g_callVi (n := 114) (As := [vI 0]) (rest := []) hx (ctX7_fails2 Γ M 0 (by decide) (by decide)) mlX5_35 (obX7 (by decide)) (dq tX5_readSign 52 rfl) rfl (Nat.le_of_ble_eq_true rfl) (Nat.le_of_ble_eq_true rfl) (Nat.le_of_ble_eq_true rfl) rfl (fun z_9 M_10 h_11 p_12 => ?_)
            obtain ⟨f_13, h_14, h_15, h_16⟩ := p_12
            have g_17 : Tc M_10 t9 n9 a9 := Tc.frame ex0 (fun c j hcj => f_13 c j (by omega))
            refine g_pop (n := 115) hx (dq tX5_readSign 53 rfl) rfl rfl ?_
            refine g_iconst (n := 116) hx (dq tX5_readSign 54 rfl) rfl ?_
            have e_18 : M_10 7 1 = M 7 1 := (f_13 7 1 (by omega))
            have e_19 : M_10 7 2 = M 7 2 := (f_13 7 2 (by omega))
            have e_20 : M_10 7 3 = M 7 3 := (f_13 7 3 (by omega))
            have e_21 : M_10 7 4 = M 7 4 := (f_13 7 4 (by omega))
            have e_22 : M_10 18 1 = M 18 1 := (f_13 18 1 (by omega))
            exact g_iret hx hr (dq tX5_readSign 55 rfl) ⟨by decide, by decide⟩ ⟨(fun u_ v_ huv_ => (f_13 u_ v_ (by omega))), (by omega), (fun hz => absurd rfl hz)⟩
        · omega
      · refine g_bipush (n := 82) hx (dq tX5_readSign 35 rfl) rfl (by decide) ?_
        refine g_istore_n (n := 83) (lv' := [(1, vI 23), (0, aR Γ 18)]) hx (dq tX5_readSign 36 rfl) (by decide) rfl rfl ?_
        refine g_iload_n (n := 84) hx 0 (dq tX5_readSign 37 rfl) rfl rfl ?_
        refine g_iconst (n := 85) hx (dq tX5_readSign 38 rfl) rfl ?_
        refine g_icmp_eq (n := 88) (t := 97) hx (dq tX5_readSign 39 rfl) (by decide) rfl ⟨by decide, by decide⟩ ⟨by decide, by decide⟩ (fun c_23 => ?_) (fun c_23 => ?_)
        · omega
        · refine g_aload_n (n := 89) hx 1 (dq tX5_readSign 40 rfl) rfl rfl ?_
          refine g_getI (n := 92) hx glX5_20 (sX5_1 (by decide)) (dq tX5_readSign 41 rfl) rfl (fun h_24l h_24u => ?_)
          refine g_bipush (n := 94) hx (dq tX5_readSign 42 rfl) rfl (by decide) ?_
          refine g_icmp_lt (n := 97) (t := 117) hx (dq tX5_readSign 43 rfl) (by decide) rfl (zrI h_24l h_24u (by decide) (by decide)) ⟨by decide, by decide⟩ (fun c_25 => ?_) (fun c_25 => ?_)
          · refine g_aload_n (n := 118) hx 1 (dq tX5_readSign 56 rfl) rfl rfl ?_
            refine g_dup (n := 119) hx (dq tX5_readSign 57 rfl) rfl rfl ?_
            refine g_getI (n := 122) hx glX5_20 (sX5_1 (by decide)) (dq tX5_readSign 58 rfl) rfl (fun h_26l h_26u => ?_)
            refine g_iconst (n := 123) hx (dq tX5_readSign 59 rfl) rfl ?_
            refine g_iadd (n := 124) hx (dq tX5_readSign 60 rfl) rfl ?_
            refine g_putI (n := 127) hx plX5_20 (sX5_1 (by decide)) (dq tX5_readSign 61 rfl) rfl (by omega) (by omega) (fun M_27 m_28e m_28 => ?_)
            have g_29 : Tc M_27 t9 n9 a9 := Tc.frame ex0 (fun c j hcj => m_28 c j (by omega))
            refine g_aload_n (n := 128) hx 1 (dq tX5_readSign 62 rfl) rfl rfl ?_
            refine g_getR (n := 131) hx glX5_9 (sX5_0 (by decide)) (dq tX5_readSign 63 rfl) rfl ?_
            have e_30 : M_27 7 1 = M 7 1 := (m_28 7 1 (by omega))
            have e_31 : M_27 7 2 = M 7 2 := (m_28 7 2 (by omega))
            have e_32 : M_27 7 3 = M 7 3 := (m_28 7 3 (by omega))
            have e_33 : M_27 7 4 = M 7 4 := (m_28 7 4 (by omega))
            refine g_callVv (n := 134) (As := []) (rest := []) hx (ctX7_pass2 Γ M_27 t9 n9 (stp t9 n9 a9) (by omega) (by omega) (Tc.tx g_29)) mlX5_39 (obX7 (by decide)) (dq tX5_readSign 64 rfl) rfl (Nat.le_of_ble_eq_true rfl) (Nat.le_of_ble_eq_true rfl) (Nat.le_of_ble_eq_true rfl) rfl (fun M_35 p_37 => ?_)
            obtain ⟨f_38, g_39, h_40⟩ := p_37
            have g_41 : Tc M_35 t9 n9 (nx t9 n9 a9) := h_40
            refine g_iload_n (n := 135) hx 0 (dq tX5_readSign 65 rfl) rfl rfl ?_
            have e_42 : M_35 7 1 = M_27 7 1 := (f_38 7 1 (by omega))
            have e_43 : M_35 18 1 = M_27 18 1 := (f_38 18 1 (by omega))
            exact g_iret hx hr (dq tX5_readSign 66 rfl) ⟨by decide, by decide⟩ ⟨(fun u_ v_ huv_ => ((f_38 u_ v_ (by omega)).trans (m_28 u_ v_ (by omega)))), (by omega), (fun _ => g_41)⟩
          · refine g_aload_n (n := 98) hx 1 (dq tX5_readSign 44 rfl) rfl rfl ?_
            refine g_getR (n := 101) hx glX5_9 (sX5_0 (by decide)) (dq tX5_readSign 45 rfl) rfl ?_
            refine g_iload_n (n := 102) hx 0 (dq tX5_readSign 46 rfl) rfl rfl ?_
            refine g_iconst (n := 103) hx (dq tX5_readSign 47 rfl) rfl ?_
            refine g_icmp_ne (n := 106) (t := 110) hx (dq tX5_readSign 48 rfl) (by decide) rfl ⟨by decide, by decide⟩ ⟨by decide, by decide⟩ (fun c_44 => ?_) (fun c_44 => ?_)
            · refine g_iconst (n := 111) hx (dq tX5_readSign 51 rfl) rfl ?_
              refine g_callVi (n := 114) (As := [vI 3]) (rest := []) hx (ctX7_fails2 Γ M 3 (by decide) (by decide)) mlX5_35 (obX7 (by decide)) (dq tX5_readSign 52 rfl) rfl (Nat.le_of_ble_eq_true rfl) (Nat.le_of_ble_eq_true rfl) (Nat.le_of_ble_eq_true rfl) rfl (fun z_45 M_46 h_47 p_48 => ?_)
              obtain ⟨f_49, h_50, h_51, h_52⟩ := p_48
              have g_53 : Tc M_46 t9 n9 a9 := Tc.frame ex0 (fun c j hcj => f_49 c j (by omega))
              refine g_pop (n := 115) hx (dq tX5_readSign 53 rfl) rfl rfl ?_
              refine g_iconst (n := 116) hx (dq tX5_readSign 54 rfl) rfl ?_
              have e_54 : M_46 7 1 = M 7 1 := (f_49 7 1 (by omega))
              have e_55 : M_46 7 2 = M 7 2 := (f_49 7 2 (by omega))
              have e_56 : M_46 7 3 = M 7 3 := (f_49 7 3 (by omega))
              have e_57 : M_46 7 4 = M 7 4 := (f_49 7 4 (by omega))
              have e_58 : M_46 18 1 = M 18 1 := (f_49 18 1 (by omega))
              exact g_iret hx hr (dq tX5_readSign 55 rfl) ⟨by decide, by decide⟩ ⟨(fun u_ v_ huv_ => (f_49 u_ v_ (by omega))), (by omega), (fun hz => absurd rfl hz)⟩
            · omega
    · refine g_aload_n (n := 48) hx 1 (dq tX5_readSign 21 rfl) rfl rfl ?_
      refine g_getR (n := 51) hx glX5_9 (sX5_0 (by decide)) (dq tX5_readSign 22 rfl) rfl ?_
      refine g_callVi (n := 54) (As := []) (rest := []) hx (ctX7_isLong Γ M ) mlX5_83 (obX7 (by decide)) (dq tX5_readSign 23 rfl) rfl (Nat.le_of_ble_eq_true rfl) (Nat.le_of_ble_eq_true rfl) (Nat.le_of_ble_eq_true rfl) rfl (fun z_59 M_60 h_61 p_62 => ?_)
      obtain ⟨rfl, b_64⟩ := p_62
      refine g_if_eq (n := 57) (t := 62) hx (dq tX5_readSign 24 rfl) (by decide) rfl h_61 (fun c_65 => ?_) (fun c_65 => ?_)
      · clear b_64
        refine g_bipush (n := 64) hx (dq tX5_readSign 27 rfl) rfl (by decide) ?_
        refine g_istore_n (n := 65) (lv' := [(1, vI 25), (0, aR Γ 18)]) hx (dq tX5_readSign 28 rfl) (by decide) rfl rfl ?_
        refine g_goto (n := 83) hx (dq tX5_readSign 29 rfl) (by decide) ?_
        refine g_iload_n (n := 84) hx 0 (dq tX5_readSign 37 rfl) rfl rfl ?_
        refine g_iconst (n := 85) hx (dq tX5_readSign 38 rfl) rfl ?_
        refine g_icmp_eq (n := 88) (t := 97) hx (dq tX5_readSign 39 rfl) (by decide) rfl ⟨by decide, by decide⟩ ⟨by decide, by decide⟩ (fun c_66 => ?_) (fun c_66 => ?_)
        · omega
        · refine g_aload_n (n := 89) hx 1 (dq tX5_readSign 40 rfl) rfl rfl ?_
          refine g_getI (n := 92) hx glX5_20 (sX5_1 (by decide)) (dq tX5_readSign 41 rfl) rfl (fun h_67l h_67u => ?_)
          refine g_bipush (n := 94) hx (dq tX5_readSign 42 rfl) rfl (by decide) ?_
          refine g_icmp_lt (n := 97) (t := 117) hx (dq tX5_readSign 43 rfl) (by decide) rfl (zrI h_67l h_67u (by decide) (by decide)) ⟨by decide, by decide⟩ (fun c_68 => ?_) (fun c_68 => ?_)
          · refine g_aload_n (n := 118) hx 1 (dq tX5_readSign 56 rfl) rfl rfl ?_
            refine g_dup (n := 119) hx (dq tX5_readSign 57 rfl) rfl rfl ?_
            refine g_getI (n := 122) hx glX5_20 (sX5_1 (by decide)) (dq tX5_readSign 58 rfl) rfl (fun h_69l h_69u => ?_)
            refine g_iconst (n := 123) hx (dq tX5_readSign 59 rfl) rfl ?_
            refine g_iadd (n := 124) hx (dq tX5_readSign 60 rfl) rfl ?_
            refine g_putI (n := 127) hx plX5_20 (sX5_1 (by decide)) (dq tX5_readSign 61 rfl) rfl (by omega) (by omega) (fun M_70 m_71e m_71 => ?_)
            have g_72 : Tc M_70 t9 n9 a9 := Tc.frame ex0 (fun c j hcj => m_71 c j (by omega))
            refine g_aload_n (n := 128) hx 1 (dq tX5_readSign 62 rfl) rfl rfl ?_
            refine g_getR (n := 131) hx glX5_9 (sX5_0 (by decide)) (dq tX5_readSign 63 rfl) rfl ?_
            have e_73 : M_70 7 1 = M 7 1 := (m_71 7 1 (by omega))
            have e_74 : M_70 7 2 = M 7 2 := (m_71 7 2 (by omega))
            have e_75 : M_70 7 3 = M 7 3 := (m_71 7 3 (by omega))
            have e_76 : M_70 7 4 = M 7 4 := (m_71 7 4 (by omega))
            refine g_callVv (n := 134) (As := []) (rest := []) hx (ctX7_pass2 Γ M_70 t9 n9 (stp t9 n9 a9) (by omega) (by omega) (Tc.tx g_72)) mlX5_39 (obX7 (by decide)) (dq tX5_readSign 64 rfl) rfl (Nat.le_of_ble_eq_true rfl) (Nat.le_of_ble_eq_true rfl) (Nat.le_of_ble_eq_true rfl) rfl (fun M_78 p_80 => ?_)
            obtain ⟨f_81, g_82, h_83⟩ := p_80
            have g_84 : Tc M_78 t9 n9 (nx t9 n9 a9) := h_83
            refine g_iload_n (n := 135) hx 0 (dq tX5_readSign 65 rfl) rfl rfl ?_
            have e_85 : M_78 7 1 = M_70 7 1 := (f_81 7 1 (by omega))
            have e_86 : M_78 18 1 = M_70 18 1 := (f_81 18 1 (by omega))
            exact g_iret hx hr (dq tX5_readSign 66 rfl) ⟨by decide, by decide⟩ ⟨(fun u_ v_ huv_ => ((f_81 u_ v_ (by omega)).trans (m_71 u_ v_ (by omega)))), (by omega), (fun _ => g_84)⟩
          · refine g_aload_n (n := 98) hx 1 (dq tX5_readSign 44 rfl) rfl rfl ?_
            refine g_getR (n := 101) hx glX5_9 (sX5_0 (by decide)) (dq tX5_readSign 45 rfl) rfl ?_
            refine g_iload_n (n := 102) hx 0 (dq tX5_readSign 46 rfl) rfl rfl ?_
            refine g_iconst (n := 103) hx (dq tX5_readSign 47 rfl) rfl ?_
            refine g_icmp_ne (n := 106) (t := 110) hx (dq tX5_readSign 48 rfl) (by decide) rfl ⟨by decide, by decide⟩ ⟨by decide, by decide⟩ (fun c_87 => ?_) (fun c_87 => ?_)
            · refine g_iconst (n := 111) hx (dq tX5_readSign 51 rfl) rfl ?_
              refine g_callVi (n := 114) (As := [vI 3]) (rest := []) hx (ctX7_fails2 Γ M 3 (by decide) (by decide)) mlX5_35 (obX7 (by decide)) (dq tX5_readSign 52 rfl) rfl (Nat.le_of_ble_eq_true rfl) (Nat.le_of_ble_eq_true rfl) (Nat.le_of_ble_eq_true rfl) rfl (fun z_88 M_89 h_90 p_91 => ?_)
              obtain ⟨f_92, h_93, h_94, h_95⟩ := p_91
              have g_96 : Tc M_89 t9 n9 a9 := Tc.frame ex0 (fun c j hcj => f_92 c j (by omega))
              refine g_pop (n := 115) hx (dq tX5_readSign 53 rfl) rfl rfl ?_
              refine g_iconst (n := 116) hx (dq tX5_readSign 54 rfl) rfl ?_
              have e_97 : M_89 7 1 = M 7 1 := (f_92 7 1 (by omega))
              have e_98 : M_89 7 2 = M 7 2 := (f_92 7 2 (by omega))
              have e_99 : M_89 7 3 = M 7 3 := (f_92 7 3 (by omega))
              have e_100 : M_89 7 4 = M 7 4 := (f_92 7 4 (by omega))
              have e_101 : M_89 18 1 = M 18 1 := (f_92 18 1 (by omega))
              exact g_iret hx hr (dq tX5_readSign 55 rfl) ⟨by decide, by decide⟩ ⟨(fun u_ v_ huv_ => (f_92 u_ v_ (by omega))), (by omega), (fun hz => absurd rfl hz)⟩
            · omega
      · have b_64 := b_64.resolve_left c_65
        refine g_bipush (n := 59) hx (dq tX5_readSign 25 rfl) rfl (by decide) ?_
        refine g_goto (n := 64) hx (dq tX5_readSign 26 rfl) (by decide) ?_
        refine g_istore_n (n := 65) (lv' := [(1, vI 24), (0, aR Γ 18)]) hx (dq tX5_readSign 28 rfl) (by decide) rfl rfl ?_
        refine g_goto (n := 83) hx (dq tX5_readSign 29 rfl) (by decide) ?_
        refine g_iload_n (n := 84) hx 0 (dq tX5_readSign 37 rfl) rfl rfl ?_
        refine g_iconst (n := 85) hx (dq tX5_readSign 38 rfl) rfl ?_
        refine g_icmp_eq (n := 88) (t := 97) hx (dq tX5_readSign 39 rfl) (by decide) rfl ⟨by decide, by decide⟩ ⟨by decide, by decide⟩ (fun c_102 => ?_) (fun c_102 => ?_)
        · omega
        · refine g_aload_n (n := 89) hx 1 (dq tX5_readSign 40 rfl) rfl rfl ?_
          refine g_getI (n := 92) hx glX5_20 (sX5_1 (by decide)) (dq tX5_readSign 41 rfl) rfl (fun h_103l h_103u => ?_)
          refine g_bipush (n := 94) hx (dq tX5_readSign 42 rfl) rfl (by decide) ?_
          refine g_icmp_lt (n := 97) (t := 117) hx (dq tX5_readSign 43 rfl) (by decide) rfl (zrI h_103l h_103u (by decide) (by decide)) ⟨by decide, by decide⟩ (fun c_104 => ?_) (fun c_104 => ?_)
          · refine g_aload_n (n := 118) hx 1 (dq tX5_readSign 56 rfl) rfl rfl ?_
            refine g_dup (n := 119) hx (dq tX5_readSign 57 rfl) rfl rfl ?_
            refine g_getI (n := 122) hx glX5_20 (sX5_1 (by decide)) (dq tX5_readSign 58 rfl) rfl (fun h_105l h_105u => ?_)
            refine g_iconst (n := 123) hx (dq tX5_readSign 59 rfl) rfl ?_
            refine g_iadd (n := 124) hx (dq tX5_readSign 60 rfl) rfl ?_
            refine g_putI (n := 127) hx plX5_20 (sX5_1 (by decide)) (dq tX5_readSign 61 rfl) rfl (by omega) (by omega) (fun M_106 m_107e m_107 => ?_)
            have g_108 : Tc M_106 t9 n9 a9 := Tc.frame ex0 (fun c j hcj => m_107 c j (by omega))
            refine g_aload_n (n := 128) hx 1 (dq tX5_readSign 62 rfl) rfl rfl ?_
            refine g_getR (n := 131) hx glX5_9 (sX5_0 (by decide)) (dq tX5_readSign 63 rfl) rfl ?_
            have e_109 : M_106 7 1 = M 7 1 := (m_107 7 1 (by omega))
            have e_110 : M_106 7 2 = M 7 2 := (m_107 7 2 (by omega))
            have e_111 : M_106 7 3 = M 7 3 := (m_107 7 3 (by omega))
            have e_112 : M_106 7 4 = M 7 4 := (m_107 7 4 (by omega))
            refine g_callVv (n := 134) (As := []) (rest := []) hx (ctX7_pass2 Γ M_106 t9 n9 (stp t9 n9 a9) (by omega) (by omega) (Tc.tx g_108)) mlX5_39 (obX7 (by decide)) (dq tX5_readSign 64 rfl) rfl (Nat.le_of_ble_eq_true rfl) (Nat.le_of_ble_eq_true rfl) (Nat.le_of_ble_eq_true rfl) rfl (fun M_114 p_116 => ?_)
            obtain ⟨f_117, g_118, h_119⟩ := p_116
            have g_120 : Tc M_114 t9 n9 (nx t9 n9 a9) := h_119
            refine g_iload_n (n := 135) hx 0 (dq tX5_readSign 65 rfl) rfl rfl ?_
            have e_121 : M_114 7 1 = M_106 7 1 := (f_117 7 1 (by omega))
            have e_122 : M_114 18 1 = M_106 18 1 := (f_117 18 1 (by omega))
            exact g_iret hx hr (dq tX5_readSign 66 rfl) ⟨by decide, by decide⟩ ⟨(fun u_ v_ huv_ => ((f_117 u_ v_ (by omega)).trans (m_107 u_ v_ (by omega)))), (by omega), (fun _ => g_120)⟩
          · refine g_aload_n (n := 98) hx 1 (dq tX5_readSign 44 rfl) rfl rfl ?_
            refine g_getR (n := 101) hx glX5_9 (sX5_0 (by decide)) (dq tX5_readSign 45 rfl) rfl ?_
            refine g_iload_n (n := 102) hx 0 (dq tX5_readSign 46 rfl) rfl rfl ?_
            refine g_iconst (n := 103) hx (dq tX5_readSign 47 rfl) rfl ?_
            refine g_icmp_ne (n := 106) (t := 110) hx (dq tX5_readSign 48 rfl) (by decide) rfl ⟨by decide, by decide⟩ ⟨by decide, by decide⟩ (fun c_123 => ?_) (fun c_123 => ?_)
            · refine g_iconst (n := 111) hx (dq tX5_readSign 51 rfl) rfl ?_
              refine g_callVi (n := 114) (As := [vI 3]) (rest := []) hx (ctX7_fails2 Γ M 3 (by decide) (by decide)) mlX5_35 (obX7 (by decide)) (dq tX5_readSign 52 rfl) rfl (Nat.le_of_ble_eq_true rfl) (Nat.le_of_ble_eq_true rfl) (Nat.le_of_ble_eq_true rfl) rfl (fun z_124 M_125 h_126 p_127 => ?_)
              obtain ⟨f_128, h_129, h_130, h_131⟩ := p_127
              have g_132 : Tc M_125 t9 n9 a9 := Tc.frame ex0 (fun c j hcj => f_128 c j (by omega))
              refine g_pop (n := 115) hx (dq tX5_readSign 53 rfl) rfl rfl ?_
              refine g_iconst (n := 116) hx (dq tX5_readSign 54 rfl) rfl ?_
              have e_133 : M_125 7 1 = M 7 1 := (f_128 7 1 (by omega))
              have e_134 : M_125 7 2 = M 7 2 := (f_128 7 2 (by omega))
              have e_135 : M_125 7 3 = M 7 3 := (f_128 7 3 (by omega))
              have e_136 : M_125 7 4 = M 7 4 := (f_128 7 4 (by omega))
              have e_137 : M_125 18 1 = M 18 1 := (f_128 18 1 (by omega))
              exact g_iret hx hr (dq tX5_readSign 55 rfl) ⟨by decide, by decide⟩ ⟨(fun u_ v_ huv_ => (f_128 u_ v_ (by omega))), (by omega), (fun hz => absurd rfl hz)⟩
            · omega
  · refine g_aload_n (n := 15) hx 1 (dq tX5_readSign 7 rfl) rfl rfl ?_
    refine g_getR (n := 18) hx glX5_9 (sX5_0 (by decide)) (dq tX5_readSign 8 rfl) rfl ?_
    refine g_callVi (n := 21) (As := []) (rest := []) hx (ctX7_isLong Γ M ) mlX5_83 (obX7 (by decide)) (dq tX5_readSign 9 rfl) rfl (Nat.le_of_ble_eq_true rfl) (Nat.le_of_ble_eq_true rfl) (Nat.le_of_ble_eq_true rfl) rfl (fun z_138 M_139 h_140 p_141 => ?_)
    obtain ⟨rfl, b_143⟩ := p_141
    refine g_if_eq (n := 24) (t := 29) hx (dq tX5_readSign 10 rfl) (by decide) rfl h_140 (fun c_144 => ?_) (fun c_144 => ?_)
    · clear b_143
      refine g_bipush (n := 31) hx (dq tX5_readSign 13 rfl) rfl (by decide) ?_
      refine g_istore_n (n := 32) (lv' := [(1, vI 21), (0, aR Γ 18)]) hx (dq tX5_readSign 14 rfl) (by decide) rfl rfl ?_
      refine g_goto (n := 83) hx (dq tX5_readSign 15 rfl) (by decide) ?_
      refine g_iload_n (n := 84) hx 0 (dq tX5_readSign 37 rfl) rfl rfl ?_
      refine g_iconst (n := 85) hx (dq tX5_readSign 38 rfl) rfl ?_
      refine g_icmp_eq (n := 88) (t := 97) hx (dq tX5_readSign 39 rfl) (by decide) rfl ⟨by decide, by decide⟩ ⟨by decide, by decide⟩ (fun c_145 => ?_) (fun c_145 => ?_)
      · omega
      · refine g_aload_n (n := 89) hx 1 (dq tX5_readSign 40 rfl) rfl rfl ?_
        refine g_getI (n := 92) hx glX5_20 (sX5_1 (by decide)) (dq tX5_readSign 41 rfl) rfl (fun h_146l h_146u => ?_)
        refine g_bipush (n := 94) hx (dq tX5_readSign 42 rfl) rfl (by decide) ?_
        refine g_icmp_lt (n := 97) (t := 117) hx (dq tX5_readSign 43 rfl) (by decide) rfl (zrI h_146l h_146u (by decide) (by decide)) ⟨by decide, by decide⟩ (fun c_147 => ?_) (fun c_147 => ?_)
        · refine g_aload_n (n := 118) hx 1 (dq tX5_readSign 56 rfl) rfl rfl ?_
          refine g_dup (n := 119) hx (dq tX5_readSign 57 rfl) rfl rfl ?_
          refine g_getI (n := 122) hx glX5_20 (sX5_1 (by decide)) (dq tX5_readSign 58 rfl) rfl (fun h_148l h_148u => ?_)
          refine g_iconst (n := 123) hx (dq tX5_readSign 59 rfl) rfl ?_
          refine g_iadd (n := 124) hx (dq tX5_readSign 60 rfl) rfl ?_
          refine g_putI (n := 127) hx plX5_20 (sX5_1 (by decide)) (dq tX5_readSign 61 rfl) rfl (by omega) (by omega) (fun M_149 m_150e m_150 => ?_)
          have g_151 : Tc M_149 t9 n9 a9 := Tc.frame ex0 (fun c j hcj => m_150 c j (by omega))
          refine g_aload_n (n := 128) hx 1 (dq tX5_readSign 62 rfl) rfl rfl ?_
          refine g_getR (n := 131) hx glX5_9 (sX5_0 (by decide)) (dq tX5_readSign 63 rfl) rfl ?_
          have e_152 : M_149 7 1 = M 7 1 := (m_150 7 1 (by omega))
          have e_153 : M_149 7 2 = M 7 2 := (m_150 7 2 (by omega))
          have e_154 : M_149 7 3 = M 7 3 := (m_150 7 3 (by omega))
          have e_155 : M_149 7 4 = M 7 4 := (m_150 7 4 (by omega))
          refine g_callVv (n := 134) (As := []) (rest := []) hx (ctX7_pass2 Γ M_149 t9 n9 (stp t9 n9 a9) (by omega) (by omega) (Tc.tx g_151)) mlX5_39 (obX7 (by decide)) (dq tX5_readSign 64 rfl) rfl (Nat.le_of_ble_eq_true rfl) (Nat.le_of_ble_eq_true rfl) (Nat.le_of_ble_eq_true rfl) rfl (fun M_157 p_159 => ?_)
          obtain ⟨f_160, g_161, h_162⟩ := p_159
          have g_163 : Tc M_157 t9 n9 (nx t9 n9 a9) := h_162
          refine g_iload_n (n := 135) hx 0 (dq tX5_readSign 65 rfl) rfl rfl ?_
          have e_164 : M_157 7 1 = M_149 7 1 := (f_160 7 1 (by omega))
          have e_165 : M_157 18 1 = M_149 18 1 := (f_160 18 1 (by omega))
          exact g_iret hx hr (dq tX5_readSign 66 rfl) ⟨by decide, by decide⟩ ⟨(fun u_ v_ huv_ => ((f_160 u_ v_ (by omega)).trans (m_150 u_ v_ (by omega)))), (by omega), (fun _ => g_163)⟩
        · refine g_aload_n (n := 98) hx 1 (dq tX5_readSign 44 rfl) rfl rfl ?_
          refine g_getR (n := 101) hx glX5_9 (sX5_0 (by decide)) (dq tX5_readSign 45 rfl) rfl ?_
          refine g_iload_n (n := 102) hx 0 (dq tX5_readSign 46 rfl) rfl rfl ?_
          refine g_iconst (n := 103) hx (dq tX5_readSign 47 rfl) rfl ?_
          refine g_icmp_ne (n := 106) (t := 110) hx (dq tX5_readSign 48 rfl) (by decide) rfl ⟨by decide, by decide⟩ ⟨by decide, by decide⟩ (fun c_166 => ?_) (fun c_166 => ?_)
          · refine g_iconst (n := 111) hx (dq tX5_readSign 51 rfl) rfl ?_
            refine g_callVi (n := 114) (As := [vI 3]) (rest := []) hx (ctX7_fails2 Γ M 3 (by decide) (by decide)) mlX5_35 (obX7 (by decide)) (dq tX5_readSign 52 rfl) rfl (Nat.le_of_ble_eq_true rfl) (Nat.le_of_ble_eq_true rfl) (Nat.le_of_ble_eq_true rfl) rfl (fun z_167 M_168 h_169 p_170 => ?_)
            obtain ⟨f_171, h_172, h_173, h_174⟩ := p_170
            have g_175 : Tc M_168 t9 n9 a9 := Tc.frame ex0 (fun c j hcj => f_171 c j (by omega))
            refine g_pop (n := 115) hx (dq tX5_readSign 53 rfl) rfl rfl ?_
            refine g_iconst (n := 116) hx (dq tX5_readSign 54 rfl) rfl ?_
            have e_176 : M_168 7 1 = M 7 1 := (f_171 7 1 (by omega))
            have e_177 : M_168 7 2 = M 7 2 := (f_171 7 2 (by omega))
            have e_178 : M_168 7 3 = M 7 3 := (f_171 7 3 (by omega))
            have e_179 : M_168 7 4 = M 7 4 := (f_171 7 4 (by omega))
            have e_180 : M_168 18 1 = M 18 1 := (f_171 18 1 (by omega))
            exact g_iret hx hr (dq tX5_readSign 55 rfl) ⟨by decide, by decide⟩ ⟨(fun u_ v_ huv_ => (f_171 u_ v_ (by omega))), (by omega), (fun hz => absurd rfl hz)⟩
          · omega
    · have b_143 := b_143.resolve_left c_144
      refine g_bipush (n := 26) hx (dq tX5_readSign 11 rfl) rfl (by decide) ?_
      refine g_goto (n := 31) hx (dq tX5_readSign 12 rfl) (by decide) ?_
      refine g_istore_n (n := 32) (lv' := [(1, vI 22), (0, aR Γ 18)]) hx (dq tX5_readSign 14 rfl) (by decide) rfl rfl ?_
      refine g_goto (n := 83) hx (dq tX5_readSign 15 rfl) (by decide) ?_
      refine g_iload_n (n := 84) hx 0 (dq tX5_readSign 37 rfl) rfl rfl ?_
      refine g_iconst (n := 85) hx (dq tX5_readSign 38 rfl) rfl ?_
      refine g_icmp_eq (n := 88) (t := 97) hx (dq tX5_readSign 39 rfl) (by decide) rfl ⟨by decide, by decide⟩ ⟨by decide, by decide⟩ (fun c_181 => ?_) (fun c_181 => ?_)
      · omega
      · refine g_aload_n (n := 89) hx 1 (dq tX5_readSign 40 rfl) rfl rfl ?_
        refine g_getI (n := 92) hx glX5_20 (sX5_1 (by decide)) (dq tX5_readSign 41 rfl) rfl (fun h_182l h_182u => ?_)
        refine g_bipush (n := 94) hx (dq tX5_readSign 42 rfl) rfl (by decide) ?_
        refine g_icmp_lt (n := 97) (t := 117) hx (dq tX5_readSign 43 rfl) (by decide) rfl (zrI h_182l h_182u (by decide) (by decide)) ⟨by decide, by decide⟩ (fun c_183 => ?_) (fun c_183 => ?_)
        · refine g_aload_n (n := 118) hx 1 (dq tX5_readSign 56 rfl) rfl rfl ?_
          refine g_dup (n := 119) hx (dq tX5_readSign 57 rfl) rfl rfl ?_
          refine g_getI (n := 122) hx glX5_20 (sX5_1 (by decide)) (dq tX5_readSign 58 rfl) rfl (fun h_184l h_184u => ?_)
          refine g_iconst (n := 123) hx (dq tX5_readSign 59 rfl) rfl ?_
          refine g_iadd (n := 124) hx (dq tX5_readSign 60 rfl) rfl ?_
          refine g_putI (n := 127) hx plX5_20 (sX5_1 (by decide)) (dq tX5_readSign 61 rfl) rfl (by omega) (by omega) (fun M_185 m_186e m_186 => ?_)
          have g_187 : Tc M_185 t9 n9 a9 := Tc.frame ex0 (fun c j hcj => m_186 c j (by omega))
          refine g_aload_n (n := 128) hx 1 (dq tX5_readSign 62 rfl) rfl rfl ?_
          refine g_getR (n := 131) hx glX5_9 (sX5_0 (by decide)) (dq tX5_readSign 63 rfl) rfl ?_
          have e_188 : M_185 7 1 = M 7 1 := (m_186 7 1 (by omega))
          have e_189 : M_185 7 2 = M 7 2 := (m_186 7 2 (by omega))
          have e_190 : M_185 7 3 = M 7 3 := (m_186 7 3 (by omega))
          have e_191 : M_185 7 4 = M 7 4 := (m_186 7 4 (by omega))
          refine g_callVv (n := 134) (As := []) (rest := []) hx (ctX7_pass2 Γ M_185 t9 n9 (stp t9 n9 a9) (by omega) (by omega) (Tc.tx g_187)) mlX5_39 (obX7 (by decide)) (dq tX5_readSign 64 rfl) rfl (Nat.le_of_ble_eq_true rfl) (Nat.le_of_ble_eq_true rfl) (Nat.le_of_ble_eq_true rfl) rfl (fun M_193 p_195 => ?_)
          obtain ⟨f_196, g_197, h_198⟩ := p_195
          have g_199 : Tc M_193 t9 n9 (nx t9 n9 a9) := h_198
          refine g_iload_n (n := 135) hx 0 (dq tX5_readSign 65 rfl) rfl rfl ?_
          have e_200 : M_193 7 1 = M_185 7 1 := (f_196 7 1 (by omega))
          have e_201 : M_193 18 1 = M_185 18 1 := (f_196 18 1 (by omega))
          exact g_iret hx hr (dq tX5_readSign 66 rfl) ⟨by decide, by decide⟩ ⟨(fun u_ v_ huv_ => ((f_196 u_ v_ (by omega)).trans (m_186 u_ v_ (by omega)))), (by omega), (fun _ => g_199)⟩
        · refine g_aload_n (n := 98) hx 1 (dq tX5_readSign 44 rfl) rfl rfl ?_
          refine g_getR (n := 101) hx glX5_9 (sX5_0 (by decide)) (dq tX5_readSign 45 rfl) rfl ?_
          refine g_iload_n (n := 102) hx 0 (dq tX5_readSign 46 rfl) rfl rfl ?_
          refine g_iconst (n := 103) hx (dq tX5_readSign 47 rfl) rfl ?_
          refine g_icmp_ne (n := 106) (t := 110) hx (dq tX5_readSign 48 rfl) (by decide) rfl ⟨by decide, by decide⟩ ⟨by decide, by decide⟩ (fun c_202 => ?_) (fun c_202 => ?_)
          · refine g_iconst (n := 111) hx (dq tX5_readSign 51 rfl) rfl ?_
            refine g_callVi (n := 114) (As := [vI 3]) (rest := []) hx (ctX7_fails2 Γ M 3 (by decide) (by decide)) mlX5_35 (obX7 (by decide)) (dq tX5_readSign 52 rfl) rfl (Nat.le_of_ble_eq_true rfl) (Nat.le_of_ble_eq_true rfl) (Nat.le_of_ble_eq_true rfl) rfl (fun z_203 M_204 h_205 p_206 => ?_)
            obtain ⟨f_207, h_208, h_209, h_210⟩ := p_206
            have g_211 : Tc M_204 t9 n9 a9 := Tc.frame ex0 (fun c j hcj => f_207 c j (by omega))
            refine g_pop (n := 115) hx (dq tX5_readSign 53 rfl) rfl rfl ?_
            refine g_iconst (n := 116) hx (dq tX5_readSign 54 rfl) rfl ?_
            have e_212 : M_204 7 1 = M 7 1 := (f_207 7 1 (by omega))
            have e_213 : M_204 7 2 = M 7 2 := (f_207 7 2 (by omega))
            have e_214 : M_204 7 3 = M 7 3 := (f_207 7 3 (by omega))
            have e_215 : M_204 7 4 = M 7 4 := (f_207 7 4 (by omega))
            have e_216 : M_204 18 1 = M 18 1 := (f_207 18 1 (by omega))
            exact g_iret hx hr (dq tX5_readSign 55 rfl) ⟨by decide, by decide⟩ ⟨(fun u_ v_ huv_ => (f_207 u_ v_ (by omega))), (by omega), (fun hz => absurd rfl hz)⟩
          · omega

abbrev qctX5_readsValue2 (M : zM) (g : Nat) (t9 : Nat → Int) (n9 : Nat) (a9 : Nat) (z : Int) (M' : zM) : Prop := (∀ u_ v_, (u_ ≠ 7 ∨ v_ ≠ 2) ∧ (u_ ≠ 7 ∨ v_ ≠ 3) ∧ (u_ ≠ 7 ∨ v_ ≠ 4) ∧ (u_ ≠ 7 ∨ v_ ≠ 5) ∧ (u_ ≠ 18 ∨ v_ ≠ 1) ∧ (u_ ≠ g ∨ v_ ≠ 1) ∧ (u_ ≠ g ∨ v_ ≠ 2) ∧ (u_ ≠ g ∨ v_ ≠ 3) ∧ u_ ≠ g + 1 → M' u_ v_ = M u_ v_) ∧ 0 ≤ z ∧ z ≤ 1 ∧ (Rz M' t9 n9 z (Vf t9 n9 a9 (M 18 1)))
set_option maxHeartbeats 4000000 in
set_option maxRecDepth 100000 in
theorem ctX5_readsValue2 (Γ : Gam) (M : zM) (g : Nat) (hg : isX4 g) (t9 : Nat → Int) (n9 : Nat) (a9 : Nat) (ex0 : Tc M t9 n9 a9) : CtI Γ yX5_readsValue cX5_readsValue 4 (some .boolean) 5 110 [aR Γ 18, aR Γ g] M (qctX5_readsValue2 M g t9 n9 a9) := by
  refine met_i (by decide) (Nat.le_of_ble_eq_true rfl) (fun x hx hr => ?_)
  show G Γ x 4 (QI Γ x (qctX5_readsValue2 M g t9 n9 a9)) M 0 [(0, aR Γ 18), (1, aR Γ g)] []
  have ht_at := Tc.at ex0
  have ht_fst := Tc.fst ex0
  have ht_le := Tc.le ex0
  have ht_stop := Tc.stop ex0
  have ht_sle := Tc.sle ex0
  have ht_n := (Tc.tx ex0).1
  have ht_r := stp_le t9 n9 a9 ht_le
  have hw31 : wiR t9 a9 ((stp t9 n9 a9 : Int) - a9) 31 = wix t9 n9 a9 wVal 0 := wR31 ht_le
  refine g_iv (fun hI0 => ?_)
  have hI_c : (0 : Int) ≤ M 18 1 ∧ M 18 1 ≤ 60 := hI0 18 1
  clear hI0
  refine g_aload_n (n := 1) hx 0 (dq tX5_readsValue 0 rfl) rfl rfl ?_
  refine g_getR (n := 4) hx glX5_9 (sX5_0 (by decide)) (dq tX5_readsValue 1 rfl) rfl ?_
  refine g_callVi (n := 7) (As := []) (rest := []) hx (ctX7_isNumber2 Γ M t9 n9 a9 ex0) mlX5_90 (obX7 (by decide)) (dq tX5_readsValue 2 rfl) rfl (Nat.le_of_ble_eq_true rfl) (Nat.le_of_ble_eq_true rfl) (Nat.le_of_ble_eq_true rfl) rfl (fun z_1 M_2 h_3 p_4 => ?_)
  obtain ⟨rfl, h_6, h_7, h_8⟩ := p_4
  refine g_if_eq (n := 10) (t := 39) hx (dq tX5_readsValue 3 rfl) (by decide) rfl h_3 (fun c_9 => ?_) (fun c_9 => ?_)
  · refine g_aload_n (n := 40) hx 0 (dq tX5_readsValue 21 rfl) rfl rfl ?_
    refine g_getR (n := 43) hx glX5_9 (sX5_0 (by decide)) (dq tX5_readsValue 22 rfl) rfl ?_
    refine g_ldcS (n := 45) (q := 31) hx rfl rfl rfl (dq tX5_readsValue 23 rfl) rfl ?_
    refine g_callVi (n := 48) (As := [sR Γ 31]) (rest := []) hx (ctX7_wordIn2 Γ M 31 _ rfl (by decide) t9 n9 a9 ex0) mlX5_31 (obX7 (by decide)) (dq tX5_readsValue 24 rfl) rfl (Nat.le_of_ble_eq_true rfl) (Nat.le_of_ble_eq_true rfl) (Nat.le_of_ble_eq_true rfl) rfl (fun z_10 M_11 h_12 p_13 => ?_)
    obtain ⟨rfl, h_15⟩ := p_13
    refine g_istore_n (n := 49) (lv' := [(2, vI z_10), (0, aR Γ 18), (1, aR Γ g)]) hx (dq tX5_readsValue 25 rfl) (by decide) rfl rfl ?_
    refine g_iload_n (n := 50) hx 0 (dq tX5_readsValue 26 rfl) rfl rfl ?_
    refine g_iconst (n := 51) hx (dq tX5_readsValue 27 rfl) rfl ?_
    refine g_icmp_ne (n := 54) (t := 63) hx (dq tX5_readsValue 28 rfl) (by decide) rfl h_12 ⟨by decide, by decide⟩ (fun c_16 => ?_) (fun c_16 => ?_)
    · refine g_aload_n (n := 64) hx 1 (dq tX5_readsValue 34 rfl) rfl rfl ?_
      refine g_getI (n := 67) hx glX5_20 (sX5_1 (by decide)) (dq tX5_readsValue 35 rfl) rfl (fun h_17l h_17u => ?_)
      refine g_bipush (n := 69) hx (dq tX5_readsValue 36 rfl) rfl (by decide) ?_
      refine g_icmp_lt (n := 72) (t := 81) hx (dq tX5_readsValue 37 rfl) (by decide) rfl (zrI h_17l h_17u (by decide) (by decide)) ⟨by decide, by decide⟩ (fun c_18 => ?_) (fun c_18 => ?_)
      · refine g_aload_n (n := 82) hx 1 (dq tX5_readsValue 43 rfl) rfl rfl ?_
        refine g_dup (n := 83) hx (dq tX5_readsValue 44 rfl) rfl rfl ?_
        refine g_getI (n := 86) hx glX5_20 (sX5_1 (by decide)) (dq tX5_readsValue 45 rfl) rfl (fun h_19l h_19u => ?_)
        refine g_iconst (n := 87) hx (dq tX5_readsValue 46 rfl) rfl ?_
        refine g_iadd (n := 88) hx (dq tX5_readsValue 47 rfl) rfl ?_
        refine g_putI (n := 91) hx plX5_20 (sX5_1 (by decide)) (dq tX5_readsValue 48 rfl) rfl (by omega) (by omega) (fun M_20 m_21e m_21 => ?_)
        have g_22 : Tc M_20 t9 n9 a9 := Tc.frame ex0 (fun c j hcj => m_21 c j (by omega))
        refine g_aload_n (n := 92) hx 1 (dq tX5_readsValue 49 rfl) rfl rfl ?_
        refine g_getR (n := 95) hx glX5_9 (sX5_0 (by decide)) (dq tX5_readsValue 50 rfl) rfl ?_
        have e_23 : M_20 7 1 = M 7 1 := (m_21 7 1 (by omega))
        have e_24 : M_20 7 2 = M 7 2 := (m_21 7 2 (by omega))
        have e_25 : M_20 7 3 = M 7 3 := (m_21 7 3 (by omega))
        have e_26 : M_20 7 4 = M 7 4 := (m_21 7 4 (by omega))
        refine g_callVv (n := 98) (As := []) (rest := []) hx (ctX7_pass2 Γ M_20 t9 n9 (stp t9 n9 a9) (by omega) (by omega) (Tc.tx g_22)) mlX5_39 (obX7 (by decide)) (dq tX5_readsValue 51 rfl) rfl (Nat.le_of_ble_eq_true rfl) (Nat.le_of_ble_eq_true rfl) (Nat.le_of_ble_eq_true rfl) rfl (fun M_28 p_30 => ?_)
        obtain ⟨f_31, g_32, h_33⟩ := p_30
        have g_34 : Tc M_28 t9 n9 (nx t9 n9 a9) := h_33
        refine g_aload_n (n := 99) hx 2 (dq tX5_readsValue 52 rfl) rfl rfl ?_
        refine g_iload_n (n := 100) hx 0 (dq tX5_readsValue 53 rfl) rfl rfl ?_
        have e_35 : M_28 7 1 = M_20 7 1 := (f_31 7 1 (by omega))
        have e_36 : M_28 18 1 = M_20 18 1 := (f_31 18 1 (by omega))
        refine g_callVv (n := 103) (As := [vI z_10]) (rest := []) hx (ctX4_write Γ M_28 g hg z_10 (by omega) (by omega)) mlX5_60 (obX4 hg) (dq tX5_readsValue 54 rfl) rfl (Nat.le_of_ble_eq_true rfl) (Nat.le_of_ble_eq_true rfl) (Nat.le_of_ble_eq_true rfl) rfl (fun M_38 p_40 => ?_)
        have f_41 := p_40
        have g_42 : Tc M_38 t9 n9 (nx t9 n9 a9) := Tc.frame g_34 (fun c j hcj => f_41 c j (by omega))
        refine g_iconst (n := 104) hx (dq tX5_readsValue 55 rfl) rfl ?_
        have e_43 : M_38 7 1 = M_28 7 1 := (f_41 7 1 (by omega))
        have e_44 : M_38 7 2 = M_28 7 2 := (f_41 7 2 (by omega))
        have e_45 : M_38 7 3 = M_28 7 3 := (f_41 7 3 (by omega))
        have e_46 : M_38 7 4 = M_28 7 4 := (f_41 7 4 (by omega))
        have e_47 : M_38 18 1 = M_28 18 1 := (f_41 18 1 (by omega))
        exact g_zret hx hr (dq tX5_readsValue 56 rfl) (by omega) ⟨(fun u_ v_ huv_ => (((f_41 u_ v_ (by omega)).trans (f_31 u_ v_ (by omega))).trans (m_21 u_ v_ (by omega)))), (by omega), (by omega), (Or.inr ⟨rfl, nx t9 n9 a9, M 18 1 + 1, Vf_wd (by omega) (by omega) (by omega), g_42, by omega⟩)⟩
      · refine g_aload_n (n := 73) hx 1 (dq tX5_readsValue 38 rfl) rfl rfl ?_
        refine g_getR (n := 76) hx glX5_9 (sX5_0 (by decide)) (dq tX5_readsValue 39 rfl) rfl ?_
        refine g_iconst (n := 77) hx (dq tX5_readsValue 40 rfl) rfl ?_
        refine g_callVi (n := 80) (As := [vI 3]) (rest := []) hx (ctX7_fails2 Γ M 3 (by decide) (by decide)) mlX5_35 (obX7 (by decide)) (dq tX5_readsValue 41 rfl) rfl (Nat.le_of_ble_eq_true rfl) (Nat.le_of_ble_eq_true rfl) (Nat.le_of_ble_eq_true rfl) rfl (fun z_48 M_49 h_50 p_51 => ?_)
        obtain ⟨f_52, h_53, h_54, h_55⟩ := p_51
        have g_56 : Tc M_49 t9 n9 a9 := Tc.frame ex0 (fun c j hcj => f_52 c j (by omega))
        have e_57 : M_49 7 1 = M 7 1 := (f_52 7 1 (by omega))
        have e_58 : M_49 7 2 = M 7 2 := (f_52 7 2 (by omega))
        have e_59 : M_49 7 3 = M 7 3 := (f_52 7 3 (by omega))
        have e_60 : M_49 7 4 = M 7 4 := (f_52 7 4 (by omega))
        have e_61 : M_49 18 1 = M 18 1 := (f_52 18 1 (by omega))
        exact g_zret hx hr (dq tX5_readsValue 42 rfl) (by omega) ⟨(fun u_ v_ huv_ => (f_52 u_ v_ (by omega))), (by omega), (by omega), (Or.inl ⟨by omega, (Vf_wd3 (by omega) (by omega) (by omega)).trans (er_eq (by omega))⟩)⟩
    · refine g_aload_n (n := 55) hx 1 (dq tX5_readsValue 29 rfl) rfl rfl ?_
      refine g_getR (n := 58) hx glX5_9 (sX5_0 (by decide)) (dq tX5_readsValue 30 rfl) rfl ?_
      refine g_iconst (n := 59) hx (dq tX5_readsValue 31 rfl) rfl ?_
      refine g_callVi (n := 62) (As := [vI 0]) (rest := []) hx (ctX7_fails2 Γ M 0 (by decide) (by decide)) mlX5_35 (obX7 (by decide)) (dq tX5_readsValue 32 rfl) rfl (Nat.le_of_ble_eq_true rfl) (Nat.le_of_ble_eq_true rfl) (Nat.le_of_ble_eq_true rfl) rfl (fun z_62 M_63 h_64 p_65 => ?_)
      obtain ⟨f_66, h_67, h_68, h_69⟩ := p_65
      have g_70 : Tc M_63 t9 n9 a9 := Tc.frame ex0 (fun c j hcj => f_66 c j (by omega))
      have e_71 : M_63 7 1 = M 7 1 := (f_66 7 1 (by omega))
      have e_72 : M_63 7 2 = M 7 2 := (f_66 7 2 (by omega))
      have e_73 : M_63 7 3 = M 7 3 := (f_66 7 3 (by omega))
      have e_74 : M_63 7 4 = M 7 4 := (f_66 7 4 (by omega))
      have e_75 : M_63 18 1 = M 18 1 := (f_66 18 1 (by omega))
      exact g_zret hx hr (dq tX5_readsValue 33 rfl) (by omega) ⟨(fun u_ v_ huv_ => (f_66 u_ v_ (by omega))), (by omega), (by omega), (Or.inl ⟨by omega, (Vf_wdn (by omega) (by omega)).trans (er_eq (by omega))⟩)⟩
  · refine g_aload_n (n := 11) hx 0 (dq tX5_readsValue 4 rfl) rfl rfl ?_
    refine g_getR (n := 14) hx glX5_9 (sX5_0 (by decide)) (dq tX5_readsValue 5 rfl) rfl ?_
    refine g_callVi (n := 17) (As := []) (rest := []) hx (ctX7_number2 Γ M t9 n9 a9 (by omega) ex0) mlX5_93 (obX7 (by decide)) (dq tX5_readsValue 6 rfl) rfl (Nat.le_of_ble_eq_true rfl) (Nat.le_of_ble_eq_true rfl) (Nat.le_of_ble_eq_true rfl) rfl (fun z_76 M_77 h_78 p_79 => ?_)
    obtain ⟨rfl, h_81, h_82, h_83⟩ := p_79
    refine g_istore_n (n := 18) (lv' := [(3, vI z_76), (0, aR Γ 18), (1, aR Γ g)]) hx (dq tX5_readsValue 7 rfl) (by decide) rfl rfl ?_
    refine g_iload_n (n := 19) hx 0 (dq tX5_readsValue 8 rfl) rfl rfl ?_
    refine g_iconst (n := 20) hx (dq tX5_readsValue 9 rfl) rfl ?_
    refine g_icmp_ne (n := 23) (t := 32) hx (dq tX5_readsValue 10 rfl) (by decide) rfl h_78 ⟨by decide, by decide⟩ (fun c_84 => ?_) (fun c_84 => ?_)
    · refine g_iconst (n := 33) hx (dq tX5_readsValue 16 rfl) rfl ?_
      refine g_iload_n (n := 34) hx 0 (dq tX5_readsValue 17 rfl) rfl rfl ?_
      refine g_isub (n := 35) hx (dq tX5_readsValue 18 rfl) rfl ?_
      refine g_istore_n (n := 36) (lv' := [(2, vI ((-1) - z_76)), (3, vI z_76), (0, aR Γ 18), (1, aR Γ g)]) hx (dq tX5_readsValue 19 rfl) (by decide) rfl rfl ?_
      refine g_goto (n := 63) hx (dq tX5_readsValue 20 rfl) (by decide) ?_
      refine g_aload_n (n := 64) hx 2 (dq tX5_readsValue 34 rfl) rfl rfl ?_
      refine g_getI (n := 67) hx glX5_20 (sX5_1 (by decide)) (dq tX5_readsValue 35 rfl) rfl (fun h_85l h_85u => ?_)
      refine g_bipush (n := 69) hx (dq tX5_readsValue 36 rfl) rfl (by decide) ?_
      refine g_icmp_lt (n := 72) (t := 81) hx (dq tX5_readsValue 37 rfl) (by decide) rfl (zrI h_85l h_85u (by decide) (by decide)) ⟨by decide, by decide⟩ (fun c_86 => ?_) (fun c_86 => ?_)
      · refine g_aload_n (n := 82) hx 2 (dq tX5_readsValue 43 rfl) rfl rfl ?_
        refine g_dup (n := 83) hx (dq tX5_readsValue 44 rfl) rfl rfl ?_
        refine g_getI (n := 86) hx glX5_20 (sX5_1 (by decide)) (dq tX5_readsValue 45 rfl) rfl (fun h_87l h_87u => ?_)
        refine g_iconst (n := 87) hx (dq tX5_readsValue 46 rfl) rfl ?_
        refine g_iadd (n := 88) hx (dq tX5_readsValue 47 rfl) rfl ?_
        refine g_putI (n := 91) hx plX5_20 (sX5_1 (by decide)) (dq tX5_readsValue 48 rfl) rfl (by omega) (by omega) (fun M_88 m_89e m_89 => ?_)
        have g_90 : Tc M_88 t9 n9 a9 := Tc.frame ex0 (fun c j hcj => m_89 c j (by omega))
        refine g_aload_n (n := 92) hx 2 (dq tX5_readsValue 49 rfl) rfl rfl ?_
        refine g_getR (n := 95) hx glX5_9 (sX5_0 (by decide)) (dq tX5_readsValue 50 rfl) rfl ?_
        have e_91 : M_88 7 1 = M 7 1 := (m_89 7 1 (by omega))
        have e_92 : M_88 7 2 = M 7 2 := (m_89 7 2 (by omega))
        have e_93 : M_88 7 3 = M 7 3 := (m_89 7 3 (by omega))
        have e_94 : M_88 7 4 = M 7 4 := (m_89 7 4 (by omega))
        refine g_callVv (n := 98) (As := []) (rest := []) hx (ctX7_pass2 Γ M_88 t9 n9 (stp t9 n9 a9) (by omega) (by omega) (Tc.tx g_90)) mlX5_39 (obX7 (by decide)) (dq tX5_readsValue 51 rfl) rfl (Nat.le_of_ble_eq_true rfl) (Nat.le_of_ble_eq_true rfl) (Nat.le_of_ble_eq_true rfl) rfl (fun M_96 p_98 => ?_)
        obtain ⟨f_99, g_100, h_101⟩ := p_98
        have g_102 : Tc M_96 t9 n9 (nx t9 n9 a9) := h_101
        refine g_aload_n (n := 99) hx 3 (dq tX5_readsValue 52 rfl) rfl rfl ?_
        refine g_iload_n (n := 100) hx 0 (dq tX5_readsValue 53 rfl) rfl rfl ?_
        have e_103 : M_96 7 1 = M_88 7 1 := (f_99 7 1 (by omega))
        have e_104 : M_96 18 1 = M_88 18 1 := (f_99 18 1 (by omega))
        refine g_callVv (n := 103) (As := [vI ((-1) - z_76)]) (rest := []) hx (ctX4_write Γ M_96 g hg ((-1) - z_76) (by omega) (by omega)) mlX5_60 (obX4 hg) (dq tX5_readsValue 54 rfl) rfl (Nat.le_of_ble_eq_true rfl) (Nat.le_of_ble_eq_true rfl) (Nat.le_of_ble_eq_true rfl) rfl (fun M_106 p_108 => ?_)
        have f_109 := p_108
        have g_110 : Tc M_106 t9 n9 (nx t9 n9 a9) := Tc.frame g_102 (fun c j hcj => f_109 c j (by omega))
        refine g_iconst (n := 104) hx (dq tX5_readsValue 55 rfl) rfl ?_
        have e_111 : M_106 7 1 = M_96 7 1 := (f_109 7 1 (by omega))
        have e_112 : M_106 7 2 = M_96 7 2 := (f_109 7 2 (by omega))
        have e_113 : M_106 7 3 = M_96 7 3 := (f_109 7 3 (by omega))
        have e_114 : M_106 7 4 = M_96 7 4 := (f_109 7 4 (by omega))
        have e_115 : M_106 18 1 = M_96 18 1 := (f_109 18 1 (by omega))
        exact g_zret hx hr (dq tX5_readsValue 56 rfl) (by omega) ⟨(fun u_ v_ huv_ => (((f_109 u_ v_ (by omega)).trans (f_99 u_ v_ (by omega))).trans (m_89 u_ v_ (by omega)))), (by omega), (by omega), (Or.inr ⟨rfl, nx t9 n9 a9, M 18 1 + 1, Vf_dig (by omega) (by omega) (by omega), g_110, by omega⟩)⟩
      · refine g_aload_n (n := 73) hx 2 (dq tX5_readsValue 38 rfl) rfl rfl ?_
        refine g_getR (n := 76) hx glX5_9 (sX5_0 (by decide)) (dq tX5_readsValue 39 rfl) rfl ?_
        refine g_iconst (n := 77) hx (dq tX5_readsValue 40 rfl) rfl ?_
        refine g_callVi (n := 80) (As := [vI 3]) (rest := []) hx (ctX7_fails2 Γ M 3 (by decide) (by decide)) mlX5_35 (obX7 (by decide)) (dq tX5_readsValue 41 rfl) rfl (Nat.le_of_ble_eq_true rfl) (Nat.le_of_ble_eq_true rfl) (Nat.le_of_ble_eq_true rfl) rfl (fun z_116 M_117 h_118 p_119 => ?_)
        obtain ⟨f_120, h_121, h_122, h_123⟩ := p_119
        have g_124 : Tc M_117 t9 n9 a9 := Tc.frame ex0 (fun c j hcj => f_120 c j (by omega))
        have e_125 : M_117 7 1 = M 7 1 := (f_120 7 1 (by omega))
        have e_126 : M_117 7 2 = M 7 2 := (f_120 7 2 (by omega))
        have e_127 : M_117 7 3 = M 7 3 := (f_120 7 3 (by omega))
        have e_128 : M_117 7 4 = M 7 4 := (f_120 7 4 (by omega))
        have e_129 : M_117 18 1 = M 18 1 := (f_120 18 1 (by omega))
        exact g_zret hx hr (dq tX5_readsValue 42 rfl) (by omega) ⟨(fun u_ v_ huv_ => (f_120 u_ v_ (by omega))), (by omega), (by omega), (Or.inl ⟨by omega, (Vf_dig3 (by omega) (by omega) (by omega)).trans (er_eq (by omega))⟩)⟩
    · refine g_aload_n (n := 24) hx 1 (dq tX5_readsValue 11 rfl) rfl rfl ?_
      refine g_getR (n := 27) hx glX5_9 (sX5_0 (by decide)) (dq tX5_readsValue 12 rfl) rfl ?_
      refine g_iconst (n := 28) hx (dq tX5_readsValue 13 rfl) rfl ?_
      refine g_callVi (n := 31) (As := [vI 1]) (rest := []) hx (ctX7_fails2 Γ M 1 (by decide) (by decide)) mlX5_35 (obX7 (by decide)) (dq tX5_readsValue 14 rfl) rfl (Nat.le_of_ble_eq_true rfl) (Nat.le_of_ble_eq_true rfl) (Nat.le_of_ble_eq_true rfl) rfl (fun z_130 M_131 h_132 p_133 => ?_)
      obtain ⟨f_134, h_135, h_136, h_137⟩ := p_133
      have g_138 : Tc M_131 t9 n9 a9 := Tc.frame ex0 (fun c j hcj => f_134 c j (by omega))
      have e_139 : M_131 7 1 = M 7 1 := (f_134 7 1 (by omega))
      have e_140 : M_131 7 2 = M 7 2 := (f_134 7 2 (by omega))
      have e_141 : M_131 7 3 = M 7 3 := (f_134 7 3 (by omega))
      have e_142 : M_131 7 4 = M 7 4 := (f_134 7 4 (by omega))
      have e_143 : M_131 18 1 = M 18 1 := (f_134 18 1 (by omega))
      exact g_zret hx hr (dq tX5_readsValue 15 rfl) (by omega) ⟨(fun u_ v_ huv_ => (f_134 u_ v_ (by omega))), (by omega), (by omega), (Or.inl ⟨by omega, (Vf_digl (by omega) (by omega)).trans (er_eq (by omega))⟩)⟩

abbrev qctX5_readsSum2 (M : zM) (g : Nat) (t9 : Nat → Int) (n9 : Nat) (a9 : Nat) (z : Int) (M' : zM) : Prop := (∀ u_ v_, (u_ ≠ 7 ∨ v_ ≠ 2) ∧ (u_ ≠ 7 ∨ v_ ≠ 3) ∧ (u_ ≠ 7 ∨ v_ ≠ 4) ∧ (u_ ≠ 7 ∨ v_ ≠ 5) ∧ (u_ ≠ 18 ∨ v_ ≠ 1) ∧ (u_ ≠ g ∨ v_ ≠ 1) ∧ (u_ ≠ g ∨ v_ ≠ 2) ∧ (u_ ≠ g ∨ v_ ≠ 3) ∧ u_ ≠ g + 1 → M' u_ v_ = M u_ v_) ∧ 0 ≤ z ∧ z ≤ 1 ∧ (Rz M' t9 n9 z (Sf t9 n9 61 a9 (M 18 1)))
set_option maxHeartbeats 4000000 in
set_option maxRecDepth 100000 in
theorem ctX5_readsSum2 (Γ : Gam) (M : zM) (g : Nat) (hg : isX4 g) (t9 : Nat → Int) (n9 : Nat) (a9 : Nat) (ex0 : Tc M t9 n9 a9) : CtI Γ yX5_readsSum cX5_readsSum 5 (some .boolean) 6 133 [aR Γ 18, aR Γ g] M (qctX5_readsSum2 M g t9 n9 a9) := by
  refine met_i (by decide) (Nat.le_of_ble_eq_true rfl) (fun x hx hr => ?_)
  show G Γ x 5 (QI Γ x (qctX5_readsSum2 M g t9 n9 a9)) M 0 [(0, aR Γ 18), (1, aR Γ g)] []
  have ht_at := Tc.at ex0
  have ht_fst := Tc.fst ex0
  have ht_le := Tc.le ex0
  have ht_stop := Tc.stop ex0
  have ht_sle := Tc.sle ex0
  have ht_n := (Tc.tx ex0).1
  have ht_r := stp_le t9 n9 a9 ht_le
  have hw31 : wiR t9 a9 ((stp t9 n9 a9 : Int) - a9) 31 = wix t9 n9 a9 wVal 0 := wR31 ht_le
  refine g_iv (fun hI0 => ?_)
  have hI_c : (0 : Int) ≤ M 18 1 ∧ M 18 1 ≤ 60 := hI0 18 1
  clear hI0
  refine g_iconst (n := 1) hx (dq tX5_readsSum 0 rfl) rfl ?_
  refine g_istore_n (n := 2) (lv' := [(2, vI (-1)), (0, aR Γ 18), (1, aR Γ g)]) hx (dq tX5_readsSum 1 rfl) (by decide) rfl rfl ?_
  refine g_iconst (n := 3) hx (dq tX5_readsSum 2 rfl) rfl ?_
  refine g_istore_n (n := 4) (lv' := [(3, vI (-1)), (2, vI (-1)), (0, aR Γ 18), (1, aR Γ g)]) hx (dq tX5_readsSum 3 rfl) (by decide) rfl rfl ?_
  refine g_iconst (n := 5) hx (dq tX5_readsSum 4 rfl) rfl ?_
  refine g_istore (n := 7) (lv' := [(4, vI 0), (3, vI (-1)), (2, vI (-1)), (0, aR Γ 18), (1, aR Γ g)]) hx (dq tX5_readsSum 5 rfl) (by decide) rfl rfl ?_
  have L_5 : ∀ (n_ : Nat) (i_1 : Int) (i_2 : Int) (i_3 : Int) (M_4 : zM), (0 ≤ i_1) → (i_1 ≤ 61) → ((-1) ≤ i_2) → (i_2 ≤ 40) → ((-1) ≤ i_3) → (i_3 ≤ 40) → (∀ u_ v_, (u_ ≠ 7 ∨ v_ ≠ 2) ∧ (u_ ≠ 7 ∨ v_ ≠ 3) ∧ (u_ ≠ 7 ∨ v_ ≠ 4) ∧ (u_ ≠ 7 ∨ v_ ≠ 5) ∧ (u_ ≠ 18 ∨ v_ ≠ 1) ∧ (u_ ≠ g ∨ v_ ≠ 1) ∧ (u_ ≠ g ∨ v_ ≠ 2) ∧ (u_ ≠ g ∨ v_ ≠ 3) ∧ u_ ≠ g + 1 → M_4 u_ v_ = M u_ v_) → (Tc M_4 t9 n9 (M_4 7 2).toNat) → (Sf t9 n9 (61 - i_1).toNat (M_4 7 2).toNat (M_4 18 1) = Sf t9 n9 61 a9 (M 18 1)) → ((61 - i_1).toNat = n_) → G Γ x 5 (QI Γ x (qctX5_readsSum2 M g t9 n9 a9)) M_4 7 [(4, vI i_1), (3, vI i_2), (2, vI i_3), (0, aR Γ 18), (1, aR Γ g)] [] := by
    intro n_
    induction n_ using Nat.strongRecOn with
    | _ n_ ih_6 =>
      intro i_1 i_2 i_3 M_4 h_11 h_12 h_13 h_14 h_15 h_16 f_7 h_9 h_10 hm_8
      have h_17 := Tc.fst h_9
      have h_18 := Tc.le h_9
      have h_19 := Tc.at h_9
      refine g_iload (n := 9) hx 0 (dq tX5_readsSum 6 rfl) rfl rfl ?_
      refine g_bipush (n := 11) hx (dq tX5_readsSum 7 rfl) rfl (by decide) ?_
      refine g_icmp_ge (n := 14) (t := 158) hx (dq tX5_readsSum 8 rfl) (by decide) rfl ⟨by omega, by omega⟩ ⟨by decide, by decide⟩ (fun c_20 => ?_) (fun c_20 => ?_)
      · refine g_aload_n (n := 159) hx 3 (dq tX5_readsSum 79 rfl) rfl rfl ?_
        refine g_getR (n := 162) hx glX5_9 (sX5_0 (by decide)) (dq tX5_readsSum 80 rfl) rfl ?_
        refine g_iconst (n := 163) hx (dq tX5_readsSum 81 rfl) rfl ?_
        have e_21 : M_4 7 1 = M 7 1 := (f_7 7 1 (by omega))
        refine g_callVi (n := 166) (As := [vI 0]) (rest := []) hx (ctX7_fails2 Γ M_4 0 (by decide) (by decide)) mlX5_35 (obX7 (by decide)) (dq tX5_readsSum 82 rfl) rfl (Nat.le_of_ble_eq_true rfl) (Nat.le_of_ble_eq_true rfl) (Nat.le_of_ble_eq_true rfl) rfl (fun z_22 M_23 h_24 p_25 => ?_)
        obtain ⟨f_26, h_27, h_28, h_29⟩ := p_25
        have g_30 : Tc M_23 t9 n9 ((M_4 7 2).toNat) := Tc.frame h_9 (fun c j hcj => f_26 c j (by omega))
        have e_31 : M_23 7 1 = M_4 7 1 := (f_26 7 1 (by omega))
        have e_32 : M_23 7 2 = M_4 7 2 := (f_26 7 2 (by omega))
        have e_33 : M_23 7 3 = M_4 7 3 := (f_26 7 3 (by omega))
        have e_34 : M_23 7 4 = M_4 7 4 := (f_26 7 4 (by omega))
        have e_35 : M_23 18 1 = M_4 18 1 := (f_26 18 1 (by omega))
        exact g_zret hx hr (dq tX5_readsSum 83 rfl) (by omega) ⟨(fun u_ v_ huv_ => ((f_26 u_ v_ (by omega)).trans (f_7 u_ v_ (by omega)))), (by omega), (by omega), (Or.inl ⟨by omega, (Sf_out h_10 (by omega)).trans (er_eq (by omega))⟩)⟩
      · refine g_aload_n (n := 15) hx 3 (dq tX5_readsSum 9 rfl) rfl rfl ?_
        refine g_aload_n (n := 16) hx 4 (dq tX5_readsSum 10 rfl) rfl rfl ?_
        have e_36 : M_4 7 1 = M 7 1 := (f_7 7 1 (by omega))
        refine g_callVi (n := 19) (As := [aR Γ g]) (rest := []) hx (ctX5_readsValue2 Γ M_4 g hg t9 n9 ((M_4 7 2).toNat) h_9) mlX5_87 (obX5 (by decide)) (dq tX5_readsSum 11 rfl) rfl (Nat.le_of_ble_eq_true rfl) (Nat.le_of_ble_eq_true rfl) (Nat.le_of_ble_eq_true rfl) rfl (fun z_37 M_38 h_39 p_40 => ?_)
        obtain ⟨f_41, h_42, h_43, h_44⟩ := p_40
        refine g_if_ne (n := 22) (t := 24) hx (dq tX5_readsSum 12 rfl) (by decide) rfl h_39 (fun c_45 => ?_) (fun c_45 => ?_)
        · obtain ⟨y_46a, y_46c, y_46e, y_46t, y_46k⟩ := Rz.yes h_44 (by omega)
          refine g_iload_n (n := 25) hx 2 (dq tX5_readsSum 15 rfl) rfl rfl ?_
          refine g_iconst (n := 26) hx (dq tX5_readsSum 16 rfl) rfl ?_
          refine g_icmp_eq (n := 29) (t := 34) hx (dq tX5_readsSum 17 rfl) (by decide) rfl ⟨by omega, by omega⟩ ⟨by decide, by decide⟩ (fun c_47 => ?_) (fun c_47 => ?_)
          · have e_48 : M_38 7 1 = M_4 7 1 := (f_41 7 1 (by omega))
            have h_49 := Tc.fst y_46t
            have h_50 := Tc.le y_46t
            have h_51 := Tc.stop y_46t
            have h_52 := Tc.sle y_46t
            have h_53 := Tc.at y_46t
            have h_54 := (Tc.tx y_46t).1
            refine g_aload_n (n := 35) hx 3 (dq tX5_readsSum 21 rfl) rfl rfl ?_
            refine g_getR (n := 38) hx glX5_9 (sX5_0 (by decide)) (dq tX5_readsSum 22 rfl) rfl ?_
            refine g_getI (n := 41) hx glX5_67 (sX7_4 (by decide)) (dq tX5_readsSum 23 rfl) rfl (fun h_55l h_55u => ?_)
            refine g_bipush (n := 43) hx (dq tX5_readsSum 24 rfl) rfl (by decide) ?_
            refine g_icmp_ne (n := 46) (t := 51) hx (dq tX5_readsSum 25 rfl) (by decide) rfl (zrI h_55l h_55u (by decide) (by decide)) ⟨by decide, by decide⟩ (fun c_56 => ?_) (fun c_56 => ?_)
            · refine g_aload_n (n := 52) hx 3 (dq tX5_readsSum 28 rfl) rfl rfl ?_
              refine g_getR (n := 55) hx glX5_9 (sX5_0 (by decide)) (dq tX5_readsSum 29 rfl) rfl ?_
              refine g_getI (n := 58) hx glX5_67 (sX7_4 (by decide)) (dq tX5_readsSum 30 rfl) rfl (fun h_57l h_57u => ?_)
              refine g_bipush (n := 60) hx (dq tX5_readsSum 31 rfl) rfl (by decide) ?_
              refine g_icmp_ne (n := 63) (t := 68) hx (dq tX5_readsSum 32 rfl) (by decide) rfl (zrI h_57l h_57u (by decide) (by decide)) ⟨by decide, by decide⟩ (fun c_58 => ?_) (fun c_58 => ?_)
              · refine g_aload_n (n := 69) hx 3 (dq tX5_readsSum 35 rfl) rfl rfl ?_
                refine g_getR (n := 72) hx glX5_9 (sX5_0 (by decide)) (dq tX5_readsSum 36 rfl) rfl ?_
                refine g_getI (n := 75) hx glX5_67 (sX7_4 (by decide)) (dq tX5_readsSum 37 rfl) rfl (fun h_59l h_59u => ?_)
                refine g_bipush (n := 77) hx (dq tX5_readsSum 38 rfl) rfl (by decide) ?_
                refine g_icmp_ne (n := 80) (t := 85) hx (dq tX5_readsSum 39 rfl) (by decide) rfl (zrI h_59l h_59u (by decide) (by decide)) ⟨by decide, by decide⟩ (fun c_60 => ?_) (fun c_60 => ?_)
                · refine g_iconst (n := 86) hx (dq tX5_readsSum 42 rfl) rfl ?_
                  refine g_istore_n (n := 87) (lv' := [(2, vI (-1)), (4, vI i_1), (3, vI i_2), (0, aR Γ 18), (1, aR Γ g)]) hx (dq tX5_readsSum 43 rfl) (by decide) rfl rfl ?_
                  refine g_iload_n (n := 88) hx 0 (dq tX5_readsSum 44 rfl) rfl rfl ?_
                  refine g_iconst (n := 89) hx (dq tX5_readsSum 45 rfl) rfl ?_
                  refine g_icmp_ne (n := 92) (t := 145) hx (dq tX5_readsSum 46 rfl) (by decide) rfl ⟨by decide, by decide⟩ ⟨by decide, by decide⟩ (fun c_61 => ?_) (fun c_61 => ?_)
                  · omega
                  · refine g_iload_n (n := 93) hx 2 (dq tX5_readsSum 47 rfl) rfl rfl ?_
                    refine g_iconst (n := 94) hx (dq tX5_readsSum 48 rfl) rfl ?_
                    refine g_icmp_eq (n := 97) (t := 102) hx (dq tX5_readsSum 49 rfl) (by decide) rfl ⟨by omega, by omega⟩ ⟨by decide, by decide⟩ (fun c_62 => ?_) (fun c_62 => ?_)
                    · refine g_aload_n (n := 103) hx 3 (dq tX5_readsSum 53 rfl) rfl rfl ?_
                      refine g_getR (n := 106) hx glX5_9 (sX5_0 (by decide)) (dq tX5_readsSum 54 rfl) rfl ?_
                      refine g_getI (n := 109) hx glX5_67 (sX7_4 (by decide)) (dq tX5_readsSum 55 rfl) rfl (fun h_63l h_63u => ?_)
                      refine g_bipush (n := 111) hx (dq tX5_readsSum 56 rfl) rfl (by decide) ?_
                      refine g_icmp_ne (n := 114) (t := 119) hx (dq tX5_readsSum 57 rfl) (by decide) rfl (zrI h_63l h_63u (by decide) (by decide)) ⟨by decide, by decide⟩ (fun c_64 => ?_) (fun c_64 => ?_)
                      · refine g_aload_n (n := 120) hx 3 (dq tX5_readsSum 60 rfl) rfl rfl ?_
                        refine g_getR (n := 123) hx glX5_9 (sX5_0 (by decide)) (dq tX5_readsSum 61 rfl) rfl ?_
                        refine g_getI (n := 126) hx glX5_67 (sX7_4 (by decide)) (dq tX5_readsSum 62 rfl) rfl (fun h_65l h_65u => ?_)
                        refine g_bipush (n := 128) hx (dq tX5_readsSum 63 rfl) rfl (by decide) ?_
                        refine g_icmp_ne (n := 131) (t := 136) hx (dq tX5_readsSum 64 rfl) (by decide) rfl (zrI h_65l h_65u (by decide) (by decide)) ⟨by decide, by decide⟩ (fun c_66 => ?_) (fun c_66 => ?_)
                        · refine g_iconst (n := 137) hx (dq tX5_readsSum 67 rfl) rfl ?_
                          refine g_istore_n (n := 138) (lv' := [(3, vI (-1)), (2, vI (-1)), (4, vI i_1), (0, aR Γ 18), (1, aR Γ g)]) hx (dq tX5_readsSum 68 rfl) (by decide) rfl rfl ?_
                          refine g_iload_n (n := 139) hx 0 (dq tX5_readsSum 69 rfl) rfl rfl ?_
                          refine g_iconst (n := 140) hx (dq tX5_readsSum 70 rfl) rfl ?_
                          refine g_icmp_ne (n := 143) (t := 145) hx (dq tX5_readsSum 71 rfl) (by decide) rfl ⟨by decide, by decide⟩ ⟨by decide, by decide⟩ (fun c_67 => ?_) (fun c_67 => ?_)
                          · omega
                          · refine g_iconst (n := 144) hx (dq tX5_readsSum 72 rfl) rfl ?_
                            exact g_zret hx hr (dq tX5_readsSum 73 rfl) (by omega) ⟨(fun u_ v_ huv_ => ((f_41 u_ v_ (by omega)).trans (f_7 u_ v_ (by omega)))), (by omega), (by omega), (Or.inr ⟨rfl, y_46a, y_46c, Sf_end (f := (60 - i_1).toNat) h_10 (by omega) y_46e (by omega), y_46t, by omega⟩)⟩
                        · refine g_bipush (n := 133) hx (dq tX5_readsSum 65 rfl) rfl (by decide) ?_
                          refine g_goto (n := 137) hx (dq tX5_readsSum 66 rfl) (by decide) ?_
                          refine g_istore_n (n := 138) (lv' := [(3, vI 17), (2, vI (-1)), (4, vI i_1), (0, aR Γ 18), (1, aR Γ g)]) hx (dq tX5_readsSum 68 rfl) (by decide) rfl rfl ?_
                          refine g_iload_n (n := 139) hx 0 (dq tX5_readsSum 69 rfl) rfl rfl ?_
                          refine g_iconst (n := 140) hx (dq tX5_readsSum 70 rfl) rfl ?_
                          refine g_icmp_ne (n := 143) (t := 145) hx (dq tX5_readsSum 71 rfl) (by decide) rfl ⟨by decide, by decide⟩ ⟨by decide, by decide⟩ (fun c_68 => ?_) (fun c_68 => ?_)
                          · have h_69 := Tc.fst y_46t
                            have h_70 := Tc.le y_46t
                            have h_71 := Tc.stop y_46t
                            have h_72 := Tc.sle y_46t
                            have h_73 := Tc.at y_46t
                            have h_74 := (Tc.tx y_46t).1
                            refine g_aload_n (n := 146) hx 3 (dq tX5_readsSum 74 rfl) rfl rfl ?_
                            refine g_getR (n := 149) hx glX5_9 (sX5_0 (by decide)) (dq tX5_readsSum 75 rfl) rfl ?_
                            refine g_callVv (n := 152) (As := []) (rest := []) hx (ctX7_pass2 Γ M_38 t9 n9 (stp t9 n9 y_46a) (by omega) (by omega) (Tc.tx y_46t)) mlX5_39 (obX7 (by decide)) (dq tX5_readsSum 76 rfl) rfl (Nat.le_of_ble_eq_true rfl) (Nat.le_of_ble_eq_true rfl) (Nat.le_of_ble_eq_true rfl) rfl (fun M_76 p_78 => ?_)
                            obtain ⟨f_79, g_80, h_81⟩ := p_78
                            have g_82 : Tc M_76 t9 n9 (nx t9 n9 y_46a) := h_81
                            refine g_iinc (n := 155) (lv' := [(4, vI (i_1 + 1)), (3, vI 17), (2, vI (-1)), (0, aR Γ 18), (1, aR Γ g)]) hx 2 (dq tX5_readsSum 77 rfl) rfl (by decide) rfl rfl ?_
                            refine g_goto (n := 7) hx (dq tX5_readsSum 78 rfl) (by decide) ?_
                            have e_83 : M_76 7 1 = M_38 7 1 := (f_79 7 1 (by omega))
                            have e_84 : M_76 18 1 = M_38 18 1 := (f_79 18 1 (by omega))
                            exact ih_6 _ (by omega) (i_1 + 1) 17 (-1) M_76 (by omega) (by omega) (by omega) (by omega) (by omega) (by omega) (fun u_ v_ huv_ => (((f_79 u_ v_ (by omega)).trans (f_41 u_ v_ (by omega))).trans (f_7 u_ v_ (by omega)))) (by have w1 := Tc.at g_82; rw [show (M_76 7 2).toNat = nx t9 n9 y_46a by omega]; exact g_82) (by have w1 := Tc.at g_82; exact Sf_on h_10 (by omega) y_46e (by omega) (by omega) (by omega)) rfl
                          · omega
                      · refine g_bipush (n := 116) hx (dq tX5_readsSum 58 rfl) rfl (by decide) ?_
                        refine g_goto (n := 137) hx (dq tX5_readsSum 59 rfl) (by decide) ?_
                        refine g_istore_n (n := 138) (lv' := [(3, vI 16), (2, vI (-1)), (4, vI i_1), (0, aR Γ 18), (1, aR Γ g)]) hx (dq tX5_readsSum 68 rfl) (by decide) rfl rfl ?_
                        refine g_iload_n (n := 139) hx 0 (dq tX5_readsSum 69 rfl) rfl rfl ?_
                        refine g_iconst (n := 140) hx (dq tX5_readsSum 70 rfl) rfl ?_
                        refine g_icmp_ne (n := 143) (t := 145) hx (dq tX5_readsSum 71 rfl) (by decide) rfl ⟨by decide, by decide⟩ ⟨by decide, by decide⟩ (fun c_85 => ?_) (fun c_85 => ?_)
                        · have h_86 := Tc.fst y_46t
                          have h_87 := Tc.le y_46t
                          have h_88 := Tc.stop y_46t
                          have h_89 := Tc.sle y_46t
                          have h_90 := Tc.at y_46t
                          have h_91 := (Tc.tx y_46t).1
                          refine g_aload_n (n := 146) hx 3 (dq tX5_readsSum 74 rfl) rfl rfl ?_
                          refine g_getR (n := 149) hx glX5_9 (sX5_0 (by decide)) (dq tX5_readsSum 75 rfl) rfl ?_
                          refine g_callVv (n := 152) (As := []) (rest := []) hx (ctX7_pass2 Γ M_38 t9 n9 (stp t9 n9 y_46a) (by omega) (by omega) (Tc.tx y_46t)) mlX5_39 (obX7 (by decide)) (dq tX5_readsSum 76 rfl) rfl (Nat.le_of_ble_eq_true rfl) (Nat.le_of_ble_eq_true rfl) (Nat.le_of_ble_eq_true rfl) rfl (fun M_93 p_95 => ?_)
                          obtain ⟨f_96, g_97, h_98⟩ := p_95
                          have g_99 : Tc M_93 t9 n9 (nx t9 n9 y_46a) := h_98
                          refine g_iinc (n := 155) (lv' := [(4, vI (i_1 + 1)), (3, vI 16), (2, vI (-1)), (0, aR Γ 18), (1, aR Γ g)]) hx 2 (dq tX5_readsSum 77 rfl) rfl (by decide) rfl rfl ?_
                          refine g_goto (n := 7) hx (dq tX5_readsSum 78 rfl) (by decide) ?_
                          have e_100 : M_93 7 1 = M_38 7 1 := (f_96 7 1 (by omega))
                          have e_101 : M_93 18 1 = M_38 18 1 := (f_96 18 1 (by omega))
                          exact ih_6 _ (by omega) (i_1 + 1) 16 (-1) M_93 (by omega) (by omega) (by omega) (by omega) (by omega) (by omega) (fun u_ v_ huv_ => (((f_96 u_ v_ (by omega)).trans (f_41 u_ v_ (by omega))).trans (f_7 u_ v_ (by omega)))) (by have w1 := Tc.at g_99; rw [show (M_93 7 2).toNat = nx t9 n9 y_46a by omega]; exact g_99) (by have w1 := Tc.at g_99; exact Sf_on h_10 (by omega) y_46e (by omega) (by omega) (by omega)) rfl
                        · omega
                    · refine g_aload_n (n := 98) hx 4 (dq tX5_readsSum 50 rfl) rfl rfl ?_
                      refine g_iload_n (n := 99) hx 2 (dq tX5_readsSum 51 rfl) rfl rfl ?_
                      refine g_callVv (n := 102) (As := [vI i_2]) (rest := []) hx (ctX4_write Γ M_38 g hg i_2 (by omega) (by omega)) mlX5_60 (obX4 hg) (dq tX5_readsSum 52 rfl) rfl (Nat.le_of_ble_eq_true rfl) (Nat.le_of_ble_eq_true rfl) (Nat.le_of_ble_eq_true rfl) rfl (fun M_103 p_105 => ?_)
                      have f_106 := p_105
                      have g_107 : Tc M_103 t9 n9 y_46a := Tc.frame y_46t (fun c j hcj => f_106 c j (by omega))
                      refine g_aload_n (n := 103) hx 3 (dq tX5_readsSum 53 rfl) rfl rfl ?_
                      refine g_getR (n := 106) hx glX5_9 (sX5_0 (by decide)) (dq tX5_readsSum 54 rfl) rfl ?_
                      refine g_getI (n := 109) hx glX5_67 (sX7_4 (by decide)) (dq tX5_readsSum 55 rfl) rfl (fun h_108l h_108u => ?_)
                      have e_109 : M_103 7 4 = M_38 7 4 := (f_106 7 4 (by omega))
                      refine g_bipush (n := 111) hx (dq tX5_readsSum 56 rfl) rfl (by decide) ?_
                      refine g_icmp_ne (n := 114) (t := 119) hx (dq tX5_readsSum 57 rfl) (by decide) rfl (zrI h_108l h_108u (by decide) (by decide)) ⟨by decide, by decide⟩ (fun c_110 => ?_) (fun c_110 => ?_)
                      · refine g_aload_n (n := 120) hx 3 (dq tX5_readsSum 60 rfl) rfl rfl ?_
                        refine g_getR (n := 123) hx glX5_9 (sX5_0 (by decide)) (dq tX5_readsSum 61 rfl) rfl ?_
                        refine g_getI (n := 126) hx glX5_67 (sX7_4 (by decide)) (dq tX5_readsSum 62 rfl) rfl (fun h_111l h_111u => ?_)
                        refine g_bipush (n := 128) hx (dq tX5_readsSum 63 rfl) rfl (by decide) ?_
                        refine g_icmp_ne (n := 131) (t := 136) hx (dq tX5_readsSum 64 rfl) (by decide) rfl (zrI h_111l h_111u (by decide) (by decide)) ⟨by decide, by decide⟩ (fun c_112 => ?_) (fun c_112 => ?_)
                        · refine g_iconst (n := 137) hx (dq tX5_readsSum 67 rfl) rfl ?_
                          refine g_istore_n (n := 138) (lv' := [(3, vI (-1)), (2, vI (-1)), (4, vI i_1), (0, aR Γ 18), (1, aR Γ g)]) hx (dq tX5_readsSum 68 rfl) (by decide) rfl rfl ?_
                          refine g_iload_n (n := 139) hx 0 (dq tX5_readsSum 69 rfl) rfl rfl ?_
                          refine g_iconst (n := 140) hx (dq tX5_readsSum 70 rfl) rfl ?_
                          refine g_icmp_ne (n := 143) (t := 145) hx (dq tX5_readsSum 71 rfl) (by decide) rfl ⟨by decide, by decide⟩ ⟨by decide, by decide⟩ (fun c_113 => ?_) (fun c_113 => ?_)
                          · omega
                          · refine g_iconst (n := 144) hx (dq tX5_readsSum 72 rfl) rfl ?_
                            have e_114 : M_103 7 1 = M_38 7 1 := (f_106 7 1 (by omega))
                            have e_115 : M_103 7 2 = M_38 7 2 := (f_106 7 2 (by omega))
                            have e_116 : M_103 7 3 = M_38 7 3 := (f_106 7 3 (by omega))
                            have e_117 : M_103 18 1 = M_38 18 1 := (f_106 18 1 (by omega))
                            exact g_zret hx hr (dq tX5_readsSum 73 rfl) (by omega) ⟨(fun u_ v_ huv_ => (((f_106 u_ v_ (by omega)).trans (f_41 u_ v_ (by omega))).trans (f_7 u_ v_ (by omega)))), (by omega), (by omega), (Or.inr ⟨rfl, y_46a, y_46c, Sf_end (f := (60 - i_1).toNat) h_10 (by omega) y_46e (by omega), g_107, by omega⟩)⟩
                        · refine g_bipush (n := 133) hx (dq tX5_readsSum 65 rfl) rfl (by decide) ?_
                          refine g_goto (n := 137) hx (dq tX5_readsSum 66 rfl) (by decide) ?_
                          refine g_istore_n (n := 138) (lv' := [(3, vI 17), (2, vI (-1)), (4, vI i_1), (0, aR Γ 18), (1, aR Γ g)]) hx (dq tX5_readsSum 68 rfl) (by decide) rfl rfl ?_
                          refine g_iload_n (n := 139) hx 0 (dq tX5_readsSum 69 rfl) rfl rfl ?_
                          refine g_iconst (n := 140) hx (dq tX5_readsSum 70 rfl) rfl ?_
                          refine g_icmp_ne (n := 143) (t := 145) hx (dq tX5_readsSum 71 rfl) (by decide) rfl ⟨by decide, by decide⟩ ⟨by decide, by decide⟩ (fun c_118 => ?_) (fun c_118 => ?_)
                          · have e_119 : M_103 7 1 = M_38 7 1 := (f_106 7 1 (by omega))
                            have e_120 : M_103 7 2 = M_38 7 2 := (f_106 7 2 (by omega))
                            have e_121 : M_103 7 3 = M_38 7 3 := (f_106 7 3 (by omega))
                            have e_122 : M_103 18 1 = M_38 18 1 := (f_106 18 1 (by omega))
                            have h_123 := Tc.fst g_107
                            have h_124 := Tc.le g_107
                            have h_125 := Tc.stop g_107
                            have h_126 := Tc.sle g_107
                            have h_127 := Tc.at g_107
                            have h_128 := (Tc.tx g_107).1
                            refine g_aload_n (n := 146) hx 3 (dq tX5_readsSum 74 rfl) rfl rfl ?_
                            refine g_getR (n := 149) hx glX5_9 (sX5_0 (by decide)) (dq tX5_readsSum 75 rfl) rfl ?_
                            refine g_callVv (n := 152) (As := []) (rest := []) hx (ctX7_pass2 Γ M_103 t9 n9 (stp t9 n9 y_46a) (by omega) (by omega) (Tc.tx g_107)) mlX5_39 (obX7 (by decide)) (dq tX5_readsSum 76 rfl) rfl (Nat.le_of_ble_eq_true rfl) (Nat.le_of_ble_eq_true rfl) (Nat.le_of_ble_eq_true rfl) rfl (fun M_130 p_132 => ?_)
                            obtain ⟨f_133, g_134, h_135⟩ := p_132
                            have g_136 : Tc M_130 t9 n9 (nx t9 n9 y_46a) := h_135
                            refine g_iinc (n := 155) (lv' := [(4, vI (i_1 + 1)), (3, vI 17), (2, vI (-1)), (0, aR Γ 18), (1, aR Γ g)]) hx 2 (dq tX5_readsSum 77 rfl) rfl (by decide) rfl rfl ?_
                            refine g_goto (n := 7) hx (dq tX5_readsSum 78 rfl) (by decide) ?_
                            have e_137 : M_130 7 1 = M_103 7 1 := (f_133 7 1 (by omega))
                            have e_138 : M_130 18 1 = M_103 18 1 := (f_133 18 1 (by omega))
                            exact ih_6 _ (by omega) (i_1 + 1) 17 (-1) M_130 (by omega) (by omega) (by omega) (by omega) (by omega) (by omega) (fun u_ v_ huv_ => ((((f_133 u_ v_ (by omega)).trans (f_106 u_ v_ (by omega))).trans (f_41 u_ v_ (by omega))).trans (f_7 u_ v_ (by omega)))) (by have w1 := Tc.at g_136; rw [show (M_130 7 2).toNat = nx t9 n9 y_46a by omega]; exact g_136) (by have w1 := Tc.at g_136; exact Sf_on h_10 (by omega) y_46e (by omega) (by omega) (by omega)) rfl
                          · omega
                      · refine g_bipush (n := 116) hx (dq tX5_readsSum 58 rfl) rfl (by decide) ?_
                        refine g_goto (n := 137) hx (dq tX5_readsSum 59 rfl) (by decide) ?_
                        refine g_istore_n (n := 138) (lv' := [(3, vI 16), (2, vI (-1)), (4, vI i_1), (0, aR Γ 18), (1, aR Γ g)]) hx (dq tX5_readsSum 68 rfl) (by decide) rfl rfl ?_
                        refine g_iload_n (n := 139) hx 0 (dq tX5_readsSum 69 rfl) rfl rfl ?_
                        refine g_iconst (n := 140) hx (dq tX5_readsSum 70 rfl) rfl ?_
                        refine g_icmp_ne (n := 143) (t := 145) hx (dq tX5_readsSum 71 rfl) (by decide) rfl ⟨by decide, by decide⟩ ⟨by decide, by decide⟩ (fun c_139 => ?_) (fun c_139 => ?_)
                        · have e_140 : M_103 7 1 = M_38 7 1 := (f_106 7 1 (by omega))
                          have e_141 : M_103 7 2 = M_38 7 2 := (f_106 7 2 (by omega))
                          have e_142 : M_103 7 3 = M_38 7 3 := (f_106 7 3 (by omega))
                          have e_143 : M_103 18 1 = M_38 18 1 := (f_106 18 1 (by omega))
                          have h_144 := Tc.fst g_107
                          have h_145 := Tc.le g_107
                          have h_146 := Tc.stop g_107
                          have h_147 := Tc.sle g_107
                          have h_148 := Tc.at g_107
                          have h_149 := (Tc.tx g_107).1
                          refine g_aload_n (n := 146) hx 3 (dq tX5_readsSum 74 rfl) rfl rfl ?_
                          refine g_getR (n := 149) hx glX5_9 (sX5_0 (by decide)) (dq tX5_readsSum 75 rfl) rfl ?_
                          refine g_callVv (n := 152) (As := []) (rest := []) hx (ctX7_pass2 Γ M_103 t9 n9 (stp t9 n9 y_46a) (by omega) (by omega) (Tc.tx g_107)) mlX5_39 (obX7 (by decide)) (dq tX5_readsSum 76 rfl) rfl (Nat.le_of_ble_eq_true rfl) (Nat.le_of_ble_eq_true rfl) (Nat.le_of_ble_eq_true rfl) rfl (fun M_151 p_153 => ?_)
                          obtain ⟨f_154, g_155, h_156⟩ := p_153
                          have g_157 : Tc M_151 t9 n9 (nx t9 n9 y_46a) := h_156
                          refine g_iinc (n := 155) (lv' := [(4, vI (i_1 + 1)), (3, vI 16), (2, vI (-1)), (0, aR Γ 18), (1, aR Γ g)]) hx 2 (dq tX5_readsSum 77 rfl) rfl (by decide) rfl rfl ?_
                          refine g_goto (n := 7) hx (dq tX5_readsSum 78 rfl) (by decide) ?_
                          have e_158 : M_151 7 1 = M_103 7 1 := (f_154 7 1 (by omega))
                          have e_159 : M_151 18 1 = M_103 18 1 := (f_154 18 1 (by omega))
                          exact ih_6 _ (by omega) (i_1 + 1) 16 (-1) M_151 (by omega) (by omega) (by omega) (by omega) (by omega) (by omega) (fun u_ v_ huv_ => ((((f_154 u_ v_ (by omega)).trans (f_106 u_ v_ (by omega))).trans (f_41 u_ v_ (by omega))).trans (f_7 u_ v_ (by omega)))) (by have w1 := Tc.at g_157; rw [show (M_151 7 2).toNat = nx t9 n9 y_46a by omega]; exact g_157) (by have w1 := Tc.at g_157; exact Sf_on h_10 (by omega) y_46e (by omega) (by omega) (by omega)) rfl
                        · omega
                · refine g_bipush (n := 82) hx (dq tX5_readsSum 40 rfl) rfl (by decide) ?_
                  refine g_goto (n := 86) hx (dq tX5_readsSum 41 rfl) (by decide) ?_
                  refine g_istore_n (n := 87) (lv' := [(2, vI 20), (4, vI i_1), (3, vI i_2), (0, aR Γ 18), (1, aR Γ g)]) hx (dq tX5_readsSum 43 rfl) (by decide) rfl rfl ?_
                  refine g_iload_n (n := 88) hx 0 (dq tX5_readsSum 44 rfl) rfl rfl ?_
                  refine g_iconst (n := 89) hx (dq tX5_readsSum 45 rfl) rfl ?_
                  refine g_icmp_ne (n := 92) (t := 145) hx (dq tX5_readsSum 46 rfl) (by decide) rfl ⟨by decide, by decide⟩ ⟨by decide, by decide⟩ (fun c_160 => ?_) (fun c_160 => ?_)
                  · have h_161 := Tc.fst y_46t
                    have h_162 := Tc.le y_46t
                    have h_163 := Tc.stop y_46t
                    have h_164 := Tc.sle y_46t
                    have h_165 := Tc.at y_46t
                    have h_166 := (Tc.tx y_46t).1
                    refine g_aload_n (n := 146) hx 3 (dq tX5_readsSum 74 rfl) rfl rfl ?_
                    refine g_getR (n := 149) hx glX5_9 (sX5_0 (by decide)) (dq tX5_readsSum 75 rfl) rfl ?_
                    refine g_callVv (n := 152) (As := []) (rest := []) hx (ctX7_pass2 Γ M_38 t9 n9 (stp t9 n9 y_46a) (by omega) (by omega) (Tc.tx y_46t)) mlX5_39 (obX7 (by decide)) (dq tX5_readsSum 76 rfl) rfl (Nat.le_of_ble_eq_true rfl) (Nat.le_of_ble_eq_true rfl) (Nat.le_of_ble_eq_true rfl) rfl (fun M_168 p_170 => ?_)
                    obtain ⟨f_171, g_172, h_173⟩ := p_170
                    have g_174 : Tc M_168 t9 n9 (nx t9 n9 y_46a) := h_173
                    refine g_iinc (n := 155) (lv' := [(4, vI (i_1 + 1)), (2, vI 20), (3, vI i_2), (0, aR Γ 18), (1, aR Γ g)]) hx 1 (dq tX5_readsSum 77 rfl) rfl (by decide) rfl rfl ?_
                    refine g_goto (n := 7) hx (dq tX5_readsSum 78 rfl) (by decide) ?_
                    have e_175 : M_168 7 1 = M_38 7 1 := (f_171 7 1 (by omega))
                    have e_176 : M_168 18 1 = M_38 18 1 := (f_171 18 1 (by omega))
                    refine g_lv [0, 2, 1, 3, 4] rfl ?_
                    exact ih_6 _ (by omega) (i_1 + 1) i_2 20 M_168 (by omega) (by omega) (by omega) (by omega) (by omega) (by omega) (fun u_ v_ huv_ => (((f_171 u_ v_ (by omega)).trans (f_41 u_ v_ (by omega))).trans (f_7 u_ v_ (by omega)))) (by have w1 := Tc.at g_174; rw [show (M_168 7 2).toNat = nx t9 n9 y_46a by omega]; exact g_174) (by have w1 := Tc.at g_174; exact Sf_on h_10 (by omega) y_46e (by omega) (by omega) (by omega)) rfl
                  · omega
              · refine g_bipush (n := 65) hx (dq tX5_readsSum 33 rfl) rfl (by decide) ?_
                refine g_goto (n := 86) hx (dq tX5_readsSum 34 rfl) (by decide) ?_
                refine g_istore_n (n := 87) (lv' := [(2, vI 19), (4, vI i_1), (3, vI i_2), (0, aR Γ 18), (1, aR Γ g)]) hx (dq tX5_readsSum 43 rfl) (by decide) rfl rfl ?_
                refine g_iload_n (n := 88) hx 0 (dq tX5_readsSum 44 rfl) rfl rfl ?_
                refine g_iconst (n := 89) hx (dq tX5_readsSum 45 rfl) rfl ?_
                refine g_icmp_ne (n := 92) (t := 145) hx (dq tX5_readsSum 46 rfl) (by decide) rfl ⟨by decide, by decide⟩ ⟨by decide, by decide⟩ (fun c_177 => ?_) (fun c_177 => ?_)
                · have h_178 := Tc.fst y_46t
                  have h_179 := Tc.le y_46t
                  have h_180 := Tc.stop y_46t
                  have h_181 := Tc.sle y_46t
                  have h_182 := Tc.at y_46t
                  have h_183 := (Tc.tx y_46t).1
                  refine g_aload_n (n := 146) hx 3 (dq tX5_readsSum 74 rfl) rfl rfl ?_
                  refine g_getR (n := 149) hx glX5_9 (sX5_0 (by decide)) (dq tX5_readsSum 75 rfl) rfl ?_
                  refine g_callVv (n := 152) (As := []) (rest := []) hx (ctX7_pass2 Γ M_38 t9 n9 (stp t9 n9 y_46a) (by omega) (by omega) (Tc.tx y_46t)) mlX5_39 (obX7 (by decide)) (dq tX5_readsSum 76 rfl) rfl (Nat.le_of_ble_eq_true rfl) (Nat.le_of_ble_eq_true rfl) (Nat.le_of_ble_eq_true rfl) rfl (fun M_185 p_187 => ?_)
                  obtain ⟨f_188, g_189, h_190⟩ := p_187
                  have g_191 : Tc M_185 t9 n9 (nx t9 n9 y_46a) := h_190
                  refine g_iinc (n := 155) (lv' := [(4, vI (i_1 + 1)), (2, vI 19), (3, vI i_2), (0, aR Γ 18), (1, aR Γ g)]) hx 1 (dq tX5_readsSum 77 rfl) rfl (by decide) rfl rfl ?_
                  refine g_goto (n := 7) hx (dq tX5_readsSum 78 rfl) (by decide) ?_
                  have e_192 : M_185 7 1 = M_38 7 1 := (f_188 7 1 (by omega))
                  have e_193 : M_185 18 1 = M_38 18 1 := (f_188 18 1 (by omega))
                  refine g_lv [0, 2, 1, 3, 4] rfl ?_
                  exact ih_6 _ (by omega) (i_1 + 1) i_2 19 M_185 (by omega) (by omega) (by omega) (by omega) (by omega) (by omega) (fun u_ v_ huv_ => (((f_188 u_ v_ (by omega)).trans (f_41 u_ v_ (by omega))).trans (f_7 u_ v_ (by omega)))) (by have w1 := Tc.at g_191; rw [show (M_185 7 2).toNat = nx t9 n9 y_46a by omega]; exact g_191) (by have w1 := Tc.at g_191; exact Sf_on h_10 (by omega) y_46e (by omega) (by omega) (by omega)) rfl
                · omega
            · refine g_bipush (n := 48) hx (dq tX5_readsSum 26 rfl) rfl (by decide) ?_
              refine g_goto (n := 86) hx (dq tX5_readsSum 27 rfl) (by decide) ?_
              refine g_istore_n (n := 87) (lv' := [(2, vI 18), (4, vI i_1), (3, vI i_2), (0, aR Γ 18), (1, aR Γ g)]) hx (dq tX5_readsSum 43 rfl) (by decide) rfl rfl ?_
              refine g_iload_n (n := 88) hx 0 (dq tX5_readsSum 44 rfl) rfl rfl ?_
              refine g_iconst (n := 89) hx (dq tX5_readsSum 45 rfl) rfl ?_
              refine g_icmp_ne (n := 92) (t := 145) hx (dq tX5_readsSum 46 rfl) (by decide) rfl ⟨by decide, by decide⟩ ⟨by decide, by decide⟩ (fun c_194 => ?_) (fun c_194 => ?_)
              · have h_195 := Tc.fst y_46t
                have h_196 := Tc.le y_46t
                have h_197 := Tc.stop y_46t
                have h_198 := Tc.sle y_46t
                have h_199 := Tc.at y_46t
                have h_200 := (Tc.tx y_46t).1
                refine g_aload_n (n := 146) hx 3 (dq tX5_readsSum 74 rfl) rfl rfl ?_
                refine g_getR (n := 149) hx glX5_9 (sX5_0 (by decide)) (dq tX5_readsSum 75 rfl) rfl ?_
                refine g_callVv (n := 152) (As := []) (rest := []) hx (ctX7_pass2 Γ M_38 t9 n9 (stp t9 n9 y_46a) (by omega) (by omega) (Tc.tx y_46t)) mlX5_39 (obX7 (by decide)) (dq tX5_readsSum 76 rfl) rfl (Nat.le_of_ble_eq_true rfl) (Nat.le_of_ble_eq_true rfl) (Nat.le_of_ble_eq_true rfl) rfl (fun M_202 p_204 => ?_)
                obtain ⟨f_205, g_206, h_207⟩ := p_204
                have g_208 : Tc M_202 t9 n9 (nx t9 n9 y_46a) := h_207
                refine g_iinc (n := 155) (lv' := [(4, vI (i_1 + 1)), (2, vI 18), (3, vI i_2), (0, aR Γ 18), (1, aR Γ g)]) hx 1 (dq tX5_readsSum 77 rfl) rfl (by decide) rfl rfl ?_
                refine g_goto (n := 7) hx (dq tX5_readsSum 78 rfl) (by decide) ?_
                have e_209 : M_202 7 1 = M_38 7 1 := (f_205 7 1 (by omega))
                have e_210 : M_202 18 1 = M_38 18 1 := (f_205 18 1 (by omega))
                refine g_lv [0, 2, 1, 3, 4] rfl ?_
                exact ih_6 _ (by omega) (i_1 + 1) i_2 18 M_202 (by omega) (by omega) (by omega) (by omega) (by omega) (by omega) (fun u_ v_ huv_ => (((f_205 u_ v_ (by omega)).trans (f_41 u_ v_ (by omega))).trans (f_7 u_ v_ (by omega)))) (by have w1 := Tc.at g_208; rw [show (M_202 7 2).toNat = nx t9 n9 y_46a by omega]; exact g_208) (by have w1 := Tc.at g_208; exact Sf_on h_10 (by omega) y_46e (by omega) (by omega) (by omega)) rfl
              · omega
          · refine g_aload_n (n := 30) hx 4 (dq tX5_readsSum 18 rfl) rfl rfl ?_
            refine g_iload_n (n := 31) hx 2 (dq tX5_readsSum 19 rfl) rfl rfl ?_
            have e_211 : M_38 7 1 = M_4 7 1 := (f_41 7 1 (by omega))
            refine g_callVv (n := 34) (As := [vI i_3]) (rest := []) hx (ctX4_write Γ M_38 g hg i_3 (by omega) (by omega)) mlX5_60 (obX4 hg) (dq tX5_readsSum 20 rfl) rfl (Nat.le_of_ble_eq_true rfl) (Nat.le_of_ble_eq_true rfl) (Nat.le_of_ble_eq_true rfl) rfl (fun M_213 p_215 => ?_)
            have f_216 := p_215
            have g_217 : Tc M_213 t9 n9 y_46a := Tc.frame y_46t (fun c j hcj => f_216 c j (by omega))
            have e_218 : M_213 7 1 = M_38 7 1 := (f_216 7 1 (by omega))
            have e_219 : M_213 7 2 = M_38 7 2 := (f_216 7 2 (by omega))
            have e_220 : M_213 7 3 = M_38 7 3 := (f_216 7 3 (by omega))
            have e_221 : M_213 7 4 = M_38 7 4 := (f_216 7 4 (by omega))
            have e_222 : M_213 18 1 = M_38 18 1 := (f_216 18 1 (by omega))
            have h_223 := Tc.fst g_217
            have h_224 := Tc.le g_217
            have h_225 := Tc.stop g_217
            have h_226 := Tc.sle g_217
            have h_227 := Tc.at g_217
            have h_228 := (Tc.tx g_217).1
            refine g_aload_n (n := 35) hx 3 (dq tX5_readsSum 21 rfl) rfl rfl ?_
            refine g_getR (n := 38) hx glX5_9 (sX5_0 (by decide)) (dq tX5_readsSum 22 rfl) rfl ?_
            refine g_getI (n := 41) hx glX5_67 (sX7_4 (by decide)) (dq tX5_readsSum 23 rfl) rfl (fun h_229l h_229u => ?_)
            refine g_bipush (n := 43) hx (dq tX5_readsSum 24 rfl) rfl (by decide) ?_
            refine g_icmp_ne (n := 46) (t := 51) hx (dq tX5_readsSum 25 rfl) (by decide) rfl (zrI h_229l h_229u (by decide) (by decide)) ⟨by decide, by decide⟩ (fun c_230 => ?_) (fun c_230 => ?_)
            · refine g_aload_n (n := 52) hx 3 (dq tX5_readsSum 28 rfl) rfl rfl ?_
              refine g_getR (n := 55) hx glX5_9 (sX5_0 (by decide)) (dq tX5_readsSum 29 rfl) rfl ?_
              refine g_getI (n := 58) hx glX5_67 (sX7_4 (by decide)) (dq tX5_readsSum 30 rfl) rfl (fun h_231l h_231u => ?_)
              refine g_bipush (n := 60) hx (dq tX5_readsSum 31 rfl) rfl (by decide) ?_
              refine g_icmp_ne (n := 63) (t := 68) hx (dq tX5_readsSum 32 rfl) (by decide) rfl (zrI h_231l h_231u (by decide) (by decide)) ⟨by decide, by decide⟩ (fun c_232 => ?_) (fun c_232 => ?_)
              · refine g_aload_n (n := 69) hx 3 (dq tX5_readsSum 35 rfl) rfl rfl ?_
                refine g_getR (n := 72) hx glX5_9 (sX5_0 (by decide)) (dq tX5_readsSum 36 rfl) rfl ?_
                refine g_getI (n := 75) hx glX5_67 (sX7_4 (by decide)) (dq tX5_readsSum 37 rfl) rfl (fun h_233l h_233u => ?_)
                refine g_bipush (n := 77) hx (dq tX5_readsSum 38 rfl) rfl (by decide) ?_
                refine g_icmp_ne (n := 80) (t := 85) hx (dq tX5_readsSum 39 rfl) (by decide) rfl (zrI h_233l h_233u (by decide) (by decide)) ⟨by decide, by decide⟩ (fun c_234 => ?_) (fun c_234 => ?_)
                · refine g_iconst (n := 86) hx (dq tX5_readsSum 42 rfl) rfl ?_
                  refine g_istore_n (n := 87) (lv' := [(2, vI (-1)), (4, vI i_1), (3, vI i_2), (0, aR Γ 18), (1, aR Γ g)]) hx (dq tX5_readsSum 43 rfl) (by decide) rfl rfl ?_
                  refine g_iload_n (n := 88) hx 0 (dq tX5_readsSum 44 rfl) rfl rfl ?_
                  refine g_iconst (n := 89) hx (dq tX5_readsSum 45 rfl) rfl ?_
                  refine g_icmp_ne (n := 92) (t := 145) hx (dq tX5_readsSum 46 rfl) (by decide) rfl ⟨by decide, by decide⟩ ⟨by decide, by decide⟩ (fun c_235 => ?_) (fun c_235 => ?_)
                  · omega
                  · refine g_iload_n (n := 93) hx 2 (dq tX5_readsSum 47 rfl) rfl rfl ?_
                    refine g_iconst (n := 94) hx (dq tX5_readsSum 48 rfl) rfl ?_
                    refine g_icmp_eq (n := 97) (t := 102) hx (dq tX5_readsSum 49 rfl) (by decide) rfl ⟨by omega, by omega⟩ ⟨by decide, by decide⟩ (fun c_236 => ?_) (fun c_236 => ?_)
                    · refine g_aload_n (n := 103) hx 3 (dq tX5_readsSum 53 rfl) rfl rfl ?_
                      refine g_getR (n := 106) hx glX5_9 (sX5_0 (by decide)) (dq tX5_readsSum 54 rfl) rfl ?_
                      refine g_getI (n := 109) hx glX5_67 (sX7_4 (by decide)) (dq tX5_readsSum 55 rfl) rfl (fun h_237l h_237u => ?_)
                      refine g_bipush (n := 111) hx (dq tX5_readsSum 56 rfl) rfl (by decide) ?_
                      refine g_icmp_ne (n := 114) (t := 119) hx (dq tX5_readsSum 57 rfl) (by decide) rfl (zrI h_237l h_237u (by decide) (by decide)) ⟨by decide, by decide⟩ (fun c_238 => ?_) (fun c_238 => ?_)
                      · refine g_aload_n (n := 120) hx 3 (dq tX5_readsSum 60 rfl) rfl rfl ?_
                        refine g_getR (n := 123) hx glX5_9 (sX5_0 (by decide)) (dq tX5_readsSum 61 rfl) rfl ?_
                        refine g_getI (n := 126) hx glX5_67 (sX7_4 (by decide)) (dq tX5_readsSum 62 rfl) rfl (fun h_239l h_239u => ?_)
                        refine g_bipush (n := 128) hx (dq tX5_readsSum 63 rfl) rfl (by decide) ?_
                        refine g_icmp_ne (n := 131) (t := 136) hx (dq tX5_readsSum 64 rfl) (by decide) rfl (zrI h_239l h_239u (by decide) (by decide)) ⟨by decide, by decide⟩ (fun c_240 => ?_) (fun c_240 => ?_)
                        · refine g_iconst (n := 137) hx (dq tX5_readsSum 67 rfl) rfl ?_
                          refine g_istore_n (n := 138) (lv' := [(3, vI (-1)), (2, vI (-1)), (4, vI i_1), (0, aR Γ 18), (1, aR Γ g)]) hx (dq tX5_readsSum 68 rfl) (by decide) rfl rfl ?_
                          refine g_iload_n (n := 139) hx 0 (dq tX5_readsSum 69 rfl) rfl rfl ?_
                          refine g_iconst (n := 140) hx (dq tX5_readsSum 70 rfl) rfl ?_
                          refine g_icmp_ne (n := 143) (t := 145) hx (dq tX5_readsSum 71 rfl) (by decide) rfl ⟨by decide, by decide⟩ ⟨by decide, by decide⟩ (fun c_241 => ?_) (fun c_241 => ?_)
                          · omega
                          · refine g_iconst (n := 144) hx (dq tX5_readsSum 72 rfl) rfl ?_
                            exact g_zret hx hr (dq tX5_readsSum 73 rfl) (by omega) ⟨(fun u_ v_ huv_ => (((f_216 u_ v_ (by omega)).trans (f_41 u_ v_ (by omega))).trans (f_7 u_ v_ (by omega)))), (by omega), (by omega), (Or.inr ⟨rfl, y_46a, y_46c, Sf_end (f := (60 - i_1).toNat) h_10 (by omega) y_46e (by omega), g_217, by omega⟩)⟩
                        · refine g_bipush (n := 133) hx (dq tX5_readsSum 65 rfl) rfl (by decide) ?_
                          refine g_goto (n := 137) hx (dq tX5_readsSum 66 rfl) (by decide) ?_
                          refine g_istore_n (n := 138) (lv' := [(3, vI 17), (2, vI (-1)), (4, vI i_1), (0, aR Γ 18), (1, aR Γ g)]) hx (dq tX5_readsSum 68 rfl) (by decide) rfl rfl ?_
                          refine g_iload_n (n := 139) hx 0 (dq tX5_readsSum 69 rfl) rfl rfl ?_
                          refine g_iconst (n := 140) hx (dq tX5_readsSum 70 rfl) rfl ?_
                          refine g_icmp_ne (n := 143) (t := 145) hx (dq tX5_readsSum 71 rfl) (by decide) rfl ⟨by decide, by decide⟩ ⟨by decide, by decide⟩ (fun c_242 => ?_) (fun c_242 => ?_)
                          · have h_243 := Tc.fst g_217
                            have h_244 := Tc.le g_217
                            have h_245 := Tc.stop g_217
                            have h_246 := Tc.sle g_217
                            have h_247 := Tc.at g_217
                            have h_248 := (Tc.tx g_217).1
                            refine g_aload_n (n := 146) hx 3 (dq tX5_readsSum 74 rfl) rfl rfl ?_
                            refine g_getR (n := 149) hx glX5_9 (sX5_0 (by decide)) (dq tX5_readsSum 75 rfl) rfl ?_
                            refine g_callVv (n := 152) (As := []) (rest := []) hx (ctX7_pass2 Γ M_213 t9 n9 (stp t9 n9 y_46a) (by omega) (by omega) (Tc.tx g_217)) mlX5_39 (obX7 (by decide)) (dq tX5_readsSum 76 rfl) rfl (Nat.le_of_ble_eq_true rfl) (Nat.le_of_ble_eq_true rfl) (Nat.le_of_ble_eq_true rfl) rfl (fun M_250 p_252 => ?_)
                            obtain ⟨f_253, g_254, h_255⟩ := p_252
                            have g_256 : Tc M_250 t9 n9 (nx t9 n9 y_46a) := h_255
                            refine g_iinc (n := 155) (lv' := [(4, vI (i_1 + 1)), (3, vI 17), (2, vI (-1)), (0, aR Γ 18), (1, aR Γ g)]) hx 2 (dq tX5_readsSum 77 rfl) rfl (by decide) rfl rfl ?_
                            refine g_goto (n := 7) hx (dq tX5_readsSum 78 rfl) (by decide) ?_
                            have e_257 : M_250 7 1 = M_213 7 1 := (f_253 7 1 (by omega))
                            have e_258 : M_250 18 1 = M_213 18 1 := (f_253 18 1 (by omega))
                            exact ih_6 _ (by omega) (i_1 + 1) 17 (-1) M_250 (by omega) (by omega) (by omega) (by omega) (by omega) (by omega) (fun u_ v_ huv_ => ((((f_253 u_ v_ (by omega)).trans (f_216 u_ v_ (by omega))).trans (f_41 u_ v_ (by omega))).trans (f_7 u_ v_ (by omega)))) (by have w1 := Tc.at g_256; rw [show (M_250 7 2).toNat = nx t9 n9 y_46a by omega]; exact g_256) (by have w1 := Tc.at g_256; exact Sf_on h_10 (by omega) y_46e (by omega) (by omega) (by omega)) rfl
                          · omega
                      · refine g_bipush (n := 116) hx (dq tX5_readsSum 58 rfl) rfl (by decide) ?_
                        refine g_goto (n := 137) hx (dq tX5_readsSum 59 rfl) (by decide) ?_
                        refine g_istore_n (n := 138) (lv' := [(3, vI 16), (2, vI (-1)), (4, vI i_1), (0, aR Γ 18), (1, aR Γ g)]) hx (dq tX5_readsSum 68 rfl) (by decide) rfl rfl ?_
                        refine g_iload_n (n := 139) hx 0 (dq tX5_readsSum 69 rfl) rfl rfl ?_
                        refine g_iconst (n := 140) hx (dq tX5_readsSum 70 rfl) rfl ?_
                        refine g_icmp_ne (n := 143) (t := 145) hx (dq tX5_readsSum 71 rfl) (by decide) rfl ⟨by decide, by decide⟩ ⟨by decide, by decide⟩ (fun c_259 => ?_) (fun c_259 => ?_)
                        · have h_260 := Tc.fst g_217
                          have h_261 := Tc.le g_217
                          have h_262 := Tc.stop g_217
                          have h_263 := Tc.sle g_217
                          have h_264 := Tc.at g_217
                          have h_265 := (Tc.tx g_217).1
                          refine g_aload_n (n := 146) hx 3 (dq tX5_readsSum 74 rfl) rfl rfl ?_
                          refine g_getR (n := 149) hx glX5_9 (sX5_0 (by decide)) (dq tX5_readsSum 75 rfl) rfl ?_
                          refine g_callVv (n := 152) (As := []) (rest := []) hx (ctX7_pass2 Γ M_213 t9 n9 (stp t9 n9 y_46a) (by omega) (by omega) (Tc.tx g_217)) mlX5_39 (obX7 (by decide)) (dq tX5_readsSum 76 rfl) rfl (Nat.le_of_ble_eq_true rfl) (Nat.le_of_ble_eq_true rfl) (Nat.le_of_ble_eq_true rfl) rfl (fun M_267 p_269 => ?_)
                          obtain ⟨f_270, g_271, h_272⟩ := p_269
                          have g_273 : Tc M_267 t9 n9 (nx t9 n9 y_46a) := h_272
                          refine g_iinc (n := 155) (lv' := [(4, vI (i_1 + 1)), (3, vI 16), (2, vI (-1)), (0, aR Γ 18), (1, aR Γ g)]) hx 2 (dq tX5_readsSum 77 rfl) rfl (by decide) rfl rfl ?_
                          refine g_goto (n := 7) hx (dq tX5_readsSum 78 rfl) (by decide) ?_
                          have e_274 : M_267 7 1 = M_213 7 1 := (f_270 7 1 (by omega))
                          have e_275 : M_267 18 1 = M_213 18 1 := (f_270 18 1 (by omega))
                          exact ih_6 _ (by omega) (i_1 + 1) 16 (-1) M_267 (by omega) (by omega) (by omega) (by omega) (by omega) (by omega) (fun u_ v_ huv_ => ((((f_270 u_ v_ (by omega)).trans (f_216 u_ v_ (by omega))).trans (f_41 u_ v_ (by omega))).trans (f_7 u_ v_ (by omega)))) (by have w1 := Tc.at g_273; rw [show (M_267 7 2).toNat = nx t9 n9 y_46a by omega]; exact g_273) (by have w1 := Tc.at g_273; exact Sf_on h_10 (by omega) y_46e (by omega) (by omega) (by omega)) rfl
                        · omega
                    · refine g_aload_n (n := 98) hx 4 (dq tX5_readsSum 50 rfl) rfl rfl ?_
                      refine g_iload_n (n := 99) hx 2 (dq tX5_readsSum 51 rfl) rfl rfl ?_
                      refine g_callVv (n := 102) (As := [vI i_2]) (rest := []) hx (ctX4_write Γ M_213 g hg i_2 (by omega) (by omega)) mlX5_60 (obX4 hg) (dq tX5_readsSum 52 rfl) rfl (Nat.le_of_ble_eq_true rfl) (Nat.le_of_ble_eq_true rfl) (Nat.le_of_ble_eq_true rfl) rfl (fun M_277 p_279 => ?_)
                      have f_280 := p_279
                      have g_281 : Tc M_277 t9 n9 y_46a := Tc.frame g_217 (fun c j hcj => f_280 c j (by omega))
                      refine g_aload_n (n := 103) hx 3 (dq tX5_readsSum 53 rfl) rfl rfl ?_
                      refine g_getR (n := 106) hx glX5_9 (sX5_0 (by decide)) (dq tX5_readsSum 54 rfl) rfl ?_
                      refine g_getI (n := 109) hx glX5_67 (sX7_4 (by decide)) (dq tX5_readsSum 55 rfl) rfl (fun h_282l h_282u => ?_)
                      have e_283 : M_277 7 4 = M_213 7 4 := (f_280 7 4 (by omega))
                      refine g_bipush (n := 111) hx (dq tX5_readsSum 56 rfl) rfl (by decide) ?_
                      refine g_icmp_ne (n := 114) (t := 119) hx (dq tX5_readsSum 57 rfl) (by decide) rfl (zrI h_282l h_282u (by decide) (by decide)) ⟨by decide, by decide⟩ (fun c_284 => ?_) (fun c_284 => ?_)
                      · refine g_aload_n (n := 120) hx 3 (dq tX5_readsSum 60 rfl) rfl rfl ?_
                        refine g_getR (n := 123) hx glX5_9 (sX5_0 (by decide)) (dq tX5_readsSum 61 rfl) rfl ?_
                        refine g_getI (n := 126) hx glX5_67 (sX7_4 (by decide)) (dq tX5_readsSum 62 rfl) rfl (fun h_285l h_285u => ?_)
                        refine g_bipush (n := 128) hx (dq tX5_readsSum 63 rfl) rfl (by decide) ?_
                        refine g_icmp_ne (n := 131) (t := 136) hx (dq tX5_readsSum 64 rfl) (by decide) rfl (zrI h_285l h_285u (by decide) (by decide)) ⟨by decide, by decide⟩ (fun c_286 => ?_) (fun c_286 => ?_)
                        · refine g_iconst (n := 137) hx (dq tX5_readsSum 67 rfl) rfl ?_
                          refine g_istore_n (n := 138) (lv' := [(3, vI (-1)), (2, vI (-1)), (4, vI i_1), (0, aR Γ 18), (1, aR Γ g)]) hx (dq tX5_readsSum 68 rfl) (by decide) rfl rfl ?_
                          refine g_iload_n (n := 139) hx 0 (dq tX5_readsSum 69 rfl) rfl rfl ?_
                          refine g_iconst (n := 140) hx (dq tX5_readsSum 70 rfl) rfl ?_
                          refine g_icmp_ne (n := 143) (t := 145) hx (dq tX5_readsSum 71 rfl) (by decide) rfl ⟨by decide, by decide⟩ ⟨by decide, by decide⟩ (fun c_287 => ?_) (fun c_287 => ?_)
                          · omega
                          · refine g_iconst (n := 144) hx (dq tX5_readsSum 72 rfl) rfl ?_
                            have e_288 : M_277 7 1 = M_213 7 1 := (f_280 7 1 (by omega))
                            have e_289 : M_277 7 2 = M_213 7 2 := (f_280 7 2 (by omega))
                            have e_290 : M_277 7 3 = M_213 7 3 := (f_280 7 3 (by omega))
                            have e_291 : M_277 18 1 = M_213 18 1 := (f_280 18 1 (by omega))
                            exact g_zret hx hr (dq tX5_readsSum 73 rfl) (by omega) ⟨(fun u_ v_ huv_ => ((((f_280 u_ v_ (by omega)).trans (f_216 u_ v_ (by omega))).trans (f_41 u_ v_ (by omega))).trans (f_7 u_ v_ (by omega)))), (by omega), (by omega), (Or.inr ⟨rfl, y_46a, y_46c, Sf_end (f := (60 - i_1).toNat) h_10 (by omega) y_46e (by omega), g_281, by omega⟩)⟩
                        · refine g_bipush (n := 133) hx (dq tX5_readsSum 65 rfl) rfl (by decide) ?_
                          refine g_goto (n := 137) hx (dq tX5_readsSum 66 rfl) (by decide) ?_
                          refine g_istore_n (n := 138) (lv' := [(3, vI 17), (2, vI (-1)), (4, vI i_1), (0, aR Γ 18), (1, aR Γ g)]) hx (dq tX5_readsSum 68 rfl) (by decide) rfl rfl ?_
                          refine g_iload_n (n := 139) hx 0 (dq tX5_readsSum 69 rfl) rfl rfl ?_
                          refine g_iconst (n := 140) hx (dq tX5_readsSum 70 rfl) rfl ?_
                          refine g_icmp_ne (n := 143) (t := 145) hx (dq tX5_readsSum 71 rfl) (by decide) rfl ⟨by decide, by decide⟩ ⟨by decide, by decide⟩ (fun c_292 => ?_) (fun c_292 => ?_)
                          · have e_293 : M_277 7 1 = M_213 7 1 := (f_280 7 1 (by omega))
                            have e_294 : M_277 7 2 = M_213 7 2 := (f_280 7 2 (by omega))
                            have e_295 : M_277 7 3 = M_213 7 3 := (f_280 7 3 (by omega))
                            have e_296 : M_277 18 1 = M_213 18 1 := (f_280 18 1 (by omega))
                            have h_297 := Tc.fst g_281
                            have h_298 := Tc.le g_281
                            have h_299 := Tc.stop g_281
                            have h_300 := Tc.sle g_281
                            have h_301 := Tc.at g_281
                            have h_302 := (Tc.tx g_281).1
                            refine g_aload_n (n := 146) hx 3 (dq tX5_readsSum 74 rfl) rfl rfl ?_
                            refine g_getR (n := 149) hx glX5_9 (sX5_0 (by decide)) (dq tX5_readsSum 75 rfl) rfl ?_
                            refine g_callVv (n := 152) (As := []) (rest := []) hx (ctX7_pass2 Γ M_277 t9 n9 (stp t9 n9 y_46a) (by omega) (by omega) (Tc.tx g_281)) mlX5_39 (obX7 (by decide)) (dq tX5_readsSum 76 rfl) rfl (Nat.le_of_ble_eq_true rfl) (Nat.le_of_ble_eq_true rfl) (Nat.le_of_ble_eq_true rfl) rfl (fun M_304 p_306 => ?_)
                            obtain ⟨f_307, g_308, h_309⟩ := p_306
                            have g_310 : Tc M_304 t9 n9 (nx t9 n9 y_46a) := h_309
                            refine g_iinc (n := 155) (lv' := [(4, vI (i_1 + 1)), (3, vI 17), (2, vI (-1)), (0, aR Γ 18), (1, aR Γ g)]) hx 2 (dq tX5_readsSum 77 rfl) rfl (by decide) rfl rfl ?_
                            refine g_goto (n := 7) hx (dq tX5_readsSum 78 rfl) (by decide) ?_
                            have e_311 : M_304 7 1 = M_277 7 1 := (f_307 7 1 (by omega))
                            have e_312 : M_304 18 1 = M_277 18 1 := (f_307 18 1 (by omega))
                            exact ih_6 _ (by omega) (i_1 + 1) 17 (-1) M_304 (by omega) (by omega) (by omega) (by omega) (by omega) (by omega) (fun u_ v_ huv_ => (((((f_307 u_ v_ (by omega)).trans (f_280 u_ v_ (by omega))).trans (f_216 u_ v_ (by omega))).trans (f_41 u_ v_ (by omega))).trans (f_7 u_ v_ (by omega)))) (by have w1 := Tc.at g_310; rw [show (M_304 7 2).toNat = nx t9 n9 y_46a by omega]; exact g_310) (by have w1 := Tc.at g_310; exact Sf_on h_10 (by omega) y_46e (by omega) (by omega) (by omega)) rfl
                          · omega
                      · refine g_bipush (n := 116) hx (dq tX5_readsSum 58 rfl) rfl (by decide) ?_
                        refine g_goto (n := 137) hx (dq tX5_readsSum 59 rfl) (by decide) ?_
                        refine g_istore_n (n := 138) (lv' := [(3, vI 16), (2, vI (-1)), (4, vI i_1), (0, aR Γ 18), (1, aR Γ g)]) hx (dq tX5_readsSum 68 rfl) (by decide) rfl rfl ?_
                        refine g_iload_n (n := 139) hx 0 (dq tX5_readsSum 69 rfl) rfl rfl ?_
                        refine g_iconst (n := 140) hx (dq tX5_readsSum 70 rfl) rfl ?_
                        refine g_icmp_ne (n := 143) (t := 145) hx (dq tX5_readsSum 71 rfl) (by decide) rfl ⟨by decide, by decide⟩ ⟨by decide, by decide⟩ (fun c_313 => ?_) (fun c_313 => ?_)
                        · have e_314 : M_277 7 1 = M_213 7 1 := (f_280 7 1 (by omega))
                          have e_315 : M_277 7 2 = M_213 7 2 := (f_280 7 2 (by omega))
                          have e_316 : M_277 7 3 = M_213 7 3 := (f_280 7 3 (by omega))
                          have e_317 : M_277 18 1 = M_213 18 1 := (f_280 18 1 (by omega))
                          have h_318 := Tc.fst g_281
                          have h_319 := Tc.le g_281
                          have h_320 := Tc.stop g_281
                          have h_321 := Tc.sle g_281
                          have h_322 := Tc.at g_281
                          have h_323 := (Tc.tx g_281).1
                          refine g_aload_n (n := 146) hx 3 (dq tX5_readsSum 74 rfl) rfl rfl ?_
                          refine g_getR (n := 149) hx glX5_9 (sX5_0 (by decide)) (dq tX5_readsSum 75 rfl) rfl ?_
                          refine g_callVv (n := 152) (As := []) (rest := []) hx (ctX7_pass2 Γ M_277 t9 n9 (stp t9 n9 y_46a) (by omega) (by omega) (Tc.tx g_281)) mlX5_39 (obX7 (by decide)) (dq tX5_readsSum 76 rfl) rfl (Nat.le_of_ble_eq_true rfl) (Nat.le_of_ble_eq_true rfl) (Nat.le_of_ble_eq_true rfl) rfl (fun M_325 p_327 => ?_)
                          obtain ⟨f_328, g_329, h_330⟩ := p_327
                          have g_331 : Tc M_325 t9 n9 (nx t9 n9 y_46a) := h_330
                          refine g_iinc (n := 155) (lv' := [(4, vI (i_1 + 1)), (3, vI 16), (2, vI (-1)), (0, aR Γ 18), (1, aR Γ g)]) hx 2 (dq tX5_readsSum 77 rfl) rfl (by decide) rfl rfl ?_
                          refine g_goto (n := 7) hx (dq tX5_readsSum 78 rfl) (by decide) ?_
                          have e_332 : M_325 7 1 = M_277 7 1 := (f_328 7 1 (by omega))
                          have e_333 : M_325 18 1 = M_277 18 1 := (f_328 18 1 (by omega))
                          exact ih_6 _ (by omega) (i_1 + 1) 16 (-1) M_325 (by omega) (by omega) (by omega) (by omega) (by omega) (by omega) (fun u_ v_ huv_ => (((((f_328 u_ v_ (by omega)).trans (f_280 u_ v_ (by omega))).trans (f_216 u_ v_ (by omega))).trans (f_41 u_ v_ (by omega))).trans (f_7 u_ v_ (by omega)))) (by have w1 := Tc.at g_331; rw [show (M_325 7 2).toNat = nx t9 n9 y_46a by omega]; exact g_331) (by have w1 := Tc.at g_331; exact Sf_on h_10 (by omega) y_46e (by omega) (by omega) (by omega)) rfl
                        · omega
                · refine g_bipush (n := 82) hx (dq tX5_readsSum 40 rfl) rfl (by decide) ?_
                  refine g_goto (n := 86) hx (dq tX5_readsSum 41 rfl) (by decide) ?_
                  refine g_istore_n (n := 87) (lv' := [(2, vI 20), (4, vI i_1), (3, vI i_2), (0, aR Γ 18), (1, aR Γ g)]) hx (dq tX5_readsSum 43 rfl) (by decide) rfl rfl ?_
                  refine g_iload_n (n := 88) hx 0 (dq tX5_readsSum 44 rfl) rfl rfl ?_
                  refine g_iconst (n := 89) hx (dq tX5_readsSum 45 rfl) rfl ?_
                  refine g_icmp_ne (n := 92) (t := 145) hx (dq tX5_readsSum 46 rfl) (by decide) rfl ⟨by decide, by decide⟩ ⟨by decide, by decide⟩ (fun c_334 => ?_) (fun c_334 => ?_)
                  · have h_335 := Tc.fst g_217
                    have h_336 := Tc.le g_217
                    have h_337 := Tc.stop g_217
                    have h_338 := Tc.sle g_217
                    have h_339 := Tc.at g_217
                    have h_340 := (Tc.tx g_217).1
                    refine g_aload_n (n := 146) hx 3 (dq tX5_readsSum 74 rfl) rfl rfl ?_
                    refine g_getR (n := 149) hx glX5_9 (sX5_0 (by decide)) (dq tX5_readsSum 75 rfl) rfl ?_
                    refine g_callVv (n := 152) (As := []) (rest := []) hx (ctX7_pass2 Γ M_213 t9 n9 (stp t9 n9 y_46a) (by omega) (by omega) (Tc.tx g_217)) mlX5_39 (obX7 (by decide)) (dq tX5_readsSum 76 rfl) rfl (Nat.le_of_ble_eq_true rfl) (Nat.le_of_ble_eq_true rfl) (Nat.le_of_ble_eq_true rfl) rfl (fun M_342 p_344 => ?_)
                    obtain ⟨f_345, g_346, h_347⟩ := p_344
                    have g_348 : Tc M_342 t9 n9 (nx t9 n9 y_46a) := h_347
                    refine g_iinc (n := 155) (lv' := [(4, vI (i_1 + 1)), (2, vI 20), (3, vI i_2), (0, aR Γ 18), (1, aR Γ g)]) hx 1 (dq tX5_readsSum 77 rfl) rfl (by decide) rfl rfl ?_
                    refine g_goto (n := 7) hx (dq tX5_readsSum 78 rfl) (by decide) ?_
                    have e_349 : M_342 7 1 = M_213 7 1 := (f_345 7 1 (by omega))
                    have e_350 : M_342 18 1 = M_213 18 1 := (f_345 18 1 (by omega))
                    refine g_lv [0, 2, 1, 3, 4] rfl ?_
                    exact ih_6 _ (by omega) (i_1 + 1) i_2 20 M_342 (by omega) (by omega) (by omega) (by omega) (by omega) (by omega) (fun u_ v_ huv_ => ((((f_345 u_ v_ (by omega)).trans (f_216 u_ v_ (by omega))).trans (f_41 u_ v_ (by omega))).trans (f_7 u_ v_ (by omega)))) (by have w1 := Tc.at g_348; rw [show (M_342 7 2).toNat = nx t9 n9 y_46a by omega]; exact g_348) (by have w1 := Tc.at g_348; exact Sf_on h_10 (by omega) y_46e (by omega) (by omega) (by omega)) rfl
                  · omega
              · refine g_bipush (n := 65) hx (dq tX5_readsSum 33 rfl) rfl (by decide) ?_
                refine g_goto (n := 86) hx (dq tX5_readsSum 34 rfl) (by decide) ?_
                refine g_istore_n (n := 87) (lv' := [(2, vI 19), (4, vI i_1), (3, vI i_2), (0, aR Γ 18), (1, aR Γ g)]) hx (dq tX5_readsSum 43 rfl) (by decide) rfl rfl ?_
                refine g_iload_n (n := 88) hx 0 (dq tX5_readsSum 44 rfl) rfl rfl ?_
                refine g_iconst (n := 89) hx (dq tX5_readsSum 45 rfl) rfl ?_
                refine g_icmp_ne (n := 92) (t := 145) hx (dq tX5_readsSum 46 rfl) (by decide) rfl ⟨by decide, by decide⟩ ⟨by decide, by decide⟩ (fun c_351 => ?_) (fun c_351 => ?_)
                · have h_352 := Tc.fst g_217
                  have h_353 := Tc.le g_217
                  have h_354 := Tc.stop g_217
                  have h_355 := Tc.sle g_217
                  have h_356 := Tc.at g_217
                  have h_357 := (Tc.tx g_217).1
                  refine g_aload_n (n := 146) hx 3 (dq tX5_readsSum 74 rfl) rfl rfl ?_
                  refine g_getR (n := 149) hx glX5_9 (sX5_0 (by decide)) (dq tX5_readsSum 75 rfl) rfl ?_
                  refine g_callVv (n := 152) (As := []) (rest := []) hx (ctX7_pass2 Γ M_213 t9 n9 (stp t9 n9 y_46a) (by omega) (by omega) (Tc.tx g_217)) mlX5_39 (obX7 (by decide)) (dq tX5_readsSum 76 rfl) rfl (Nat.le_of_ble_eq_true rfl) (Nat.le_of_ble_eq_true rfl) (Nat.le_of_ble_eq_true rfl) rfl (fun M_359 p_361 => ?_)
                  obtain ⟨f_362, g_363, h_364⟩ := p_361
                  have g_365 : Tc M_359 t9 n9 (nx t9 n9 y_46a) := h_364
                  refine g_iinc (n := 155) (lv' := [(4, vI (i_1 + 1)), (2, vI 19), (3, vI i_2), (0, aR Γ 18), (1, aR Γ g)]) hx 1 (dq tX5_readsSum 77 rfl) rfl (by decide) rfl rfl ?_
                  refine g_goto (n := 7) hx (dq tX5_readsSum 78 rfl) (by decide) ?_
                  have e_366 : M_359 7 1 = M_213 7 1 := (f_362 7 1 (by omega))
                  have e_367 : M_359 18 1 = M_213 18 1 := (f_362 18 1 (by omega))
                  refine g_lv [0, 2, 1, 3, 4] rfl ?_
                  exact ih_6 _ (by omega) (i_1 + 1) i_2 19 M_359 (by omega) (by omega) (by omega) (by omega) (by omega) (by omega) (fun u_ v_ huv_ => ((((f_362 u_ v_ (by omega)).trans (f_216 u_ v_ (by omega))).trans (f_41 u_ v_ (by omega))).trans (f_7 u_ v_ (by omega)))) (by have w1 := Tc.at g_365; rw [show (M_359 7 2).toNat = nx t9 n9 y_46a by omega]; exact g_365) (by have w1 := Tc.at g_365; exact Sf_on h_10 (by omega) y_46e (by omega) (by omega) (by omega)) rfl
                · omega
            · refine g_bipush (n := 48) hx (dq tX5_readsSum 26 rfl) rfl (by decide) ?_
              refine g_goto (n := 86) hx (dq tX5_readsSum 27 rfl) (by decide) ?_
              refine g_istore_n (n := 87) (lv' := [(2, vI 18), (4, vI i_1), (3, vI i_2), (0, aR Γ 18), (1, aR Γ g)]) hx (dq tX5_readsSum 43 rfl) (by decide) rfl rfl ?_
              refine g_iload_n (n := 88) hx 0 (dq tX5_readsSum 44 rfl) rfl rfl ?_
              refine g_iconst (n := 89) hx (dq tX5_readsSum 45 rfl) rfl ?_
              refine g_icmp_ne (n := 92) (t := 145) hx (dq tX5_readsSum 46 rfl) (by decide) rfl ⟨by decide, by decide⟩ ⟨by decide, by decide⟩ (fun c_368 => ?_) (fun c_368 => ?_)
              · have h_369 := Tc.fst g_217
                have h_370 := Tc.le g_217
                have h_371 := Tc.stop g_217
                have h_372 := Tc.sle g_217
                have h_373 := Tc.at g_217
                have h_374 := (Tc.tx g_217).1
                refine g_aload_n (n := 146) hx 3 (dq tX5_readsSum 74 rfl) rfl rfl ?_
                refine g_getR (n := 149) hx glX5_9 (sX5_0 (by decide)) (dq tX5_readsSum 75 rfl) rfl ?_
                refine g_callVv (n := 152) (As := []) (rest := []) hx (ctX7_pass2 Γ M_213 t9 n9 (stp t9 n9 y_46a) (by omega) (by omega) (Tc.tx g_217)) mlX5_39 (obX7 (by decide)) (dq tX5_readsSum 76 rfl) rfl (Nat.le_of_ble_eq_true rfl) (Nat.le_of_ble_eq_true rfl) (Nat.le_of_ble_eq_true rfl) rfl (fun M_376 p_378 => ?_)
                obtain ⟨f_379, g_380, h_381⟩ := p_378
                have g_382 : Tc M_376 t9 n9 (nx t9 n9 y_46a) := h_381
                refine g_iinc (n := 155) (lv' := [(4, vI (i_1 + 1)), (2, vI 18), (3, vI i_2), (0, aR Γ 18), (1, aR Γ g)]) hx 1 (dq tX5_readsSum 77 rfl) rfl (by decide) rfl rfl ?_
                refine g_goto (n := 7) hx (dq tX5_readsSum 78 rfl) (by decide) ?_
                have e_383 : M_376 7 1 = M_213 7 1 := (f_379 7 1 (by omega))
                have e_384 : M_376 18 1 = M_213 18 1 := (f_379 18 1 (by omega))
                refine g_lv [0, 2, 1, 3, 4] rfl ?_
                exact ih_6 _ (by omega) (i_1 + 1) i_2 18 M_376 (by omega) (by omega) (by omega) (by omega) (by omega) (by omega) (fun u_ v_ huv_ => ((((f_379 u_ v_ (by omega)).trans (f_216 u_ v_ (by omega))).trans (f_41 u_ v_ (by omega))).trans (f_7 u_ v_ (by omega)))) (by have w1 := Tc.at g_382; rw [show (M_376 7 2).toNat = nx t9 n9 y_46a by omega]; exact g_382) (by have w1 := Tc.at g_382; exact Sf_on h_10 (by omega) y_46e (by omega) (by omega) (by omega)) rfl
              · omega
        · refine g_iconst (n := 23) hx (dq tX5_readsSum 13 rfl) rfl ?_
          have e_385 : M_38 7 1 = M_4 7 1 := (f_41 7 1 (by omega))
          exact g_zret hx hr (dq tX5_readsSum 14 rfl) (by omega) ⟨(fun u_ v_ huv_ => ((f_41 u_ v_ (by omega)).trans (f_7 u_ v_ (by omega)))), (by omega), (by omega), (Or.inl ⟨rfl, Sf_no (f := (60 - i_1).toNat) h_10 (by omega) (Rz.no h_44 (by omega))⟩)⟩
  exact L_5 _ 0 (-1) (-1) M (by omega) (by omega) (by omega) (by omega) (by omega) (by omega) (fun _ _ _ => rfl) (by rw [show (M 7 2).toNat = a9 by omega]; exact ex0) (by rw [show (M 7 2).toNat = a9 by omega]; rfl) rfl
