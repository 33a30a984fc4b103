abbrev qctX10_opens3 (M : zM) (k : Int) (M' : zM) : Prop := (∀ u_ v_, (u_ ≠ 229 ∨ v_ ≠ 39) ∧ (u_ ≠ 229 ∨ v_ ≠ 43) ∧ (u_ ≠ 229 ∨ v_ ≠ 45) ∧ u_ ≠ 229 + 45 → M' u_ v_ = M u_ v_) ∧ (M' 229 45 = M 229 45 + 1) ∧ (M' (229 + 45) (M 229 45).toNat = k) ∧ (∀ j : Nat, j ≠ (M 229 45).toNat → M' (229 + 45) j = M (229 + 45) j) ∧ (M' 229 39 = 0 → M 229 39 = 0) ∧ (M 229 39 ≠ 0 → M' 229 39 = M 229 39) ∧ ((k = 10 ∨ k = 11) → (M' 229 39 = M 229 39 ∧ M' 229 43 = M 229 43)) ∧ ((k = 9 ∨ k = 12) → M 229 39 = 0 → ((M 229 43 = 10 ∧ M' 229 39 = 1 + 8 * M 229 38 + 2) ∨ (M 229 43 ≠ 10 ∧ M' 229 39 = 0 ∧ M' 229 43 = M 229 43 + 1)))
set_option maxHeartbeats 4000000 in
set_option maxRecDepth 100000 in
theorem ctX10_opens3 (Γ : Gam) (M : zM) (k : Int) (hkl : 9 ≤ k) (hku : k ≤ 12) (pre0 : M 229 45 ≤ 401) (pre1 : M 229 39 = 0 → (0 ≤ M 229 43 ∧ M 229 43 ≤ 10)) : CtV Γ yX10_opens cX10_opens 2 none 1 22 [aR Γ 229, vI k] M (qctX10_opens3 M k) := by
  refine met_v (by decide) (Nat.le_of_ble_eq_true rfl) (fun x hx hr => ?_)
  show G Γ x 2 (QV Γ x (qctX10_opens3 M k)) M 0 [(0, aR Γ 229), (1, vI k)] []
  refine g_iv (fun hI0 => ?_)
  have hI_37 : (0 : Int) ≤ M 229 37 ∧ M 229 37 ≤ 400 := hI0 229 37
  have hI_38 : (0 : Int) ≤ M 229 38 ∧ M 229 38 ≤ 402 := hI0 229 38
  have hI_45 : (0 : Int) ≤ M 229 45 ∧ M 229 45 ≤ 402 := hI0 229 45
  have hI_42 : (0 : Int) ≤ M 229 42 ∧ M 229 42 ≤ 300 := hI0 229 42
  have hI_39 : (0 : Int) ≤ M 229 39 ∧ M 229 39 ≤ 100000 := hI0 229 39
  have hI_40 : (0 : Int) ≤ M 229 40 ∧ M 229 40 ≤ 5 := hI0 229 40
  have hI_41 : (0 : Int) ≤ M 229 41 ∧ M 229 41 ≤ 6 := hI0 229 41
  clear hI0
  by_cases hq : M 229 39 = 0
  · have hd9 := pre1 hq
    refine g_iload_n (n := 1) hx 1 (dq tX10_opens 0 rfl) rfl rfl ?_
    refine g_bipush (n := 3) hx (dq tX10_opens 1 rfl) rfl (by decide) ?_
    refine g_icmp_eq (n := 6) (t := 12) hx (dq tX10_opens 2 rfl) (by decide) rfl (zrI hkl hku (by decide) (by decide)) ⟨by decide, by decide⟩ (fun c_1 => ?_) (fun c_1 => ?_)
    · refine g_aload_n (n := 13) hx 0 (dq tX10_opens 6 rfl) rfl rfl ?_
      refine g_getI (n := 16) hx glX10_318 (sX10_43 (by decide)) (dq tX10_opens 7 rfl) rfl (fun h_2l h_2u => ?_)
      refine g_bipush (n := 18) hx (dq tX10_opens 8 rfl) rfl (by decide) ?_
      refine g_icmp_ne (n := 21) (t := 30) hx (dq tX10_opens 9 rfl) (by decide) rfl (zrI h_2l h_2u (by decide) (by decide)) ⟨by decide, by decide⟩ (fun c_3 => ?_) (fun c_3 => ?_)
      · refine g_aload_n (n := 31) hx 0 (dq tX10_opens 15 rfl) rfl rfl ?_
        refine g_dup (n := 32) hx (dq tX10_opens 16 rfl) rfl rfl ?_
        refine g_getI (n := 35) hx glX10_318 (sX10_43 (by decide)) (dq tX10_opens 17 rfl) rfl (fun h_4l h_4u => ?_)
        refine g_iconst (n := 36) hx (dq tX10_opens 18 rfl) rfl ?_
        refine g_iadd (n := 37) hx (dq tX10_opens 19 rfl) rfl ?_
        refine g_putI (n := 40) hx plX10_318 (sX10_43 (by decide)) (dq tX10_opens 20 rfl) rfl (by omega) (by omega) (fun M_5 m_6e m_6 => ?_)
        refine g_aload_n (n := 41) hx 0 (dq tX10_opens 21 rfl) rfl rfl ?_
        refine g_getR (n := 44) hx glX10_147 (sX10_56 (by decide)) (dq tX10_opens 22 rfl) rfl ?_
        refine g_aload_n (n := 45) hx 0 (dq tX10_opens 23 rfl) rfl rfl ?_
        refine g_getI (n := 48) hx glX10_315 (sX10_45 (by decide)) (dq tX10_opens 24 rfl) rfl (fun h_7l h_7u => ?_)
        have e_8 : M_5 229 45 = M 229 45 := (m_6 229 45 (by omega))
        refine g_iload_n (n := 49) hx 1 (dq tX10_opens 25 rfl) rfl rfl ?_
        have e_9 : M_5 229 37 = M 229 37 := (m_6 229 37 (by omega))
        have e_10 : M_5 229 38 = M 229 38 := (m_6 229 38 (by omega))
        have e_11 : M_5 229 39 = M 229 39 := (m_6 229 39 (by omega))
        have e_12 : M_5 229 44 = M 229 44 := (m_6 229 44 (by omega))
        refine g_iast (n := 50) (q := (M_5 229 45).toNat) hx (aX10_56 (b := 229) (by decide)) (dq tX10_opens 26 rfl) rfl (by omega) (by omega) (by omega) rfl (by omega) (by omega) (fun M_13 m_14e m_14 => ?_)
        refine g_aload_n (n := 51) hx 0 (dq tX10_opens 27 rfl) rfl rfl ?_
        refine g_dup (n := 52) hx (dq tX10_opens 28 rfl) rfl rfl ?_
        refine g_getI (n := 55) hx glX10_315 (sX10_45 (by decide)) (dq tX10_opens 29 rfl) rfl (fun h_15l h_15u => ?_)
        have e_16 : M_13 229 45 = M_5 229 45 := (m_14 229 45 (by omega))
        refine g_iconst (n := 56) hx (dq tX10_opens 30 rfl) rfl ?_
        refine g_iadd (n := 57) hx (dq tX10_opens 31 rfl) rfl ?_
        have e_17 : M_13 229 37 = M_5 229 37 := (m_14 229 37 (by omega))
        have e_18 : M_13 229 38 = M_5 229 38 := (m_14 229 38 (by omega))
        have e_19 : M_13 229 39 = M_5 229 39 := (m_14 229 39 (by omega))
        have e_20 : M_13 229 44 = M_5 229 44 := (m_14 229 44 (by omega))
        have e_21 : M_13 229 43 = M_5 229 43 := (m_14 229 43 (by omega))
        refine g_putI (n := 60) hx plX10_315 (sX10_45 (by decide)) (dq tX10_opens 32 rfl) rfl (by omega) (by omega) (fun M_22 m_23e m_23 => ?_)
        have e_24 : M_22 229 37 = M_13 229 37 := (m_23 229 37 (by omega))
        have e_25 : M_22 229 38 = M_13 229 38 := (m_23 229 38 (by omega))
        have e_26 : M_22 229 39 = M_13 229 39 := (m_23 229 39 (by omega))
        have e_27 : M_22 229 44 = M_13 229 44 := (m_23 229 44 (by omega))
        have e_28 : M_22 229 43 = M_13 229 43 := (m_23 229 43 (by omega))
        exact g_vret hx hr (dq tX10_opens 33 rfl) ⟨(fun u_ v_ huv_ => (((m_23 u_ v_ huv_.2.2.1).trans (m_14 u_ v_ (by omega))).trans (m_6 u_ v_ huv_.2.1))), (by omega), (by have e9 : ((M_5 229 45).toNat) = (M 229 45).toNat := (by omega); have q9 := m_14e; rw [e9] at q9; exact ((m_23 (229 + 45) ((M 229 45).toNat) (by omega))).trans q9), (fun j hj => (((m_23 (229 + 45) j (by omega)).trans (m_14 (229 + 45) j (by omega))).trans (m_6 (229 + 45) j (by omega)))), (by omega), (by omega), (by omega), (by omega)⟩
      · refine g_aload_n (n := 22) hx 0 (dq tX10_opens 10 rfl) rfl rfl ?_
        refine g_iconst (n := 23) hx (dq tX10_opens 11 rfl) rfl ?_
        refine g_aload_n (n := 24) hx 0 (dq tX10_opens 12 rfl) rfl rfl ?_
        refine g_getI (n := 27) hx glX10_249 (sX10_38 (by decide)) (dq tX10_opens 13 rfl) rfl (fun h_29l h_29u => ?_)
        refine g_callVv (n := 30) (As := [vI 2, vI (M 229 38)]) (rest := []) hx (ctX10_fails3 Γ M 2 (by decide) (by decide) (M 229 38) (by omega) (by omega)) mlX10_284 (obX10 (by decide)) (dq tX10_opens 14 rfl) rfl (Nat.le_of_ble_eq_true rfl) (Nat.le_of_ble_eq_true rfl) (Nat.le_of_ble_eq_true rfl) rfl (fun M_31 p_33 => ?_)
        obtain ⟨f_34, h_35, h_36⟩ := p_33
        refine g_aload_n (n := 31) hx 0 (dq tX10_opens 15 rfl) rfl rfl ?_
        refine g_dup (n := 32) hx (dq tX10_opens 16 rfl) rfl rfl ?_
        refine g_getI (n := 35) hx glX10_318 (sX10_43 (by decide)) (dq tX10_opens 17 rfl) rfl (fun h_37l h_37u => ?_)
        have e_38 : M_31 229 43 = M 229 43 := (f_34 229 43 (by omega))
        refine g_iconst (n := 36) hx (dq tX10_opens 18 rfl) rfl ?_
        refine g_iadd (n := 37) hx (dq tX10_opens 19 rfl) rfl ?_
        refine g_any (fun z_39 h_40 => ?_)
        have e_41 : M_31 229 37 = M 229 37 := (f_34 229 37 (by omega))
        have e_42 : M_31 229 38 = M 229 38 := (f_34 229 38 (by omega))
        have e_43 : M_31 229 44 = M 229 44 := (f_34 229 44 (by omega))
        have e_44 : M_31 229 45 = M 229 45 := (f_34 229 45 (by omega))
        refine g_putI (n := 40) hx plX10_318 (sX10_43 (by decide)) (dq tX10_opens 20 rfl) rfl (by omega) (by omega) (fun M_45 m_46e m_46 => ?_)
        refine g_aload_n (n := 41) hx 0 (dq tX10_opens 21 rfl) rfl rfl ?_
        refine g_getR (n := 44) hx glX10_147 (sX10_56 (by decide)) (dq tX10_opens 22 rfl) rfl ?_
        refine g_aload_n (n := 45) hx 0 (dq tX10_opens 23 rfl) rfl rfl ?_
        refine g_getI (n := 48) hx glX10_315 (sX10_45 (by decide)) (dq tX10_opens 24 rfl) rfl (fun h_47l h_47u => ?_)
        have e_48 : M_45 229 45 = M_31 229 45 := (m_46 229 45 (by omega))
        refine g_iload_n (n := 49) hx 1 (dq tX10_opens 25 rfl) rfl rfl ?_
        have e_49 : M_45 229 37 = M_31 229 37 := (m_46 229 37 (by omega))
        have e_50 : M_45 229 38 = M_31 229 38 := (m_46 229 38 (by omega))
        have e_51 : M_45 229 39 = M_31 229 39 := (m_46 229 39 (by omega))
        have e_52 : M_45 229 44 = M_31 229 44 := (m_46 229 44 (by omega))
        refine g_iast (n := 50) (q := (M_45 229 45).toNat) hx (aX10_56 (b := 229) (by decide)) (dq tX10_opens 26 rfl) rfl (by omega) (by omega) (by omega) rfl (by omega) (by omega) (fun M_53 m_54e m_54 => ?_)
        refine g_aload_n (n := 51) hx 0 (dq tX10_opens 27 rfl) rfl rfl ?_
        refine g_dup (n := 52) hx (dq tX10_opens 28 rfl) rfl rfl ?_
        refine g_getI (n := 55) hx glX10_315 (sX10_45 (by decide)) (dq tX10_opens 29 rfl) rfl (fun h_55l h_55u => ?_)
        have e_56 : M_53 229 45 = M_45 229 45 := (m_54 229 45 (by omega))
        refine g_iconst (n := 56) hx (dq tX10_opens 30 rfl) rfl ?_
        refine g_iadd (n := 57) hx (dq tX10_opens 31 rfl) rfl ?_
        have e_57 : M_53 229 37 = M_45 229 37 := (m_54 229 37 (by omega))
        have e_58 : M_53 229 38 = M_45 229 38 := (m_54 229 38 (by omega))
        have e_59 : M_53 229 39 = M_45 229 39 := (m_54 229 39 (by omega))
        have e_60 : M_53 229 44 = M_45 229 44 := (m_54 229 44 (by omega))
        have e_61 : M_53 229 43 = M_45 229 43 := (m_54 229 43 (by omega))
        refine g_putI (n := 60) hx plX10_315 (sX10_45 (by decide)) (dq tX10_opens 32 rfl) rfl (by omega) (by omega) (fun M_62 m_63e m_63 => ?_)
        have e_64 : M_62 229 37 = M_53 229 37 := (m_63 229 37 (by omega))
        have e_65 : M_62 229 38 = M_53 229 38 := (m_63 229 38 (by omega))
        have e_66 : M_62 229 39 = M_53 229 39 := (m_63 229 39 (by omega))
        have e_67 : M_62 229 44 = M_53 229 44 := (m_63 229 44 (by omega))
        have e_68 : M_62 229 43 = M_53 229 43 := (m_63 229 43 (by omega))
        exact g_vret hx hr (dq tX10_opens 33 rfl) ⟨(fun u_ v_ huv_ => ((((m_63 u_ v_ huv_.2.2.1).trans (m_54 u_ v_ (by omega))).trans (m_46 u_ v_ huv_.2.1)).trans (f_34 u_ v_ huv_.1))), (by omega), (by have e9 : ((M_45 229 45).toNat) = (M 229 45).toNat := (by omega); have q9 := m_54e; rw [e9] at q9; exact ((m_63 (229 + 45) ((M 229 45).toNat) (by omega))).trans q9), (fun j hj => ((((m_63 (229 + 45) j (by omega)).trans (m_54 (229 + 45) j (by omega))).trans (m_46 (229 + 45) j (by omega))).trans (f_34 (229 + 45) j (by omega)))), (by omega), (by omega), (by omega), (by omega)⟩
    · refine g_iload_n (n := 7) hx 1 (dq tX10_opens 3 rfl) rfl rfl ?_
      refine g_bipush (n := 9) hx (dq tX10_opens 4 rfl) rfl (by decide) ?_
      refine g_icmp_ne (n := 12) (t := 40) hx (dq tX10_opens 5 rfl) (by decide) rfl (zrI hkl hku (by decide) (by decide)) ⟨by decide, by decide⟩ (fun c_69 => ?_) (fun c_69 => ?_)
      · refine g_aload_n (n := 41) hx 0 (dq tX10_opens 21 rfl) rfl rfl ?_
        refine g_getR (n := 44) hx glX10_147 (sX10_56 (by decide)) (dq tX10_opens 22 rfl) rfl ?_
        refine g_aload_n (n := 45) hx 0 (dq tX10_opens 23 rfl) rfl rfl ?_
        refine g_getI (n := 48) hx glX10_315 (sX10_45 (by decide)) (dq tX10_opens 24 rfl) rfl (fun h_70l h_70u => ?_)
        refine g_iload_n (n := 49) hx 1 (dq tX10_opens 25 rfl) rfl rfl ?_
        refine g_iast (n := 50) (q := (M 229 45).toNat) hx (aX10_56 (b := 229) (by decide)) (dq tX10_opens 26 rfl) rfl (by omega) (by omega) (by omega) rfl (by omega) (by omega) (fun M_71 m_72e m_72 => ?_)
        refine g_aload_n (n := 51) hx 0 (dq tX10_opens 27 rfl) rfl rfl ?_
        refine g_dup (n := 52) hx (dq tX10_opens 28 rfl) rfl rfl ?_
        refine g_getI (n := 55) hx glX10_315 (sX10_45 (by decide)) (dq tX10_opens 29 rfl) rfl (fun h_73l h_73u => ?_)
        have e_74 : M_71 229 45 = M 229 45 := (m_72 229 45 (by omega))
        refine g_iconst (n := 56) hx (dq tX10_opens 30 rfl) rfl ?_
        refine g_iadd (n := 57) hx (dq tX10_opens 31 rfl) rfl ?_
        have e_75 : M_71 229 37 = M 229 37 := (m_72 229 37 (by omega))
        have e_76 : M_71 229 38 = M 229 38 := (m_72 229 38 (by omega))
        have e_77 : M_71 229 39 = M 229 39 := (m_72 229 39 (by omega))
        have e_78 : M_71 229 44 = M 229 44 := (m_72 229 44 (by omega))
        have e_79 : M_71 229 43 = M 229 43 := (m_72 229 43 (by omega))
        refine g_putI (n := 60) hx plX10_315 (sX10_45 (by decide)) (dq tX10_opens 32 rfl) rfl (by omega) (by omega) (fun M_80 m_81e m_81 => ?_)
        have e_82 : M_80 229 37 = M_71 229 37 := (m_81 229 37 (by omega))
        have e_83 : M_80 229 38 = M_71 229 38 := (m_81 229 38 (by omega))
        have e_84 : M_80 229 39 = M_71 229 39 := (m_81 229 39 (by omega))
        have e_85 : M_80 229 44 = M_71 229 44 := (m_81 229 44 (by omega))
        have e_86 : M_80 229 43 = M_71 229 43 := (m_81 229 43 (by omega))
        exact g_vret hx hr (dq tX10_opens 33 rfl) ⟨(fun u_ v_ huv_ => ((m_81 u_ v_ huv_.2.2.1).trans (m_72 u_ v_ (by omega)))), (by omega), (by have e9 : ((M 229 45).toNat) = (M 229 45).toNat := (by omega); have q9 := m_72e; rw [e9] at q9; exact ((m_81 (229 + 45) ((M 229 45).toNat) (by omega))).trans q9), (fun j hj => ((m_81 (229 + 45) j (by omega)).trans (m_72 (229 + 45) j (by omega)))), (by omega), (by omega), (by omega), (by omega)⟩
      · refine g_aload_n (n := 13) hx 0 (dq tX10_opens 6 rfl) rfl rfl ?_
        refine g_getI (n := 16) hx glX10_318 (sX10_43 (by decide)) (dq tX10_opens 7 rfl) rfl (fun h_87l h_87u => ?_)
        refine g_bipush (n := 18) hx (dq tX10_opens 8 rfl) rfl (by decide) ?_
        refine g_icmp_ne (n := 21) (t := 30) hx (dq tX10_opens 9 rfl) (by decide) rfl (zrI h_87l h_87u (by decide) (by decide)) ⟨by decide, by decide⟩ (fun c_88 => ?_) (fun c_88 => ?_)
        · refine g_aload_n (n := 31) hx 0 (dq tX10_opens 15 rfl) rfl rfl ?_
          refine g_dup (n := 32) hx (dq tX10_opens 16 rfl) rfl rfl ?_
          refine g_getI (n := 35) hx glX10_318 (sX10_43 (by decide)) (dq tX10_opens 17 rfl) rfl (fun h_89l h_89u => ?_)
          refine g_iconst (n := 36) hx (dq tX10_opens 18 rfl) rfl ?_
          refine g_iadd (n := 37) hx (dq tX10_opens 19 rfl) rfl ?_
          refine g_putI (n := 40) hx plX10_318 (sX10_43 (by decide)) (dq tX10_opens 20 rfl) rfl (by omega) (by omega) (fun M_90 m_91e m_91 => ?_)
          refine g_aload_n (n := 41) hx 0 (dq tX10_opens 21 rfl) rfl rfl ?_
          refine g_getR (n := 44) hx glX10_147 (sX10_56 (by decide)) (dq tX10_opens 22 rfl) rfl ?_
          refine g_aload_n (n := 45) hx 0 (dq tX10_opens 23 rfl) rfl rfl ?_
          refine g_getI (n := 48) hx glX10_315 (sX10_45 (by decide)) (dq tX10_opens 24 rfl) rfl (fun h_92l h_92u => ?_)
          have e_93 : M_90 229 45 = M 229 45 := (m_91 229 45 (by omega))
          refine g_iload_n (n := 49) hx 1 (dq tX10_opens 25 rfl) rfl rfl ?_
          have e_94 : M_90 229 37 = M 229 37 := (m_91 229 37 (by omega))
          have e_95 : M_90 229 38 = M 229 38 := (m_91 229 38 (by omega))
          have e_96 : M_90 229 39 = M 229 39 := (m_91 229 39 (by omega))
          have e_97 : M_90 229 44 = M 229 44 := (m_91 229 44 (by omega))
          refine g_iast (n := 50) (q := (M_90 229 45).toNat) hx (aX10_56 (b := 229) (by decide)) (dq tX10_opens 26 rfl) rfl (by omega) (by omega) (by omega) rfl (by omega) (by omega) (fun M_98 m_99e m_99 => ?_)
          refine g_aload_n (n := 51) hx 0 (dq tX10_opens 27 rfl) rfl rfl ?_
          refine g_dup (n := 52) hx (dq tX10_opens 28 rfl) rfl rfl ?_
          refine g_getI (n := 55) hx glX10_315 (sX10_45 (by decide)) (dq tX10_opens 29 rfl) rfl (fun h_100l h_100u => ?_)
          have e_101 : M_98 229 45 = M_90 229 45 := (m_99 229 45 (by omega))
          refine g_iconst (n := 56) hx (dq tX10_opens 30 rfl) rfl ?_
          refine g_iadd (n := 57) hx (dq tX10_opens 31 rfl) rfl ?_
          have e_102 : M_98 229 37 = M_90 229 37 := (m_99 229 37 (by omega))
          have e_103 : M_98 229 38 = M_90 229 38 := (m_99 229 38 (by omega))
          have e_104 : M_98 229 39 = M_90 229 39 := (m_99 229 39 (by omega))
          have e_105 : M_98 229 44 = M_90 229 44 := (m_99 229 44 (by omega))
          have e_106 : M_98 229 43 = M_90 229 43 := (m_99 229 43 (by omega))
          refine g_putI (n := 60) hx plX10_315 (sX10_45 (by decide)) (dq tX10_opens 32 rfl) rfl (by omega) (by omega) (fun M_107 m_108e m_108 => ?_)
          have e_109 : M_107 229 37 = M_98 229 37 := (m_108 229 37 (by omega))
          have e_110 : M_107 229 38 = M_98 229 38 := (m_108 229 38 (by omega))
          have e_111 : M_107 229 39 = M_98 229 39 := (m_108 229 39 (by omega))
          have e_112 : M_107 229 44 = M_98 229 44 := (m_108 229 44 (by omega))
          have e_113 : M_107 229 43 = M_98 229 43 := (m_108 229 43 (by omega))
          exact g_vret hx hr (dq tX10_opens 33 rfl) ⟨(fun u_ v_ huv_ => (((m_108 u_ v_ huv_.2.2.1).trans (m_99 u_ v_ (by omega))).trans (m_91 u_ v_ huv_.2.1))), (by omega), (by have e9 : ((M_90 229 45).toNat) = (M 229 45).toNat := (by omega); have q9 := m_99e; rw [e9] at q9; exact ((m_108 (229 + 45) ((M 229 45).toNat) (by omega))).trans q9), (fun j hj => (((m_108 (229 + 45) j (by omega)).trans (m_99 (229 + 45) j (by omega))).trans (m_91 (229 + 45) j (by omega)))), (by omega), (by omega), (by omega), (by omega)⟩
        · refine g_aload_n (n := 22) hx 0 (dq tX10_opens 10 rfl) rfl rfl ?_
          refine g_iconst (n := 23) hx (dq tX10_opens 11 rfl) rfl ?_
          refine g_aload_n (n := 24) hx 0 (dq tX10_opens 12 rfl) rfl rfl ?_
          refine g_getI (n := 27) hx glX10_249 (sX10_38 (by decide)) (dq tX10_opens 13 rfl) rfl (fun h_114l h_114u => ?_)
          refine g_callVv (n := 30) (As := [vI 2, vI (M 229 38)]) (rest := []) hx (ctX10_fails3 Γ M 2 (by decide) (by decide) (M 229 38) (by omega) (by omega)) mlX10_284 (obX10 (by decide)) (dq tX10_opens 14 rfl) rfl (Nat.le_of_ble_eq_true rfl) (Nat.le_of_ble_eq_true rfl) (Nat.le_of_ble_eq_true rfl) rfl (fun M_116 p_118 => ?_)
          obtain ⟨f_119, h_120, h_121⟩ := p_118
          refine g_aload_n (n := 31) hx 0 (dq tX10_opens 15 rfl) rfl rfl ?_
          refine g_dup (n := 32) hx (dq tX10_opens 16 rfl) rfl rfl ?_
          refine g_getI (n := 35) hx glX10_318 (sX10_43 (by decide)) (dq tX10_opens 17 rfl) rfl (fun h_122l h_122u => ?_)
          have e_123 : M_116 229 43 = M 229 43 := (f_119 229 43 (by omega))
          refine g_iconst (n := 36) hx (dq tX10_opens 18 rfl) rfl ?_
          refine g_iadd (n := 37) hx (dq tX10_opens 19 rfl) rfl ?_
          refine g_any (fun z_124 h_125 => ?_)
          have e_126 : M_116 229 37 = M 229 37 := (f_119 229 37 (by omega))
          have e_127 : M_116 229 38 = M 229 38 := (f_119 229 38 (by omega))
          have e_128 : M_116 229 44 = M 229 44 := (f_119 229 44 (by omega))
          have e_129 : M_116 229 45 = M 229 45 := (f_119 229 45 (by omega))
          refine g_putI (n := 40) hx plX10_318 (sX10_43 (by decide)) (dq tX10_opens 20 rfl) rfl (by omega) (by omega) (fun M_130 m_131e m_131 => ?_)
          refine g_aload_n (n := 41) hx 0 (dq tX10_opens 21 rfl) rfl rfl ?_
          refine g_getR (n := 44) hx glX10_147 (sX10_56 (by decide)) (dq tX10_opens 22 rfl) rfl ?_
          refine g_aload_n (n := 45) hx 0 (dq tX10_opens 23 rfl) rfl rfl ?_
          refine g_getI (n := 48) hx glX10_315 (sX10_45 (by decide)) (dq tX10_opens 24 rfl) rfl (fun h_132l h_132u => ?_)
          have e_133 : M_130 229 45 = M_116 229 45 := (m_131 229 45 (by omega))
          refine g_iload_n (n := 49) hx 1 (dq tX10_opens 25 rfl) rfl rfl ?_
          have e_134 : M_130 229 37 = M_116 229 37 := (m_131 229 37 (by omega))
          have e_135 : M_130 229 38 = M_116 229 38 := (m_131 229 38 (by omega))
          have e_136 : M_130 229 39 = M_116 229 39 := (m_131 229 39 (by omega))
          have e_137 : M_130 229 44 = M_116 229 44 := (m_131 229 44 (by omega))
          refine g_iast (n := 50) (q := (M_130 229 45).toNat) hx (aX10_56 (b := 229) (by decide)) (dq tX10_opens 26 rfl) rfl (by omega) (by omega) (by omega) rfl (by omega) (by omega) (fun M_138 m_139e m_139 => ?_)
          refine g_aload_n (n := 51) hx 0 (dq tX10_opens 27 rfl) rfl rfl ?_
          refine g_dup (n := 52) hx (dq tX10_opens 28 rfl) rfl rfl ?_
          refine g_getI (n := 55) hx glX10_315 (sX10_45 (by decide)) (dq tX10_opens 29 rfl) rfl (fun h_140l h_140u => ?_)
          have e_141 : M_138 229 45 = M_130 229 45 := (m_139 229 45 (by omega))
          refine g_iconst (n := 56) hx (dq tX10_opens 30 rfl) rfl ?_
          refine g_iadd (n := 57) hx (dq tX10_opens 31 rfl) rfl ?_
          have e_142 : M_138 229 37 = M_130 229 37 := (m_139 229 37 (by omega))
          have e_143 : M_138 229 38 = M_130 229 38 := (m_139 229 38 (by omega))
          have e_144 : M_138 229 39 = M_130 229 39 := (m_139 229 39 (by omega))
          have e_145 : M_138 229 44 = M_130 229 44 := (m_139 229 44 (by omega))
          have e_146 : M_138 229 43 = M_130 229 43 := (m_139 229 43 (by omega))
          refine g_putI (n := 60) hx plX10_315 (sX10_45 (by decide)) (dq tX10_opens 32 rfl) rfl (by omega) (by omega) (fun M_147 m_148e m_148 => ?_)
          have e_149 : M_147 229 37 = M_138 229 37 := (m_148 229 37 (by omega))
          have e_150 : M_147 229 38 = M_138 229 38 := (m_148 229 38 (by omega))
          have e_151 : M_147 229 39 = M_138 229 39 := (m_148 229 39 (by omega))
          have e_152 : M_147 229 44 = M_138 229 44 := (m_148 229 44 (by omega))
          have e_153 : M_147 229 43 = M_138 229 43 := (m_148 229 43 (by omega))
          exact g_vret hx hr (dq tX10_opens 33 rfl) ⟨(fun u_ v_ huv_ => ((((m_148 u_ v_ huv_.2.2.1).trans (m_139 u_ v_ (by omega))).trans (m_131 u_ v_ huv_.2.1)).trans (f_119 u_ v_ huv_.1))), (by omega), (by have e9 : ((M_130 229 45).toNat) = (M 229 45).toNat := (by omega); have q9 := m_139e; rw [e9] at q9; exact ((m_148 (229 + 45) ((M 229 45).toNat) (by omega))).trans q9), (fun j hj => ((((m_148 (229 + 45) j (by omega)).trans (m_139 (229 + 45) j (by omega))).trans (m_131 (229 + 45) j (by omega))).trans (f_119 (229 + 45) j (by omega)))), (by omega), (by omega), (by omega), (by omega)⟩
  · refine g_iload_n (n := 1) hx 1 (dq tX10_opens 0 rfl) rfl rfl ?_
    refine g_bipush (n := 3) hx (dq tX10_opens 1 rfl) rfl (by decide) ?_
    refine g_icmp_eq (n := 6) (t := 12) hx (dq tX10_opens 2 rfl) (by decide) rfl (zrI hkl hku (by decide) (by decide)) ⟨by decide, by decide⟩ (fun c_154 => ?_) (fun c_154 => ?_)
    · refine g_aload_n (n := 13) hx 0 (dq tX10_opens 6 rfl) rfl rfl ?_
      refine g_getI (n := 16) hx glX10_318 (sX10_43 (by decide)) (dq tX10_opens 7 rfl) rfl (fun h_155l h_155u => ?_)
      refine g_bipush (n := 18) hx (dq tX10_opens 8 rfl) rfl (by decide) ?_
      refine g_icmp_ne (n := 21) (t := 30) hx (dq tX10_opens 9 rfl) (by decide) rfl (zrI h_155l h_155u (by decide) (by decide)) ⟨by decide, by decide⟩ (fun c_156 => ?_) (fun c_156 => ?_)
      · refine g_aload_n (n := 31) hx 0 (dq tX10_opens 15 rfl) rfl rfl ?_
        refine g_dup (n := 32) hx (dq tX10_opens 16 rfl) rfl rfl ?_
        refine g_getI (n := 35) hx glX10_318 (sX10_43 (by decide)) (dq tX10_opens 17 rfl) rfl (fun h_157l h_157u => ?_)
        refine g_iconst (n := 36) hx (dq tX10_opens 18 rfl) rfl ?_
        refine g_iadd (n := 37) hx (dq tX10_opens 19 rfl) rfl ?_
        refine g_any (fun z_158 h_159 => ?_)
        refine g_putI (n := 40) hx plX10_318 (sX10_43 (by decide)) (dq tX10_opens 20 rfl) rfl (by omega) (by omega) (fun M_160 m_161e m_161 => ?_)
        refine g_aload_n (n := 41) hx 0 (dq tX10_opens 21 rfl) rfl rfl ?_
        refine g_getR (n := 44) hx glX10_147 (sX10_56 (by decide)) (dq tX10_opens 22 rfl) rfl ?_
        refine g_aload_n (n := 45) hx 0 (dq tX10_opens 23 rfl) rfl rfl ?_
        refine g_getI (n := 48) hx glX10_315 (sX10_45 (by decide)) (dq tX10_opens 24 rfl) rfl (fun h_162l h_162u => ?_)
        have e_163 : M_160 229 45 = M 229 45 := (m_161 229 45 (by omega))
        refine g_iload_n (n := 49) hx 1 (dq tX10_opens 25 rfl) rfl rfl ?_
        have e_164 : M_160 229 37 = M 229 37 := (m_161 229 37 (by omega))
        have e_165 : M_160 229 38 = M 229 38 := (m_161 229 38 (by omega))
        have e_166 : M_160 229 39 = M 229 39 := (m_161 229 39 (by omega))
        have e_167 : M_160 229 44 = M 229 44 := (m_161 229 44 (by omega))
        refine g_iast (n := 50) (q := (M_160 229 45).toNat) hx (aX10_56 (b := 229) (by decide)) (dq tX10_opens 26 rfl) rfl (by omega) (by omega) (by omega) rfl (by omega) (by omega) (fun M_168 m_169e m_169 => ?_)
        refine g_aload_n (n := 51) hx 0 (dq tX10_opens 27 rfl) rfl rfl ?_
        refine g_dup (n := 52) hx (dq tX10_opens 28 rfl) rfl rfl ?_
        refine g_getI (n := 55) hx glX10_315 (sX10_45 (by decide)) (dq tX10_opens 29 rfl) rfl (fun h_170l h_170u => ?_)
        have e_171 : M_168 229 45 = M_160 229 45 := (m_169 229 45 (by omega))
        refine g_iconst (n := 56) hx (dq tX10_opens 30 rfl) rfl ?_
        refine g_iadd (n := 57) hx (dq tX10_opens 31 rfl) rfl ?_
        have e_172 : M_168 229 37 = M_160 229 37 := (m_169 229 37 (by omega))
        have e_173 : M_168 229 38 = M_160 229 38 := (m_169 229 38 (by omega))
        have e_174 : M_168 229 39 = M_160 229 39 := (m_169 229 39 (by omega))
        have e_175 : M_168 229 44 = M_160 229 44 := (m_169 229 44 (by omega))
        have e_176 : M_168 229 43 = M_160 229 43 := (m_169 229 43 (by omega))
        refine g_putI (n := 60) hx plX10_315 (sX10_45 (by decide)) (dq tX10_opens 32 rfl) rfl (by omega) (by omega) (fun M_177 m_178e m_178 => ?_)
        have e_179 : M_177 229 37 = M_168 229 37 := (m_178 229 37 (by omega))
        have e_180 : M_177 229 38 = M_168 229 38 := (m_178 229 38 (by omega))
        have e_181 : M_177 229 39 = M_168 229 39 := (m_178 229 39 (by omega))
        have e_182 : M_177 229 44 = M_168 229 44 := (m_178 229 44 (by omega))
        have e_183 : M_177 229 43 = M_168 229 43 := (m_178 229 43 (by omega))
        exact g_vret hx hr (dq tX10_opens 33 rfl) ⟨(fun u_ v_ huv_ => (((m_178 u_ v_ huv_.2.2.1).trans (m_169 u_ v_ (by omega))).trans (m_161 u_ v_ huv_.2.1))), (by omega), (by have e9 : ((M_160 229 45).toNat) = (M 229 45).toNat := (by omega); have q9 := m_169e; rw [e9] at q9; exact ((m_178 (229 + 45) ((M 229 45).toNat) (by omega))).trans q9), (fun j hj => (((m_178 (229 + 45) j (by omega)).trans (m_169 (229 + 45) j (by omega))).trans (m_161 (229 + 45) j (by omega)))), (by omega), (by omega), (by omega), (by omega)⟩
      · refine g_aload_n (n := 22) hx 0 (dq tX10_opens 10 rfl) rfl rfl ?_
        refine g_iconst (n := 23) hx (dq tX10_opens 11 rfl) rfl ?_
        refine g_aload_n (n := 24) hx 0 (dq tX10_opens 12 rfl) rfl rfl ?_
        refine g_getI (n := 27) hx glX10_249 (sX10_38 (by decide)) (dq tX10_opens 13 rfl) rfl (fun h_184l h_184u => ?_)
        refine g_callVv (n := 30) (As := [vI 2, vI (M 229 38)]) (rest := []) hx (ctX10_fails3 Γ M 2 (by decide) (by decide) (M 229 38) (by omega) (by omega)) mlX10_284 (obX10 (by decide)) (dq tX10_opens 14 rfl) rfl (Nat.le_of_ble_eq_true rfl) (Nat.le_of_ble_eq_true rfl) (Nat.le_of_ble_eq_true rfl) rfl (fun M_186 p_188 => ?_)
        obtain ⟨f_189, h_190, h_191⟩ := p_188
        refine g_aload_n (n := 31) hx 0 (dq tX10_opens 15 rfl) rfl rfl ?_
        refine g_dup (n := 32) hx (dq tX10_opens 16 rfl) rfl rfl ?_
        refine g_getI (n := 35) hx glX10_318 (sX10_43 (by decide)) (dq tX10_opens 17 rfl) rfl (fun h_192l h_192u => ?_)
        have e_193 : M_186 229 43 = M 229 43 := (f_189 229 43 (by omega))
        refine g_iconst (n := 36) hx (dq tX10_opens 18 rfl) rfl ?_
        refine g_iadd (n := 37) hx (dq tX10_opens 19 rfl) rfl ?_
        refine g_any (fun z_194 h_195 => ?_)
        have e_196 : M_186 229 37 = M 229 37 := (f_189 229 37 (by omega))
        have e_197 : M_186 229 38 = M 229 38 := (f_189 229 38 (by omega))
        have e_198 : M_186 229 44 = M 229 44 := (f_189 229 44 (by omega))
        have e_199 : M_186 229 45 = M 229 45 := (f_189 229 45 (by omega))
        refine g_putI (n := 40) hx plX10_318 (sX10_43 (by decide)) (dq tX10_opens 20 rfl) rfl (by omega) (by omega) (fun M_200 m_201e m_201 => ?_)
        refine g_aload_n (n := 41) hx 0 (dq tX10_opens 21 rfl) rfl rfl ?_
        refine g_getR (n := 44) hx glX10_147 (sX10_56 (by decide)) (dq tX10_opens 22 rfl) rfl ?_
        refine g_aload_n (n := 45) hx 0 (dq tX10_opens 23 rfl) rfl rfl ?_
        refine g_getI (n := 48) hx glX10_315 (sX10_45 (by decide)) (dq tX10_opens 24 rfl) rfl (fun h_202l h_202u => ?_)
        have e_203 : M_200 229 45 = M_186 229 45 := (m_201 229 45 (by omega))
        refine g_iload_n (n := 49) hx 1 (dq tX10_opens 25 rfl) rfl rfl ?_
        have e_204 : M_200 229 37 = M_186 229 37 := (m_201 229 37 (by omega))
        have e_205 : M_200 229 38 = M_186 229 38 := (m_201 229 38 (by omega))
        have e_206 : M_200 229 39 = M_186 229 39 := (m_201 229 39 (by omega))
        have e_207 : M_200 229 44 = M_186 229 44 := (m_201 229 44 (by omega))
        refine g_iast (n := 50) (q := (M_200 229 45).toNat) hx (aX10_56 (b := 229) (by decide)) (dq tX10_opens 26 rfl) rfl (by omega) (by omega) (by omega) rfl (by omega) (by omega) (fun M_208 m_209e m_209 => ?_)
        refine g_aload_n (n := 51) hx 0 (dq tX10_opens 27 rfl) rfl rfl ?_
        refine g_dup (n := 52) hx (dq tX10_opens 28 rfl) rfl rfl ?_
        refine g_getI (n := 55) hx glX10_315 (sX10_45 (by decide)) (dq tX10_opens 29 rfl) rfl (fun h_210l h_210u => ?_)
        have e_211 : M_208 229 45 = M_200 229 45 := (m_209 229 45 (by omega))
        refine g_iconst (n := 56) hx (dq tX10_opens 30 rfl) rfl ?_
        refine g_iadd (n := 57) hx (dq tX10_opens 31 rfl) rfl ?_
        have e_212 : M_208 229 37 = M_200 229 37 := (m_209 229 37 (by omega))
        have e_213 : M_208 229 38 = M_200 229 38 := (m_209 229 38 (by omega))
        have e_214 : M_208 229 39 = M_200 229 39 := (m_209 229 39 (by omega))
        have e_215 : M_208 229 44 = M_200 229 44 := (m_209 229 44 (by omega))
        have e_216 : M_208 229 43 = M_200 229 43 := (m_209 229 43 (by omega))
        refine g_putI (n := 60) hx plX10_315 (sX10_45 (by decide)) (dq tX10_opens 32 rfl) rfl (by omega) (by omega) (fun M_217 m_218e m_218 => ?_)
        have e_219 : M_217 229 37 = M_208 229 37 := (m_218 229 37 (by omega))
        have e_220 : M_217 229 38 = M_208 229 38 := (m_218 229 38 (by omega))
        have e_221 : M_217 229 39 = M_208 229 39 := (m_218 229 39 (by omega))
        have e_222 : M_217 229 44 = M_208 229 44 := (m_218 229 44 (by omega))
        have e_223 : M_217 229 43 = M_208 229 43 := (m_218 229 43 (by omega))
        exact g_vret hx hr (dq tX10_opens 33 rfl) ⟨(fun u_ v_ huv_ => ((((m_218 u_ v_ huv_.2.2.1).trans (m_209 u_ v_ (by omega))).trans (m_201 u_ v_ huv_.2.1)).trans (f_189 u_ v_ huv_.1))), (by omega), (by have e9 : ((M_200 229 45).toNat) = (M 229 45).toNat := (by omega); have q9 := m_209e; rw [e9] at q9; exact ((m_218 (229 + 45) ((M 229 45).toNat) (by omega))).trans q9), (fun j hj => ((((m_218 (229 + 45) j (by omega)).trans (m_209 (229 + 45) j (by omega))).trans (m_201 (229 + 45) j (by omega))).trans (f_189 (229 + 45) j (by omega)))), (by omega), (by omega), (by omega), (by omega)⟩
    · refine g_iload_n (n := 7) hx 1 (dq tX10_opens 3 rfl) rfl rfl ?_
      refine g_bipush (n := 9) hx (dq tX10_opens 4 rfl) rfl (by decide) ?_
      refine g_icmp_ne (n := 12) (t := 40) hx (dq tX10_opens 5 rfl) (by decide) rfl (zrI hkl hku (by decide) (by decide)) ⟨by decide, by decide⟩ (fun c_224 => ?_) (fun c_224 => ?_)
      · refine g_aload_n (n := 41) hx 0 (dq tX10_opens 21 rfl) rfl rfl ?_
        refine g_getR (n := 44) hx glX10_147 (sX10_56 (by decide)) (dq tX10_opens 22 rfl) rfl ?_
        refine g_aload_n (n := 45) hx 0 (dq tX10_opens 23 rfl) rfl rfl ?_
        refine g_getI (n := 48) hx glX10_315 (sX10_45 (by decide)) (dq tX10_opens 24 rfl) rfl (fun h_225l h_225u => ?_)
        refine g_iload_n (n := 49) hx 1 (dq tX10_opens 25 rfl) rfl rfl ?_
        refine g_iast (n := 50) (q := (M 229 45).toNat) hx (aX10_56 (b := 229) (by decide)) (dq tX10_opens 26 rfl) rfl (by omega) (by omega) (by omega) rfl (by omega) (by omega) (fun M_226 m_227e m_227 => ?_)
        refine g_aload_n (n := 51) hx 0 (dq tX10_opens 27 rfl) rfl rfl ?_
        refine g_dup (n := 52) hx (dq tX10_opens 28 rfl) rfl rfl ?_
        refine g_getI (n := 55) hx glX10_315 (sX10_45 (by decide)) (dq tX10_opens 29 rfl) rfl (fun h_228l h_228u => ?_)
        have e_229 : M_226 229 45 = M 229 45 := (m_227 229 45 (by omega))
        refine g_iconst (n := 56) hx (dq tX10_opens 30 rfl) rfl ?_
        refine g_iadd (n := 57) hx (dq tX10_opens 31 rfl) rfl ?_
        have e_230 : M_226 229 37 = M 229 37 := (m_227 229 37 (by omega))
        have e_231 : M_226 229 38 = M 229 38 := (m_227 229 38 (by omega))
        have e_232 : M_226 229 39 = M 229 39 := (m_227 229 39 (by omega))
        have e_233 : M_226 229 44 = M 229 44 := (m_227 229 44 (by omega))
        have e_234 : M_226 229 43 = M 229 43 := (m_227 229 43 (by omega))
        refine g_putI (n := 60) hx plX10_315 (sX10_45 (by decide)) (dq tX10_opens 32 rfl) rfl (by omega) (by omega) (fun M_235 m_236e m_236 => ?_)
        have e_237 : M_235 229 37 = M_226 229 37 := (m_236 229 37 (by omega))
        have e_238 : M_235 229 38 = M_226 229 38 := (m_236 229 38 (by omega))
        have e_239 : M_235 229 39 = M_226 229 39 := (m_236 229 39 (by omega))
        have e_240 : M_235 229 44 = M_226 229 44 := (m_236 229 44 (by omega))
        have e_241 : M_235 229 43 = M_226 229 43 := (m_236 229 43 (by omega))
        exact g_vret hx hr (dq tX10_opens 33 rfl) ⟨(fun u_ v_ huv_ => ((m_236 u_ v_ huv_.2.2.1).trans (m_227 u_ v_ (by omega)))), (by omega), (by have e9 : ((M 229 45).toNat) = (M 229 45).toNat := (by omega); have q9 := m_227e; rw [e9] at q9; exact ((m_236 (229 + 45) ((M 229 45).toNat) (by omega))).trans q9), (fun j hj => ((m_236 (229 + 45) j (by omega)).trans (m_227 (229 + 45) j (by omega)))), (by omega), (by omega), (by omega), (by omega)⟩
      · refine g_aload_n (n := 13) hx 0 (dq tX10_opens 6 rfl) rfl rfl ?_
        refine g_getI (n := 16) hx glX10_318 (sX10_43 (by decide)) (dq tX10_opens 7 rfl) rfl (fun h_242l h_242u => ?_)
        refine g_bipush (n := 18) hx (dq tX10_opens 8 rfl) rfl (by decide) ?_
        refine g_icmp_ne (n := 21) (t := 30) hx (dq tX10_opens 9 rfl) (by decide) rfl (zrI h_242l h_242u (by decide) (by decide)) ⟨by decide, by decide⟩ (fun c_243 => ?_) (fun c_243 => ?_)
        · refine g_aload_n (n := 31) hx 0 (dq tX10_opens 15 rfl) rfl rfl ?_
          refine g_dup (n := 32) hx (dq tX10_opens 16 rfl) rfl rfl ?_
          refine g_getI (n := 35) hx glX10_318 (sX10_43 (by decide)) (dq tX10_opens 17 rfl) rfl (fun h_244l h_244u => ?_)
          refine g_iconst (n := 36) hx (dq tX10_opens 18 rfl) rfl ?_
          refine g_iadd (n := 37) hx (dq tX10_opens 19 rfl) rfl ?_
          refine g_any (fun z_245 h_246 => ?_)
          refine g_putI (n := 40) hx plX10_318 (sX10_43 (by decide)) (dq tX10_opens 20 rfl) rfl (by omega) (by omega) (fun M_247 m_248e m_248 => ?_)
          refine g_aload_n (n := 41) hx 0 (dq tX10_opens 21 rfl) rfl rfl ?_
          refine g_getR (n := 44) hx glX10_147 (sX10_56 (by decide)) (dq tX10_opens 22 rfl) rfl ?_
          refine g_aload_n (n := 45) hx 0 (dq tX10_opens 23 rfl) rfl rfl ?_
          refine g_getI (n := 48) hx glX10_315 (sX10_45 (by decide)) (dq tX10_opens 24 rfl) rfl (fun h_249l h_249u => ?_)
          have e_250 : M_247 229 45 = M 229 45 := (m_248 229 45 (by omega))
          refine g_iload_n (n := 49) hx 1 (dq tX10_opens 25 rfl) rfl rfl ?_
          have e_251 : M_247 229 37 = M 229 37 := (m_248 229 37 (by omega))
          have e_252 : M_247 229 38 = M 229 38 := (m_248 229 38 (by omega))
          have e_253 : M_247 229 39 = M 229 39 := (m_248 229 39 (by omega))
          have e_254 : M_247 229 44 = M 229 44 := (m_248 229 44 (by omega))
          refine g_iast (n := 50) (q := (M_247 229 45).toNat) hx (aX10_56 (b := 229) (by decide)) (dq tX10_opens 26 rfl) rfl (by omega) (by omega) (by omega) rfl (by omega) (by omega) (fun M_255 m_256e m_256 => ?_)
          refine g_aload_n (n := 51) hx 0 (dq tX10_opens 27 rfl) rfl rfl ?_
          refine g_dup (n := 52) hx (dq tX10_opens 28 rfl) rfl rfl ?_
          refine g_getI (n := 55) hx glX10_315 (sX10_45 (by decide)) (dq tX10_opens 29 rfl) rfl (fun h_257l h_257u => ?_)
          have e_258 : M_255 229 45 = M_247 229 45 := (m_256 229 45 (by omega))
          refine g_iconst (n := 56) hx (dq tX10_opens 30 rfl) rfl ?_
          refine g_iadd (n := 57) hx (dq tX10_opens 31 rfl) rfl ?_
          have e_259 : M_255 229 37 = M_247 229 37 := (m_256 229 37 (by omega))
          have e_260 : M_255 229 38 = M_247 229 38 := (m_256 229 38 (by omega))
          have e_261 : M_255 229 39 = M_247 229 39 := (m_256 229 39 (by omega))
          have e_262 : M_255 229 44 = M_247 229 44 := (m_256 229 44 (by omega))
          have e_263 : M_255 229 43 = M_247 229 43 := (m_256 229 43 (by omega))
          refine g_putI (n := 60) hx plX10_315 (sX10_45 (by decide)) (dq tX10_opens 32 rfl) rfl (by omega) (by omega) (fun M_264 m_265e m_265 => ?_)
          have e_266 : M_264 229 37 = M_255 229 37 := (m_265 229 37 (by omega))
          have e_267 : M_264 229 38 = M_255 229 38 := (m_265 229 38 (by omega))
          have e_268 : M_264 229 39 = M_255 229 39 := (m_265 229 39 (by omega))
          have e_269 : M_264 229 44 = M_255 229 44 := (m_265 229 44 (by omega))
          have e_270 : M_264 229 43 = M_255 229 43 := (m_265 229 43 (by omega))
          exact g_vret hx hr (dq tX10_opens 33 rfl) ⟨(fun u_ v_ huv_ => (((m_265 u_ v_ huv_.2.2.1).trans (m_256 u_ v_ (by omega))).trans (m_248 u_ v_ huv_.2.1))), (by omega), (by have e9 : ((M_247 229 45).toNat) = (M 229 45).toNat := (by omega); have q9 := m_256e; rw [e9] at q9; exact ((m_265 (229 + 45) ((M 229 45).toNat) (by omega))).trans q9), (fun j hj => (((m_265 (229 + 45) j (by omega)).trans (m_256 (229 + 45) j (by omega))).trans (m_248 (229 + 45) j (by omega)))), (by omega), (by omega), (by omega), (by omega)⟩
        · refine g_aload_n (n := 22) hx 0 (dq tX10_opens 10 rfl) rfl rfl ?_
          refine g_iconst (n := 23) hx (dq tX10_opens 11 rfl) rfl ?_
          refine g_aload_n (n := 24) hx 0 (dq tX10_opens 12 rfl) rfl rfl ?_
          refine g_getI (n := 27) hx glX10_249 (sX10_38 (by decide)) (dq tX10_opens 13 rfl) rfl (fun h_271l h_271u => ?_)
          refine g_callVv (n := 30) (As := [vI 2, vI (M 229 38)]) (rest := []) hx (ctX10_fails3 Γ M 2 (by decide) (by decide) (M 229 38) (by omega) (by omega)) mlX10_284 (obX10 (by decide)) (dq tX10_opens 14 rfl) rfl (Nat.le_of_ble_eq_true rfl) (Nat.le_of_ble_eq_true rfl) (Nat.le_of_ble_eq_true rfl) rfl (fun M_273 p_275 => ?_)
          obtain ⟨f_276, h_277, h_278⟩ := p_275
          refine g_aload_n (n := 31) hx 0 (dq tX10_opens 15 rfl) rfl rfl ?_
          refine g_dup (n := 32) hx (dq tX10_opens 16 rfl) rfl rfl ?_
          refine g_getI (n := 35) hx glX10_318 (sX10_43 (by decide)) (dq tX10_opens 17 rfl) rfl (fun h_279l h_279u => ?_)
          have e_280 : M_273 229 43 = M 229 43 := (f_276 229 43 (by omega))
          refine g_iconst (n := 36) hx (dq tX10_opens 18 rfl) rfl ?_
          refine g_iadd (n := 37) hx (dq tX10_opens 19 rfl) rfl ?_
          refine g_any (fun z_281 h_282 => ?_)
          have e_283 : M_273 229 37 = M 229 37 := (f_276 229 37 (by omega))
          have e_284 : M_273 229 38 = M 229 38 := (f_276 229 38 (by omega))
          have e_285 : M_273 229 44 = M 229 44 := (f_276 229 44 (by omega))
          have e_286 : M_273 229 45 = M 229 45 := (f_276 229 45 (by omega))
          refine g_putI (n := 40) hx plX10_318 (sX10_43 (by decide)) (dq tX10_opens 20 rfl) rfl (by omega) (by omega) (fun M_287 m_288e m_288 => ?_)
          refine g_aload_n (n := 41) hx 0 (dq tX10_opens 21 rfl) rfl rfl ?_
          refine g_getR (n := 44) hx glX10_147 (sX10_56 (by decide)) (dq tX10_opens 22 rfl) rfl ?_
          refine g_aload_n (n := 45) hx 0 (dq tX10_opens 23 rfl) rfl rfl ?_
          refine g_getI (n := 48) hx glX10_315 (sX10_45 (by decide)) (dq tX10_opens 24 rfl) rfl (fun h_289l h_289u => ?_)
          have e_290 : M_287 229 45 = M_273 229 45 := (m_288 229 45 (by omega))
          refine g_iload_n (n := 49) hx 1 (dq tX10_opens 25 rfl) rfl rfl ?_
          have e_291 : M_287 229 37 = M_273 229 37 := (m_288 229 37 (by omega))
          have e_292 : M_287 229 38 = M_273 229 38 := (m_288 229 38 (by omega))
          have e_293 : M_287 229 39 = M_273 229 39 := (m_288 229 39 (by omega))
          have e_294 : M_287 229 44 = M_273 229 44 := (m_288 229 44 (by omega))
          refine g_iast (n := 50) (q := (M_287 229 45).toNat) hx (aX10_56 (b := 229) (by decide)) (dq tX10_opens 26 rfl) rfl (by omega) (by omega) (by omega) rfl (by omega) (by omega) (fun M_295 m_296e m_296 => ?_)
          refine g_aload_n (n := 51) hx 0 (dq tX10_opens 27 rfl) rfl rfl ?_
          refine g_dup (n := 52) hx (dq tX10_opens 28 rfl) rfl rfl ?_
          refine g_getI (n := 55) hx glX10_315 (sX10_45 (by decide)) (dq tX10_opens 29 rfl) rfl (fun h_297l h_297u => ?_)
          have e_298 : M_295 229 45 = M_287 229 45 := (m_296 229 45 (by omega))
          refine g_iconst (n := 56) hx (dq tX10_opens 30 rfl) rfl ?_
          refine g_iadd (n := 57) hx (dq tX10_opens 31 rfl) rfl ?_
          have e_299 : M_295 229 37 = M_287 229 37 := (m_296 229 37 (by omega))
          have e_300 : M_295 229 38 = M_287 229 38 := (m_296 229 38 (by omega))
          have e_301 : M_295 229 39 = M_287 229 39 := (m_296 229 39 (by omega))
          have e_302 : M_295 229 44 = M_287 229 44 := (m_296 229 44 (by omega))
          have e_303 : M_295 229 43 = M_287 229 43 := (m_296 229 43 (by omega))
          refine g_putI (n := 60) hx plX10_315 (sX10_45 (by decide)) (dq tX10_opens 32 rfl) rfl (by omega) (by omega) (fun M_304 m_305e m_305 => ?_)
          have e_306 : M_304 229 37 = M_295 229 37 := (m_305 229 37 (by omega))
          have e_307 : M_304 229 38 = M_295 229 38 := (m_305 229 38 (by omega))
          have e_308 : M_304 229 39 = M_295 229 39 := (m_305 229 39 (by omega))
          have e_309 : M_304 229 44 = M_295 229 44 := (m_305 229 44 (by omega))
          have e_310 : M_304 229 43 = M_295 229 43 := (m_305 229 43 (by omega))
          exact g_vret hx hr (dq tX10_opens 33 rfl) ⟨(fun u_ v_ huv_ => ((((m_305 u_ v_ huv_.2.2.1).trans (m_296 u_ v_ (by omega))).trans (m_288 u_ v_ huv_.2.1)).trans (f_276 u_ v_ huv_.1))), (by omega), (by have e9 : ((M_287 229 45).toNat) = (M 229 45).toNat := (by omega); have q9 := m_296e; rw [e9] at q9; exact ((m_305 (229 + 45) ((M 229 45).toNat) (by omega))).trans q9), (fun j hj => ((((m_305 (229 + 45) j (by omega)).trans (m_296 (229 + 45) j (by omega))).trans (m_288 (229 + 45) j (by omega))).trans (f_276 (229 + 45) j (by omega)))), (by omega), (by omega), (by omega), (by omega)⟩

abbrev qctX10_answersE9 (M : zM) (k : Int) (ua : Int) (t9 : Nat → Int) (n9 : Nat) (M' : zM) : Prop := (∀ u_ v_, (u_ ≠ 229 ∨ v_ ≠ 42) ∧ (u_ ≠ 229 ∨ v_ ≠ 43) ∧ (u_ ≠ 229 ∨ v_ ≠ 45) ∧ u_ ≠ 229 + 38 ∧ u_ ≠ 229 + 39 → M' u_ v_ = M u_ v_) ∧ (Ts M' ua 0) ∧ (Kp M M') ∧ (Kn t9 n9 (M (229 + 45)) (M' 229 45).toNat = Kn t9 n9 (M (229 + 45)) (M 229 45).toNat) ∧ (M 229 39 = 0 → (M' 229 43 = dpO (M (229 + 45)) (M' 229 45).toNat ∧ M' 229 43 ≤ 10)) ∧ (M 229 39 = 0 → Pp (M (229 + 45)) (M 229 45).toNat (M' 229 45).toNat 9) ∧ (M' 229 45 ≤ M 229 45)
set_option maxHeartbeats 4000000 in
set_option maxRecDepth 100000 in
theorem ctX10_answersE9 (Γ : Gam) (M : zM) (k : Int) (hkl : 9 ≤ k) (hku : k ≤ 9) (ua : Int) (t9 : Nat → Int) (n9 : Nat) (pre0 : M 229 39 = 0 → (M 229 43 = dpO (M (229 + 45)) (M 229 45).toNat ∧ M 229 43 ≤ 10)) (ex0 : Ts M ua 0) : CtV Γ yX10_answers cX10_answers 2 none 1 22 [aR Γ 229, vI k] M (qctX10_answersE9 M k ua t9 n9) := by
  refine met_v (by decide) (Nat.le_of_ble_eq_true rfl) (fun x hx hr => ?_)
  show G Γ x 2 (QV Γ x (qctX10_answersE9 M k ua t9 n9)) M 0 [(0, aR Γ 229), (1, vI k)] []
  refine g_iv (fun hI0 => ?_)
  have hI_37 : (0 : Int) ≤ M 229 37 ∧ M 229 37 ≤ 400 := hI0 229 37
  have hI_38 : (0 : Int) ≤ M 229 38 ∧ M 229 38 ≤ 402 := hI0 229 38
  have hI_45 : (0 : Int) ≤ M 229 45 ∧ M 229 45 ≤ 402 := hI0 229 45
  have hI_42 : (0 : Int) ≤ M 229 42 ∧ M 229 42 ≤ 300 := hI0 229 42
  have hI_39 : (0 : Int) ≤ M 229 39 ∧ M 229 39 ≤ 100000 := hI0 229 39
  have hI_40 : (0 : Int) ≤ M 229 40 ∧ M 229 40 ≤ 5 := hI0 229 40
  have hI_41 : (0 : Int) ≤ M 229 41 ∧ M 229 41 ≤ 6 := hI0 229 41
  clear hI0
  have L_2 : ∀ (n_ : Nat) (M_1 : zM), (∀ u_ v_, (u_ ≠ 229 ∨ v_ ≠ 43) ∧ (u_ ≠ 229 ∨ v_ ≠ 45) ∧ u_ ≠ 229 + 38 ∧ u_ ≠ 229 + 39 ∧ (u_ ≠ 229 ∨ v_ ≠ 42) → M_1 u_ v_ = M u_ v_) → (Kp M M_1) → (Ts M_1 ua 0) → (Kn t9 n9 (M (229 + 45)) (M_1 229 45).toNat = Kn t9 n9 (M (229 + 45)) (M 229 45).toNat) → (M 229 39 = 0 → (M_1 229 43 = dpO (M (229 + 45)) (M_1 229 45).toNat ∧ M_1 229 43 ≤ 10)) → (M_1 229 45 ≤ M 229 45) → (M_1 229 45 < M 229 45 → M (229 + 45) (M_1 229 45).toNat = 9) → ((M_1 229 45).toNat = n_) → G Γ x 2 (QV Γ x (qctX10_answersE9 M k ua t9 n9)) M_1 0 [(0, aR Γ 229), (1, vI k)] [] := by
    intro n_
    induction n_ using Nat.strongRecOn with
    | _ n_ ih_3 =>
      intro M_1 f_4 g_5 h_7 h_8 h_9 h_10 h_11 hm_6
      refine g_aload_n (n := 1) hx 0 (dq tX10_answers 0 rfl) rfl rfl ?_
      have e_12 : M_1 229 37 = M 229 37 := (f_4 229 37 (by omega))
      have e_13 : M_1 229 38 = M 229 38 := (f_4 229 38 (by omega))
      have e_14 : M_1 229 39 = M 229 39 := (f_4 229 39 (by omega))
      have e_15 : M_1 229 44 = M 229 44 := (f_4 229 44 (by omega))
      refine g_callVi (n := 4) (As := []) (rest := []) hx (ctX10_top Γ M_1 ) mlX10_321 (obX10 (by decide)) (dq tX10_answers 1 rfl) rfl (Nat.le_of_ble_eq_true rfl) (Nat.le_of_ble_eq_true rfl) (Nat.le_of_ble_eq_true rfl) rfl (fun z_16 M_17 h_18 p_19 => ?_)
      obtain ⟨rfl, h_21⟩ := p_19
      have hrow : M_1 (229 + 45) (M_1 229 45 - 1).toNat = M (229 + 45) (M_1 229 45 - 1).toNat := (f_4 (229 + 45) ((M_1 229 45 - 1).toNat) (by omega))
      have hid : (M_1 229 45 - 1).toNat = (M_1 229 45).toNat - 1 := by omega
      refine g_iload_n (n := 5) hx 1 (dq tX10_answers 2 rfl) rfl rfl ?_
      refine g_icmp_ne (n := 8) (t := 54) hx (dq tX10_answers 3 rfl) (by decide) rfl h_18 (zrI hkl hku (by decide) (by decide)) (fun c_22 => ?_) (fun c_22 => ?_)
      · exact g_vret hx hr (dq tX10_answers 29 rfl) ⟨(fun u_ v_ huv_ => (f_4 u_ v_ ⟨huv_.2.1, huv_.2.2.1, huv_.2.2.2.1, huv_.2.2.2.2, huv_.1⟩)), h_7, g_5, h_8, h_9, (fun h0 => by first | exact absurd h0 (by omega) | exact ⟨by omega, fun hh => h_11 (by omega), by by_cases z9 : M_1 229 45 = 0; exact Or.inl (by omega); exact Or.inr (by rw [← hid]; omega)⟩), (by omega)⟩
      · refine g_aload_n (n := 9) hx 0 (dq tX10_answers 4 rfl) rfl rfl ?_
        refine g_getI (n := 12) hx glX10_246 (sX10_39 (by decide)) (dq tX10_answers 5 rfl) rfl (fun h_23l h_23u => ?_)
        refine g_if_ne (n := 15) (t := 54) hx (dq tX10_answers 6 rfl) (by decide) rfl (zrI h_23l h_23u (by decide) (by decide)) (fun c_24 => ?_) (fun c_24 => ?_)
        · exact g_vret hx hr (dq tX10_answers 29 rfl) ⟨(fun u_ v_ huv_ => (f_4 u_ v_ ⟨huv_.2.1, huv_.2.2.1, huv_.2.2.2.1, huv_.2.2.2.2, huv_.1⟩)), h_7, g_5, h_8, h_9, (fun h0 => by first | exact absurd h0 (by omega) | exact ⟨by omega, fun hh => h_11 (by omega), by by_cases z9 : M_1 229 45 = 0; exact Or.inl (by omega); exact Or.inr (by rw [← hid]; omega)⟩), (by omega)⟩
        · have ht_25 := Ts.top h_7 (by omega)
          have ht_25n := Ts.nums h_7 (by omega)
          have hdp := h_9 (by omega)
          have hdl := dpO_le (M (229 + 45)) (M_1 229 45).toNat
          refine g_aload_n (n := 16) hx 0 (dq tX10_answers 7 rfl) rfl rfl ?_
          refine g_iload_n (n := 17) hx 1 (dq tX10_answers 8 rfl) rfl rfl ?_
          refine g_iconst (n := 18) hx (dq tX10_answers 9 rfl) rfl ?_
          refine g_callVv (n := 21) (As := [vI k, vI 0]) (rest := []) hx (ctX10_entry9 Γ M_1 k (by omega) (by omega) 0 (by decide) (by decide) ua (nbO M_1 (M_1 229 45).toNat + 1 - 0) (nnO M_1 (M_1 229 45).toNat) 0 (by omega) (by omega) (by omega) h_7.2) mlX10_299 (obX10 (by decide)) (dq tX10_answers 10 rfl) rfl (Nat.le_of_ble_eq_true rfl) (Nat.le_of_ble_eq_true rfl) (Nat.le_of_ble_eq_true rfl) rfl (fun M_27 p_29 => ?_)
          obtain ⟨f_30, h_31, h_32⟩ := p_29
          have g_33 := Kp.trans g_5 h_32
          refine g_aload_n (n := 22) hx 0 (dq tX10_answers 11 rfl) rfl rfl ?_
          refine g_dup (n := 23) hx (dq tX10_answers 12 rfl) rfl rfl ?_
          refine g_getI (n := 26) hx glX10_315 (sX10_45 (by decide)) (dq tX10_answers 13 rfl) rfl (fun h_34l h_34u => ?_)
          have e_35 : M_27 229 45 = M_1 229 45 := (f_30 229 45 (by omega))
          refine g_iconst (n := 27) hx (dq tX10_answers 14 rfl) rfl ?_
          refine g_isub (n := 28) hx (dq tX10_answers 15 rfl) rfl ?_
          have e_36 : M_27 229 37 = M_1 229 37 := (f_30 229 37 (by omega))
          have e_37 : M_27 229 38 = M_1 229 38 := (f_30 229 38 (by omega))
          have e_38 : M_27 229 39 = M_1 229 39 := (f_30 229 39 (by omega))
          have e_39 : M_27 229 44 = M_1 229 44 := (f_30 229 44 (by omega))
          have e_40 : M_27 229 43 = M_1 229 43 := (f_30 229 43 (by omega))
          refine g_putI (n := 31) hx plX10_315 (sX10_45 (by decide)) (dq tX10_answers 16 rfl) rfl (by omega) (by omega) (fun M_41 m_42e m_42 => ?_)
          have g_43 : Kp M M_41 := Kp.frame g_33 (fun c j hcj => m_42 c j (by omega))
          refine g_aload_n (n := 32) hx 0 (dq tX10_answers 17 rfl) rfl rfl ?_
          refine g_dup (n := 33) hx (dq tX10_answers 18 rfl) rfl rfl ?_
          refine g_getI (n := 36) hx glX10_318 (sX10_43 (by decide)) (dq tX10_answers 19 rfl) rfl (fun h_44l h_44u => ?_)
          have e_45 : M_41 229 43 = M_27 229 43 := (m_42 229 43 (by omega))
          refine g_iload_n (n := 37) hx 1 (dq tX10_answers 20 rfl) rfl rfl ?_
          refine g_bipush (n := 39) hx (dq tX10_answers 21 rfl) rfl (by decide) ?_
          refine g_icmp_ne (n := 42) (t := 46) hx (dq tX10_answers 22 rfl) (by decide) rfl (zrI hkl hku (by decide) (by decide)) ⟨by decide, by decide⟩ (fun c_46 => ?_) (fun c_46 => ?_)
          · omega
          · refine g_iconst (n := 43) hx (dq tX10_answers 23 rfl) rfl ?_
            refine g_goto (n := 47) hx (dq tX10_answers 24 rfl) (by decide) ?_
            refine g_isub (n := 48) hx (dq tX10_answers 26 rfl) rfl ?_
            have e_47 : M_41 229 37 = M_27 229 37 := (m_42 229 37 (by omega))
            have e_48 : M_41 229 38 = M_27 229 38 := (m_42 229 38 (by omega))
            have e_49 : M_41 229 39 = M_27 229 39 := (m_42 229 39 (by omega))
            have e_50 : M_41 229 44 = M_27 229 44 := (m_42 229 44 (by omega))
            refine g_putI (n := 51) hx plX10_318 (sX10_43 (by decide)) (dq tX10_answers 27 rfl) rfl (by omega) (by omega) (fun M_51 m_52e m_52 => ?_)
            have g_53 : Kp M M_51 := Kp.frame g_43 (fun c j hcj => m_52 c j (by omega))
            refine g_goto (n := 0) hx (dq tX10_answers 28 rfl) (by decide) ?_
            have e_54 : M_51 229 37 = M_41 229 37 := (m_52 229 37 (by omega))
            have e_55 : M_51 229 38 = M_41 229 38 := (m_52 229 38 (by omega))
            have e_56 : M_51 229 39 = M_41 229 39 := (m_52 229 39 (by omega))
            have e_57 : M_51 229 44 = M_41 229 44 := (m_52 229 44 (by omega))
            have e_58 : M_51 229 45 = M_41 229 45 := (m_52 229 45 (by omega))
            exact ih_3 _ (by omega) M_51 (fun u_ v_ huv_ => ((((m_52 u_ v_ huv_.1).trans (m_42 u_ v_ huv_.2.1)).trans (f_30 u_ v_ ⟨huv_.2.2.1, huv_.2.2.2.1, huv_.2.2.2.2⟩)).trans (f_4 u_ v_ ⟨huv_.1, huv_.2.1, huv_.2.2.1, huv_.2.2.2.1, huv_.2.2.2.2⟩))) g_53 (Ts.pop (M := M_1) (M1 := M_27) h_31 (by omega) (by omega) (fun j => (((m_52 (229 + 45) j (by omega)).trans (m_42 (229 + 45) j (by omega))).trans (f_30 (229 + 45) j (by omega)))) (fun c j hcj => ((m_52 c j (by omega)).trans (m_42 c j (by omega)))) (fun q => ⟨by omega, fun q2 => ⟨by omega, by omega⟩, by omega⟩) (by omega)) ((Kn_pop1 (r := M (229 + 45)) (o := (M_1 229 45).toNat) (by omega) (by rw [(show (M_51 229 45).toNat = (M_1 229 45 - 1).toNat by omega)]; omega)).trans h_8) (fun h0 => by have w3 : M (229 + 45) (M_51 229 45).toNat = k := (by rw [(show (M_51 229 45).toNat = (M_1 229 45 - 1).toNat by omega)]; omega); have w1 := dpO_go (r := M (229 + 45)) (o := (M_1 229 45).toNat) (o' := (M_51 229 45).toNat) (by omega); omega) (by omega) (fun _ => (by rw [(show (M_51 229 45).toNat = (M_1 229 45 - 1).toNat by omega)]; omega)) rfl
  exact L_2 _ M (fun _ _ _ => rfl) Kp.refl ex0 rfl pre0 (by omega) (by omega) rfl

abbrev qctX10_answersE10 (M : zM) (k : Int) (ua : Int) (t9 : Nat → Int) (n9 : Nat) (M' : zM) : Prop := (∀ u_ v_, (u_ ≠ 229 ∨ v_ ≠ 42) ∧ (u_ ≠ 229 ∨ v_ ≠ 43) ∧ (u_ ≠ 229 ∨ v_ ≠ 45) ∧ u_ ≠ 229 + 38 ∧ u_ ≠ 229 + 39 → M' u_ v_ = M u_ v_) ∧ (Ts M' ua 0) ∧ (Kp M M') ∧ (Kn t9 n9 (M (229 + 45)) (M' 229 45).toNat = Kn t9 n9 (M (229 + 45)) (M 229 45).toNat) ∧ (M 229 39 = 0 → (M' 229 43 = dpO (M (229 + 45)) (M' 229 45).toNat ∧ M' 229 43 ≤ 10)) ∧ (M 229 39 = 0 → Pp (M (229 + 45)) (M 229 45).toNat (M' 229 45).toNat k) ∧ (M' 229 45 ≤ M 229 45)
set_option maxHeartbeats 4000000 in
set_option maxRecDepth 100000 in
theorem ctX10_answersE10 (Γ : Gam) (M : zM) (k : Int) (hkl : 10 ≤ k) (hku : k ≤ 11) (ua : Int) (t9 : Nat → Int) (n9 : Nat) (pre0 : M 229 39 = 0 → (M 229 43 = dpO (M (229 + 45)) (M 229 45).toNat ∧ M 229 43 ≤ 10)) (ex0 : Ts M ua 0) : CtV Γ yX10_answers cX10_answers 2 none 1 22 [aR Γ 229, vI k] M (qctX10_answersE10 M k ua t9 n9) := by
  refine met_v (by decide) (Nat.le_of_ble_eq_true rfl) (fun x hx hr => ?_)
  show G Γ x 2 (QV Γ x (qctX10_answersE10 M k ua t9 n9)) M 0 [(0, aR Γ 229), (1, vI k)] []
  refine g_iv (fun hI0 => ?_)
  have hI_37 : (0 : Int) ≤ M 229 37 ∧ M 229 37 ≤ 400 := hI0 229 37
  have hI_38 : (0 : Int) ≤ M 229 38 ∧ M 229 38 ≤ 402 := hI0 229 38
  have hI_45 : (0 : Int) ≤ M 229 45 ∧ M 229 45 ≤ 402 := hI0 229 45
  have hI_42 : (0 : Int) ≤ M 229 42 ∧ M 229 42 ≤ 300 := hI0 229 42
  have hI_39 : (0 : Int) ≤ M 229 39 ∧ M 229 39 ≤ 100000 := hI0 229 39
  have hI_40 : (0 : Int) ≤ M 229 40 ∧ M 229 40 ≤ 5 := hI0 229 40
  have hI_41 : (0 : Int) ≤ M 229 41 ∧ M 229 41 ≤ 6 := hI0 229 41
  clear hI0
  have L_2 : ∀ (n_ : Nat) (M_1 : zM), (∀ u_ v_, (u_ ≠ 229 ∨ v_ ≠ 43) ∧ (u_ ≠ 229 ∨ v_ ≠ 45) ∧ u_ ≠ 229 + 38 ∧ u_ ≠ 229 + 39 ∧ (u_ ≠ 229 ∨ v_ ≠ 42) → M_1 u_ v_ = M u_ v_) → (Kp M M_1) → (Ts M_1 ua 0) → (Kn t9 n9 (M (229 + 45)) (M_1 229 45).toNat = Kn t9 n9 (M (229 + 45)) (M 229 45).toNat) → (M 229 39 = 0 → (M_1 229 43 = dpO (M (229 + 45)) (M_1 229 45).toNat ∧ M_1 229 43 ≤ 10)) → (M_1 229 45 ≤ M 229 45) → (M_1 229 45 < M 229 45 → M (229 + 45) (M_1 229 45).toNat = k) → ((M_1 229 45).toNat = n_) → G Γ x 2 (QV Γ x (qctX10_answersE10 M k ua t9 n9)) M_1 0 [(0, aR Γ 229), (1, vI k)] [] := by
    intro n_
    induction n_ using Nat.strongRecOn with
    | _ n_ ih_3 =>
      intro M_1 f_4 g_5 h_7 h_8 h_9 h_10 h_11 hm_6
      refine g_aload_n (n := 1) hx 0 (dq tX10_answers 0 rfl) rfl rfl ?_
      have e_12 : M_1 229 37 = M 229 37 := (f_4 229 37 (by omega))
      have e_13 : M_1 229 38 = M 229 38 := (f_4 229 38 (by omega))
      have e_14 : M_1 229 39 = M 229 39 := (f_4 229 39 (by omega))
      have e_15 : M_1 229 44 = M 229 44 := (f_4 229 44 (by omega))
      refine g_callVi (n := 4) (As := []) (rest := []) hx (ctX10_top Γ M_1 ) mlX10_321 (obX10 (by decide)) (dq tX10_answers 1 rfl) rfl (Nat.le_of_ble_eq_true rfl) (Nat.le_of_ble_eq_true rfl) (Nat.le_of_ble_eq_true rfl) rfl (fun z_16 M_17 h_18 p_19 => ?_)
      obtain ⟨rfl, h_21⟩ := p_19
      have hrow : M_1 (229 + 45) (M_1 229 45 - 1).toNat = M (229 + 45) (M_1 229 45 - 1).toNat := (f_4 (229 + 45) ((M_1 229 45 - 1).toNat) (by omega))
      have hid : (M_1 229 45 - 1).toNat = (M_1 229 45).toNat - 1 := by omega
      refine g_iload_n (n := 5) hx 1 (dq tX10_answers 2 rfl) rfl rfl ?_
      refine g_icmp_ne (n := 8) (t := 54) hx (dq tX10_answers 3 rfl) (by decide) rfl h_18 (zrI hkl hku (by decide) (by decide)) (fun c_22 => ?_) (fun c_22 => ?_)
      · exact g_vret hx hr (dq tX10_answers 29 rfl) ⟨(fun u_ v_ huv_ => (f_4 u_ v_ ⟨huv_.2.1, huv_.2.2.1, huv_.2.2.2.1, huv_.2.2.2.2, huv_.1⟩)), h_7, g_5, h_8, h_9, (fun h0 => by first | exact absurd h0 (by omega) | exact ⟨by omega, fun hh => h_11 (by omega), by by_cases z9 : M_1 229 45 = 0; exact Or.inl (by omega); exact Or.inr (by rw [← hid]; omega)⟩), (by omega)⟩
      · refine g_aload_n (n := 9) hx 0 (dq tX10_answers 4 rfl) rfl rfl ?_
        refine g_getI (n := 12) hx glX10_246 (sX10_39 (by decide)) (dq tX10_answers 5 rfl) rfl (fun h_23l h_23u => ?_)
        refine g_if_ne (n := 15) (t := 54) hx (dq tX10_answers 6 rfl) (by decide) rfl (zrI h_23l h_23u (by decide) (by decide)) (fun c_24 => ?_) (fun c_24 => ?_)
        · exact g_vret hx hr (dq tX10_answers 29 rfl) ⟨(fun u_ v_ huv_ => (f_4 u_ v_ ⟨huv_.2.1, huv_.2.2.1, huv_.2.2.2.1, huv_.2.2.2.2, huv_.1⟩)), h_7, g_5, h_8, h_9, (fun h0 => by first | exact absurd h0 (by omega) | exact ⟨by omega, fun hh => h_11 (by omega), by by_cases z9 : M_1 229 45 = 0; exact Or.inl (by omega); exact Or.inr (by rw [← hid]; omega)⟩), (by omega)⟩
        · have ht_25 := Ts.top h_7 (by omega)
          have ht_25n := Ts.nums h_7 (by omega)
          have hdp := h_9 (by omega)
          have hdl := dpO_le (M (229 + 45)) (M_1 229 45).toNat
          refine g_aload_n (n := 16) hx 0 (dq tX10_answers 7 rfl) rfl rfl ?_
          refine g_iload_n (n := 17) hx 1 (dq tX10_answers 8 rfl) rfl rfl ?_
          refine g_iconst (n := 18) hx (dq tX10_answers 9 rfl) rfl ?_
          refine g_callVv (n := 21) (As := [vI k, vI 0]) (rest := []) hx (ctX10_entry2 Γ M_1 k (by omega) (by omega) 0 (by decide) (by decide) ua (nbO M_1 (M_1 229 45).toNat + 1 - 0) (nnO M_1 (M_1 229 45).toNat) 0 (by omega) (by omega) (by omega) h_7.2) mlX10_299 (obX10 (by decide)) (dq tX10_answers 10 rfl) rfl (Nat.le_of_ble_eq_true rfl) (Nat.le_of_ble_eq_true rfl) (Nat.le_of_ble_eq_true rfl) rfl (fun M_27 p_29 => ?_)
          obtain ⟨f_30, h_31, h_32⟩ := p_29
          have g_33 := Kp.trans g_5 h_32
          refine g_aload_n (n := 22) hx 0 (dq tX10_answers 11 rfl) rfl rfl ?_
          refine g_dup (n := 23) hx (dq tX10_answers 12 rfl) rfl rfl ?_
          refine g_getI (n := 26) hx glX10_315 (sX10_45 (by decide)) (dq tX10_answers 13 rfl) rfl (fun h_34l h_34u => ?_)
          have e_35 : M_27 229 45 = M_1 229 45 := (f_30 229 45 (by omega))
          refine g_iconst (n := 27) hx (dq tX10_answers 14 rfl) rfl ?_
          refine g_isub (n := 28) hx (dq tX10_answers 15 rfl) rfl ?_
          have e_36 : M_27 229 37 = M_1 229 37 := (f_30 229 37 (by omega))
          have e_37 : M_27 229 38 = M_1 229 38 := (f_30 229 38 (by omega))
          have e_38 : M_27 229 39 = M_1 229 39 := (f_30 229 39 (by omega))
          have e_39 : M_27 229 44 = M_1 229 44 := (f_30 229 44 (by omega))
          have e_40 : M_27 229 43 = M_1 229 43 := (f_30 229 43 (by omega))
          refine g_putI (n := 31) hx plX10_315 (sX10_45 (by decide)) (dq tX10_answers 16 rfl) rfl (by omega) (by omega) (fun M_41 m_42e m_42 => ?_)
          have g_43 : Kp M M_41 := Kp.frame g_33 (fun c j hcj => m_42 c j (by omega))
          refine g_aload_n (n := 32) hx 0 (dq tX10_answers 17 rfl) rfl rfl ?_
          refine g_dup (n := 33) hx (dq tX10_answers 18 rfl) rfl rfl ?_
          refine g_getI (n := 36) hx glX10_318 (sX10_43 (by decide)) (dq tX10_answers 19 rfl) rfl (fun h_44l h_44u => ?_)
          have e_45 : M_41 229 43 = M_27 229 43 := (m_42 229 43 (by omega))
          refine g_iload_n (n := 37) hx 1 (dq tX10_answers 20 rfl) rfl rfl ?_
          refine g_bipush (n := 39) hx (dq tX10_answers 21 rfl) rfl (by decide) ?_
          refine g_icmp_ne (n := 42) (t := 46) hx (dq tX10_answers 22 rfl) (by decide) rfl (zrI hkl hku (by decide) (by decide)) ⟨by decide, by decide⟩ (fun c_46 => ?_) (fun c_46 => ?_)
          · refine g_iconst (n := 47) hx (dq tX10_answers 25 rfl) rfl ?_
            refine g_isub (n := 48) hx (dq tX10_answers 26 rfl) rfl ?_
            have e_47 : M_41 229 37 = M_27 229 37 := (m_42 229 37 (by omega))
            have e_48 : M_41 229 38 = M_27 229 38 := (m_42 229 38 (by omega))
            have e_49 : M_41 229 39 = M_27 229 39 := (m_42 229 39 (by omega))
            have e_50 : M_41 229 44 = M_27 229 44 := (m_42 229 44 (by omega))
            refine g_putI (n := 51) hx plX10_318 (sX10_43 (by decide)) (dq tX10_answers 27 rfl) rfl (by omega) (by omega) (fun M_51 m_52e m_52 => ?_)
            have g_53 : Kp M M_51 := Kp.frame g_43 (fun c j hcj => m_52 c j (by omega))
            refine g_goto (n := 0) hx (dq tX10_answers 28 rfl) (by decide) ?_
            have e_54 : M_51 229 37 = M_41 229 37 := (m_52 229 37 (by omega))
            have e_55 : M_51 229 38 = M_41 229 38 := (m_52 229 38 (by omega))
            have e_56 : M_51 229 39 = M_41 229 39 := (m_52 229 39 (by omega))
            have e_57 : M_51 229 44 = M_41 229 44 := (m_52 229 44 (by omega))
            have e_58 : M_51 229 45 = M_41 229 45 := (m_52 229 45 (by omega))
            exact ih_3 _ (by omega) M_51 (fun u_ v_ huv_ => ((((m_52 u_ v_ huv_.1).trans (m_42 u_ v_ huv_.2.1)).trans (f_30 u_ v_ ⟨huv_.2.2.1, huv_.2.2.2.1, huv_.2.2.2.2⟩)).trans (f_4 u_ v_ ⟨huv_.1, huv_.2.1, huv_.2.2.1, huv_.2.2.2.1, huv_.2.2.2.2⟩))) g_53 (Ts.pop (M := M_1) (M1 := M_27) h_31 (by omega) (by omega) (fun j => (((m_52 (229 + 45) j (by omega)).trans (m_42 (229 + 45) j (by omega))).trans (f_30 (229 + 45) j (by omega)))) (fun c j hcj => ((m_52 c j (by omega)).trans (m_42 c j (by omega)))) (fun q => ⟨by omega, fun q2 => ⟨by omega, by omega⟩, by omega⟩) (by omega)) ((Kn_pop1 (r := M (229 + 45)) (o := (M_1 229 45).toNat) (by omega) (by rw [(show (M_51 229 45).toNat = (M_1 229 45 - 1).toNat by omega)]; omega)).trans h_8) (fun h0 => by have w3 : M (229 + 45) (M_51 229 45).toNat = k := (by rw [(show (M_51 229 45).toNat = (M_1 229 45 - 1).toNat by omega)]; omega); have w1 := dpO_go (r := M (229 + 45)) (o := (M_1 229 45).toNat) (o' := (M_51 229 45).toNat) (by omega); omega) (by omega) (fun _ => (by rw [(show (M_51 229 45).toNat = (M_1 229 45 - 1).toNat by omega)]; omega)) rfl
          · omega
  exact L_2 _ M (fun _ _ _ => rfl) Kp.refl ex0 rfl pre0 (by omega) (by omega) rfl

abbrev qctX10_fact3 (M : zM) (ua : Int) (t9 : Nat → Int) (n9 : Nat) (a9 : Nat) (z : Int) (M' : zM) : Prop := (∀ u_ v_, (u_ ≠ 229 ∨ v_ ≠ 38) ∧ (u_ ≠ 229 ∨ v_ ≠ 39) ∧ (u_ ≠ 229 ∨ v_ ≠ 42) ∧ (u_ ≠ 229 ∨ v_ ≠ 44) ∧ u_ ≠ 229 + 38 ∧ u_ ≠ 229 + 39 ∧ (u_ ≠ 229 ∨ v_ ≠ 43) ∧ (u_ ≠ 229 ∨ v_ ≠ 45) ∧ u_ ≠ 229 + 45 → M' u_ v_ = M u_ v_) ∧ 0 ≤ z ∧ z ≤ 1 ∧ (Ts M' ua (1 - z)) ∧ (Kp M M') ∧ (M 229 38 ≤ M' 229 38) ∧ (z = 0 → M 229 38 + 1 ≤ M' 229 38) ∧ (M' 229 38 = M 229 38 ∨ M' 229 38 ≤ M 229 37) ∧ (z = 0 → bd (ovN t9 n9 (M' 229 38).toNat (M' 229 39) (M' 229 44)) (Kw t9 n9 (M' (229 + 45)) (M' 229 45).toNat) = bd (ovN t9 n9 a9 (M 229 39) (M 229 44)) (Kw t9 n9 (M (229 + 45)) (M 229 45).toNat)) ∧ (z = 1 → bd (ovN t9 n9 (M' 229 38).toNat (M' 229 39) (M' 229 44)) (Kn t9 n9 (M' (229 + 45)) (M' 229 45).toNat) = bd (ovN t9 n9 a9 (M 229 39) (M 229 44)) (Kw t9 n9 (M (229 + 45)) (M 229 45).toNat)) ∧ (Sh (M' (229 + 45)) (M' 229 45).toNat) ∧ (M' 229 39 = 0 → (M' 229 43 = dpO (M' (229 + 45)) (M' 229 45).toNat ∧ M' 229 43 ≤ 10 ∧ M 229 44 ≤ M' 229 44))
set_option maxHeartbeats 4000000 in
set_option maxRecDepth 100000 in
theorem ctX10_fact3 (Γ : Gam) (M : zM) (ua : Int) (t9 : Nat → Int) (n9 : Nat) (a9 : Nat) (pre0 : M 229 39 = 0) (pre1 : M 229 38 = a9) (pre2 : 0 ≤ M 229 44) (pre3 : M 229 43 = dpO (M (229 + 45)) (M 229 45).toNat) (pre4 : M 229 43 ≤ 10) (ex0 : Ts M ua 1) (ex1 : Ty M t9 n9) (ex2 : Sh (M (229 + 45)) (M 229 45).toNat) : CtI Γ yX10_fact cX10_fact 1 (some .boolean) 9 195 [aR Γ 229] M (qctX10_fact3 M ua t9 n9 a9) := by
  refine met_i (by decide) (Nat.le_of_ble_eq_true rfl) (fun x hx hr => ?_)
  show G Γ x 1 (QI Γ x (qctX10_fact3 M ua t9 n9 a9)) M 0 [(0, aR Γ 229)] []
  refine g_iv (fun hI0 => ?_)
  have hI_37 : (0 : Int) ≤ M 229 37 ∧ M 229 37 ≤ 400 := hI0 229 37
  have hI_38 : (0 : Int) ≤ M 229 38 ∧ M 229 38 ≤ 402 := hI0 229 38
  have hI_45 : (0 : Int) ≤ M 229 45 ∧ M 229 45 ≤ 402 := hI0 229 45
  have hI_42 : (0 : Int) ≤ M 229 42 ∧ M 229 42 ≤ 300 := hI0 229 42
  have hI_39 : (0 : Int) ≤ M 229 39 ∧ M 229 39 ≤ 100000 := hI0 229 39
  have hI_40 : (0 : Int) ≤ M 229 40 ∧ M 229 40 ≤ 5 := hI0 229 40
  have hI_41 : (0 : Int) ≤ M 229 41 ∧ M 229 41 ≤ 6 := hI0 229 41
  clear hI0
  have hty_n := ex1.1
  refine g_aload_n (n := 1) hx 0 (dq tX10_fact 0 rfl) rfl rfl ?_
  refine g_callVv (n := 4) (As := []) (rest := []) hx (ctX10_blanks3 Γ M t9 n9 a9 (by omega) ex1) mlX10_268 (obX10 (by decide)) (dq tX10_fact 1 rfl) rfl (Nat.le_of_ble_eq_true rfl) (Nat.le_of_ble_eq_true rfl) (Nat.le_of_ble_eq_true rfl) rfl (fun M_2 p_4 => ?_)
  obtain ⟨f_5, h_6, h_7, h_8⟩ := p_4
  have g_9 : Kp M M_2 := Kp.frame Kp.refl (fun c j hcj => f_5 c j (by omega))
  have g_10 : Ts M_2 ua 1 := Ts.mv ex0 (fun c j hcj => f_5 c j (by omega)) (by have q39 := f_5 229 39 (by omega); omega)
  have g_11 : Ty M_2 t9 n9 := Ty.frame ex1 (fun c j hcj => f_5 c j (by omega))
  refine g_aload_n (n := 5) hx 0 (dq tX10_fact 2 rfl) rfl rfl ?_
  refine g_ldcwS (n := 8) (q := 13) hx rfl rfl rfl (dq tX10_fact 3 rfl) rfl ?_
  have e_12 : M_2 229 37 = M 229 37 := (f_5 229 37 (by omega))
  have e_13 : M_2 229 39 = M 229 39 := (f_5 229 39 (by omega))
  have e_14 : M_2 229 44 = M 229 44 := (f_5 229 44 (by omega))
  have e_15 : M_2 229 45 = M 229 45 := (f_5 229 45 (by omega))
  have e_16 : M_2 229 43 = M 229 43 := (f_5 229 43 (by omega))
  refine g_callVi (n := 11) (As := [sR Γ 13]) (rest := []) hx (ctX10_stood3 Γ M_2 13 _ rfl (by decide) t9 n9 (sk t9 n9 a9) (by decide) (by omega) g_11 (by unfold LW; decide +kernel)) mlX10_271 (obX10 (by decide)) (dq tX10_fact 4 rfl) rfl (Nat.le_of_ble_eq_true rfl) (Nat.le_of_ble_eq_true rfl) (Nat.le_of_ble_eq_true rfl) rfl (fun z_17 M_18 h_19 p_20 => ?_)
  obtain ⟨rfl, h_22, h_23, h_24⟩ := p_20
  have h_25 : sln 13 = 3 := by decide
  refine g_if_eq (n := 14) (t := 32) hx (dq tX10_fact 5 rfl) (by decide) rfl h_19 (fun c_26 => ?_) (fun c_26 => ?_)
  · refine g_aload_n (n := 33) hx 0 (dq tX10_fact 17 rfl) rfl rfl ?_
    refine g_callVi (n := 36) (As := []) (rest := []) hx (ctX10_sign3 Γ M_2 t9 n9 (sk t9 n9 a9) (by omega) g_11) mlX10_252 (obX10 (by decide)) (dq tX10_fact 18 rfl) rfl (Nat.le_of_ble_eq_true rfl) (Nat.le_of_ble_eq_true rfl) (Nat.le_of_ble_eq_true rfl) rfl (fun z_27 M_28 h_29 p_30 => ?_)
    obtain ⟨rfl, h_32, h_33, h_34, h_35⟩ := p_30
    refine g_bipush (n := 38) hx (dq tX10_fact 19 rfl) rfl (by decide) ?_
    refine g_icmp_ne (n := 41) (t := 59) hx (dq tX10_fact 20 rfl) (by decide) rfl h_29 ⟨by decide, by decide⟩ (fun c_36 => ?_) (fun c_36 => ?_)
    · have hb_37 := nbO_pos (M := M_2) (M_2 229 45).toNat
      have hu_38 := Ts.nums g_10 (by omega)
      refine g_aload_n (n := 60) hx 0 (dq tX10_fact 32 rfl) rfl rfl ?_
      refine g_callVv (n := 63) (As := []) (rest := []) hx (ctX10_compared3 Γ M_2 ua (nbO M_2 (M_2 229 45).toNat + 1 - 1) (nnO M_2 (M_2 229 45).toNat) 0 t9 n9 (sk t9 n9 a9) (by omega) (by omega) (by omega) (by omega) g_10.2 g_11) mlX10_329 (obX10 (by decide)) (dq tX10_fact 33 rfl) rfl (Nat.le_of_ble_eq_true rfl) (Nat.le_of_ble_eq_true rfl) (Nat.le_of_ble_eq_true rfl) rfl (fun M_40 p_42 => ?_)
      obtain ⟨f_43, h_44, h_45, h_46, h_47, h_48, h_49, h_50⟩ := p_42
      have g_51 := Kp.trans g_9 h_45
      have g_53 : Ty M_40 t9 n9 := Ty.frame g_11 (fun c j hcj => f_43 c j (by omega))
      refine g_iconst (n := 64) hx (dq tX10_fact 34 rfl) rfl ?_
      have e_54 : M_40 229 37 = M_2 229 37 := (f_43 229 37 (by omega))
      have e_55 : M_40 229 45 = M_2 229 45 := (f_43 229 45 (by omega))
      have e_56 : M_40 229 43 = M_2 229 43 := (f_43 229 43 (by omega))
      exact g_zret hx hr (dq tX10_fact 35 rfl) (by omega) ⟨(fun u_ v_ huv_ => ((f_43 u_ v_ ⟨huv_.1, huv_.2.1, huv_.2.2.1, huv_.2.2.2.1, huv_.2.2.2.2.1, huv_.2.2.2.2.2.1⟩).trans (f_5 u_ v_ huv_.1))), (by omega), (by omega), (Ts.fact (M := M_2) h_44 (by omega) (fun j => (f_43 (229 + 45) j (by omega))) (by omega) (by omega) (by omega)), g_51, (by omega), (by omega), (by omega), (fun hz => absurd hz (by omega)), (fun _ => fk_cmp (a := sk t9 n9 a9) rfl (by omega) (by omega) (no13 (stN h_24 (by omega))) (fun j _ => ((f_43 (229 + 45) j (by omega)).trans (f_5 (229 + 45) j (by omega)))) (by omega) rfl (by omega) (by omega) h_50), (by rw [show (M_40 229 45).toNat = (M 229 45).toNat by omega]; exact Sh.same ex2 (fun j _ => ((f_43 (229 + 45) j (by omega)).trans (f_5 (229 + 45) j (by omega))))), (fun h0 => by rw [show (M_40 229 45).toNat = (M 229 45).toNat by omega, dpO_same (r := M (229 + 45)) (M 229 45).toNat (fun j _ => ((f_43 (229 + 45) j (by omega)).trans (f_5 (229 + 45) j (by omega))))]; omega)⟩
    · refine g_iv (fun hI_57 => ?_)
      have hI_577 : (0 : Int) ≤ M_2 229 37 ∧ M_2 229 37 ≤ 400 := hI_57 229 37
      have hI_575 : (0 : Int) ≤ M_2 229 45 ∧ M_2 229 45 ≤ 402 := hI_57 229 45
      clear hI_57
      have hu_58 := Ts.nums g_10 (by omega)
      have hdl := dpO_le (M (229 + 45)) (M 229 45).toNat
      refine g_aload_n (n := 42) hx 0 (dq tX10_fact 21 rfl) rfl rfl ?_
      refine g_bipush (n := 44) hx (dq tX10_fact 22 rfl) rfl (by decide) ?_
      refine g_callVv (n := 47) (As := [vI 12]) (rest := []) hx (ctX10_opens3 Γ M_2 12 (by decide) (by decide) (by omega) (by omega)) mlX10_326 (obX10 (by decide)) (dq tX10_fact 23 rfl) rfl (Nat.le_of_ble_eq_true rfl) (Nat.le_of_ble_eq_true rfl) (Nat.le_of_ble_eq_true rfl) rfl (fun M_60 p_62 => ?_)
      obtain ⟨f_63, h_64, h_65, h_66, h_67, h_68, h_69, h_70⟩ := p_62
      have g_71 : Kp M M_60 := Kp.frame g_9 (fun c j hcj => f_63 c j (by omega))
      have g_73 : Ty M_60 t9 n9 := Ty.frame g_11 (fun c j hcj => f_63 c j (by omega))
      refine g_aload_n (n := 48) hx 0 (dq tX10_fact 24 rfl) rfl rfl ?_
      refine g_dup (n := 49) hx (dq tX10_fact 25 rfl) rfl rfl ?_
      refine g_getI (n := 52) hx glX10_249 (sX10_38 (by decide)) (dq tX10_fact 26 rfl) rfl (fun h_74l h_74u => ?_)
      have e_75 : M_60 229 38 = M_2 229 38 := (f_63 229 38 (by omega))
      refine g_iconst (n := 53) hx (dq tX10_fact 27 rfl) rfl ?_
      refine g_iadd (n := 54) hx (dq tX10_fact 28 rfl) rfl ?_
      have e_76 : M_60 229 37 = M_2 229 37 := (f_63 229 37 (by omega))
      have e_77 : M_60 229 44 = M_2 229 44 := (f_63 229 44 (by omega))
      refine g_putI (n := 57) hx plX10_249 (sX10_38 (by decide)) (dq tX10_fact 29 rfl) rfl (by omega) (by omega) (fun M_78 m_79e m_79 => ?_)
      have g_80 : Kp M M_78 := Kp.frame g_71 (fun c j hcj => m_79 c j (by omega))
      have g_81 : Ty M_78 t9 n9 := Ty.frame g_73 (fun c j hcj => m_79 c j (by omega))
      refine g_iconst (n := 58) hx (dq tX10_fact 30 rfl) rfl ?_
      have e_82 : M_78 229 37 = M_60 229 37 := (m_79 229 37 (by omega))
      have e_83 : M_78 229 39 = M_60 229 39 := (m_79 229 39 (by omega))
      have e_84 : M_78 229 44 = M_60 229 44 := (m_79 229 44 (by omega))
      have e_85 : M_78 229 45 = M_60 229 45 := (m_79 229 45 (by omega))
      have e_86 : M_78 229 43 = M_60 229 43 := (m_79 229 43 (by omega))
      exact g_zret hx hr (dq tX10_fact 31 rfl) (by omega) ⟨(fun u_ v_ huv_ => (((m_79 u_ v_ huv_.1).trans (f_63 u_ v_ ⟨huv_.2.1, huv_.2.2.2.2.2.2.1, huv_.2.2.2.2.2.2.2.1, huv_.2.2.2.2.2.2.2.2⟩)).trans (f_5 u_ v_ huv_.1))), (by omega), (by omega), (Ts.push g_10 (by omega) (((m_79 (229 + 45) ((M_2 229 45).toNat) (by omega))).trans h_65) (by omega) (fun j hj => ((m_79 (229 + 45) j (by omega))).trans (h_66 j hj)) (fun c j hcj => ((m_79 c j (by omega)).trans (f_63 c j (by omega)))) (fun q => ⟨by omega, fun q2 => ⟨by omega, by omega, by omega⟩⟩) (by omega)), g_80, (by omega), (by omega), (by omega), (fun _ => fk_br (a := sk t9 n9 a9) rfl (by omega) (by omega) (by omega) (fun j hj => ((m_79 (229 + 45) j (by omega))).trans ((h_66 j (by omega)).trans ((f_5 (229 + 45) j (by omega))))) (by rw [(show (M 229 45).toNat = (M_2 229 45).toNat by omega)]; exact ((m_79 (229 + 45) ((M_2 229 45).toNat) (by omega))).trans h_65) (by omega) (by omega)), (fun hz => absurd hz (by omega)), (by rw [show (M_78 229 45).toNat = (M 229 45).toNat + 1 by omega]; exact Sh.push (k := 12) ex2 (fun j hj => ((m_79 (229 + 45) j (by omega))).trans ((h_66 j (by omega)).trans ((f_5 (229 + 45) j (by omega))))) (by rw [(show (M 229 45).toNat = (M_2 229 45).toNat by omega)]; exact ((m_79 (229 + 45) ((M_2 229 45).toNat) (by omega))).trans h_65) (by omega)), (fun h0 => by have w1 := (dpO_push (r := M (229 + 45)) (r' := M_78 (229 + 45)) (o := (M 229 45).toNat) (fun j hj => ((m_79 (229 + 45) j (by omega))).trans ((h_66 j (by omega)).trans ((f_5 (229 + 45) j (by omega)))))).1; have w2 : M_78 (229 + 45) (M 229 45).toNat = 12 := (by rw [(show (M 229 45).toNat = (M_2 229 45).toNat by omega)]; exact ((m_79 (229 + 45) ((M_2 229 45).toNat) (by omega))).trans h_65); have w3 := w1 (by omega); rw [show (M_78 229 45).toNat = (M 229 45).toNat + 1 by omega]; omega)⟩
  · refine g_iv (fun hI_87 => ?_)
    have hI_877 : (0 : Int) ≤ M_2 229 37 ∧ M_2 229 37 ≤ 400 := hI_87 229 37
    have hI_875 : (0 : Int) ≤ M_2 229 45 ∧ M_2 229 45 ≤ 402 := hI_87 229 45
    clear hI_87
    have hu_88 := Ts.nums g_10 (by omega)
    have hdl := dpO_le (M (229 + 45)) (M 229 45).toNat
    refine g_aload_n (n := 15) hx 0 (dq tX10_fact 6 rfl) rfl rfl ?_
    refine g_bipush (n := 17) hx (dq tX10_fact 7 rfl) rfl (by decide) ?_
    refine g_callVv (n := 20) (As := [vI 9]) (rest := []) hx (ctX10_opens3 Γ M_2 9 (by decide) (by decide) (by omega) (by omega)) mlX10_326 (obX10 (by decide)) (dq tX10_fact 8 rfl) rfl (Nat.le_of_ble_eq_true rfl) (Nat.le_of_ble_eq_true rfl) (Nat.le_of_ble_eq_true rfl) rfl (fun M_90 p_92 => ?_)
    obtain ⟨f_93, h_94, h_95, h_96, h_97, h_98, h_99, h_100⟩ := p_92
    have g_101 : Kp M M_90 := Kp.frame g_9 (fun c j hcj => f_93 c j (by omega))
    have g_103 : Ty M_90 t9 n9 := Ty.frame g_11 (fun c j hcj => f_93 c j (by omega))
    refine g_aload_n (n := 21) hx 0 (dq tX10_fact 9 rfl) rfl rfl ?_
    refine g_dup (n := 22) hx (dq tX10_fact 10 rfl) rfl rfl ?_
    refine g_getI (n := 25) hx glX10_249 (sX10_38 (by decide)) (dq tX10_fact 11 rfl) rfl (fun h_104l h_104u => ?_)
    have e_105 : M_90 229 38 = M_2 229 38 := (f_93 229 38 (by omega))
    refine g_iconst (n := 26) hx (dq tX10_fact 12 rfl) rfl ?_
    refine g_iadd (n := 27) hx (dq tX10_fact 13 rfl) rfl ?_
    have e_106 : M_90 229 37 = M_2 229 37 := (f_93 229 37 (by omega))
    have e_107 : M_90 229 44 = M_2 229 44 := (f_93 229 44 (by omega))
    refine g_putI (n := 30) hx plX10_249 (sX10_38 (by decide)) (dq tX10_fact 14 rfl) rfl (by omega) (by omega) (fun M_108 m_109e m_109 => ?_)
    have g_110 : Kp M M_108 := Kp.frame g_101 (fun c j hcj => m_109 c j (by omega))
    have g_111 : Ty M_108 t9 n9 := Ty.frame g_103 (fun c j hcj => m_109 c j (by omega))
    refine g_iconst (n := 31) hx (dq tX10_fact 15 rfl) rfl ?_
    have e_112 : M_108 229 37 = M_90 229 37 := (m_109 229 37 (by omega))
    have e_113 : M_108 229 39 = M_90 229 39 := (m_109 229 39 (by omega))
    have e_114 : M_108 229 44 = M_90 229 44 := (m_109 229 44 (by omega))
    have e_115 : M_108 229 45 = M_90 229 45 := (m_109 229 45 (by omega))
    have e_116 : M_108 229 43 = M_90 229 43 := (m_109 229 43 (by omega))
    exact g_zret hx hr (dq tX10_fact 16 rfl) (by omega) ⟨(fun u_ v_ huv_ => (((m_109 u_ v_ huv_.1).trans (f_93 u_ v_ ⟨huv_.2.1, huv_.2.2.2.2.2.2.1, huv_.2.2.2.2.2.2.2.1, huv_.2.2.2.2.2.2.2.2⟩)).trans (f_5 u_ v_ huv_.1))), (by omega), (by omega), (Ts.push g_10 (by omega) (((m_109 (229 + 45) ((M_2 229 45).toNat) (by omega))).trans h_95) (by omega) (fun j hj => ((m_109 (229 + 45) j (by omega))).trans (h_96 j hj)) (fun c j hcj => ((m_109 c j (by omega)).trans (f_93 c j (by omega)))) (fun q => ⟨by omega, fun q2 => ⟨by omega, by omega, by omega⟩⟩) (by omega)), g_110, (by omega), (by omega), (by omega), (fun _ => fk_not (a := sk t9 n9 a9) rfl (by omega) (is13 (stY h_24 (by omega)).1) (fun j hj => ((m_109 (229 + 45) j (by omega))).trans ((h_96 j (by omega)).trans ((f_5 (229 + 45) j (by omega))))) (by rw [(show (M 229 45).toNat = (M_2 229 45).toNat by omega)]; exact ((m_109 (229 + 45) ((M_2 229 45).toNat) (by omega))).trans h_95) (by omega) (by omega)), (fun hz => absurd hz (by omega)), (by rw [show (M_108 229 45).toNat = (M 229 45).toNat + 1 by omega]; exact Sh.push (k := 9) ex2 (fun j hj => ((m_109 (229 + 45) j (by omega))).trans ((h_96 j (by omega)).trans ((f_5 (229 + 45) j (by omega))))) (by rw [(show (M 229 45).toNat = (M_2 229 45).toNat by omega)]; exact ((m_109 (229 + 45) ((M_2 229 45).toNat) (by omega))).trans h_95) (by omega)), (fun h0 => by have w1 := (dpO_push (r := M (229 + 45)) (r' := M_108 (229 + 45)) (o := (M 229 45).toNat) (fun j hj => ((m_109 (229 + 45) j (by omega))).trans ((h_96 j (by omega)).trans ((f_5 (229 + 45) j (by omega)))))).1; have w2 : M_108 (229 + 45) (M 229 45).toNat = 9 := (by rw [(show (M 229 45).toNat = (M_2 229 45).toNat by omega)]; exact ((m_109 (229 + 45) ((M_2 229 45).toNat) (by omega))).trans h_95); have w3 := w1 (by omega); rw [show (M_108 229 45).toNat = (M 229 45).toNat + 1 by omega]; omega)⟩
