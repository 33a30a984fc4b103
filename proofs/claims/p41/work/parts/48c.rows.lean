abbrev qctX10_ruleClause (M : zM) (n : Int) (M' : zM) : Prop := (∀ u_ v_, (u_ ≠ 229 ∨ v_ ≠ 38) ∧ (u_ ≠ 229 ∨ v_ ≠ 39) ∧ (u_ ≠ 229 ∨ v_ ≠ 42) ∧ (u_ ≠ 229 ∨ v_ ≠ 44) ∧ u_ ≠ 229 + 38 ∧ u_ ≠ 229 + 39 ∧ (u_ ≠ 229 ∨ v_ ≠ 43) ∧ (u_ ≠ 229 ∨ v_ ≠ 45) ∧ u_ ≠ 229 + 45 ∧ u_ ≠ 229 + 41 ∧ u_ ≠ 229 + 42 ∧ u_ ≠ 229 + 43 ∧ u_ ≠ 229 + 44 → M' u_ v_ = M u_ v_) ∧ (Rd M' (M' 229 42) 0 0 0) ∧ (Kp M M') ∧ (M 229 38 ≤ M' 229 38) ∧ (M' 229 38 ≤ M 229 37 + 1) ∧ (M' 229 39 = 0 → (n ≤ 11 ∧ CO M' (M 229 40).toNat (12 * (M 229 40).toNat + n.toNat) ∧ M' (229 + 44) (12 * (M 229 40).toNat + n.toNat) ≤ M' 229 42)) ∧ (∀ c j : Nat, (c = 229 + 42 ∨ c = 229 + 43 ∨ c = 229 + 44) → j ≠ 12 * (M 229 40).toNat + n.toNat → M' c j = M c j)
set_option maxHeartbeats 4000000 in
set_option maxRecDepth 100000 in
theorem ctX10_ruleClause (Γ : Gam) (M : zM) (n : Int) (hnl : 0 ≤ n) (hnu : n ≤ 12) (pre0 : M 229 39 = 0) (ex0 : Rd M (M 229 42) 0 0 0) : CtV Γ yX10_ruleClause cX10_ruleClause 5 none 11 239 [aR Γ 229, vI n] M (qctX10_ruleClause M n) := by
  refine met_v (by decide) (Nat.le_of_ble_eq_true rfl) (fun x hx hr => ?_)
  show G Γ x 5 (QV Γ x (qctX10_ruleClause M n)) M 0 [(0, aR Γ 229), (1, vI n)] []
  refine g_iv (fun hI0 => ?_)
  have hI_37 : (0 : Int) ≤ M 229 37 ∧ M 229 37 ≤ 400 := hI0 229 37
  have hI_38 : (0 : Int) ≤ M 229 38 ∧ M 229 38 ≤ 402 := hI0 229 38
  have hI_45 : (0 : Int) ≤ M 229 45 ∧ M 229 45 ≤ 402 := hI0 229 45
  have hI_42 : (0 : Int) ≤ M 229 42 ∧ M 229 42 ≤ 300 := hI0 229 42
  have hI_39 : (0 : Int) ≤ M 229 39 ∧ M 229 39 ≤ 100000 := hI0 229 39
  have hI_40 : (0 : Int) ≤ M 229 40 ∧ M 229 40 ≤ 5 := hI0 229 40
  have hI_41 : (0 : Int) ≤ M 229 41 ∧ M 229 41 ≤ 6 := hI0 229 41
  clear hI0
  have hr_1 := Rd.nums ex0 (by omega)
  refine g_aload_n (n := 1) hx 0 (dq tX10_ruleClause 0 rfl) rfl rfl ?_
  refine g_callVv (n := 4) (As := []) (rest := []) hx (ctX10_blanks Γ M ) mlX10_268 (obX10 (by decide)) (dq tX10_ruleClause 1 rfl) rfl (Nat.le_of_ble_eq_true rfl) (Nat.le_of_ble_eq_true rfl) (Nat.le_of_ble_eq_true rfl) rfl (fun M_3 p_5 => ?_)
  obtain ⟨f_6, h_7, h_8⟩ := p_5
  have g_9 : Kp M M_3 := Kp.frame Kp.refl (fun c j hcj => f_6 c j (by omega))
  have g_10 : Rd M_3 (M 229 42) 0 0 0 := Rd.mv ex0 (fun c j hcj => f_6 c j (by omega)) (by have q39 := f_6 229 39 (by omega); omega)
  refine g_aload_n (n := 5) hx 0 (dq tX10_ruleClause 2 rfl) rfl rfl ?_
  refine g_getI (n := 8) hx glX10_249 (sX10_38 (by decide)) (dq tX10_ruleClause 3 rfl) rfl (fun h_11l h_11u => ?_)
  refine g_istore_n (n := 9) (lv' := [(2, vI (M_3 229 38)), (0, aR Γ 229), (1, vI n)]) hx (dq tX10_ruleClause 4 rfl) (by decide) rfl rfl ?_
  refine g_iconst (n := 10) hx (dq tX10_ruleClause 5 rfl) rfl ?_
  refine g_istore_n (n := 11) (lv' := [(3, vI 0), (2, vI (M_3 229 38)), (0, aR Γ 229), (1, vI n)]) hx (dq tX10_ruleClause 6 rfl) (by decide) rfl rfl ?_
  have L_13 : ∀ (n_ : Nat) (i_12 : Int), (0 ≤ i_12) → (i_12 ≤ 5) → ((5 - i_12).toNat = n_) → G Γ x 5 (QV Γ x (qctX10_ruleClause M n)) M_3 11 [(3, vI i_12), (2, vI (M_3 229 38)), (0, aR Γ 229), (1, vI n)] [] := by
    intro n_
    induction n_ using Nat.strongRecOn with
    | _ n_ ih_14 =>
      intro i_12 h_17 h_18 hm_16
      refine g_iload_n (n := 12) hx 0 (dq tX10_ruleClause 7 rfl) rfl rfl ?_
      refine g_iconst (n := 13) hx (dq tX10_ruleClause 8 rfl) rfl ?_
      refine g_icmp_ge (n := 16) (t := 33) hx (dq tX10_ruleClause 9 rfl) (by decide) rfl ⟨by omega, by omega⟩ ⟨by decide, by decide⟩ (fun c_19 => ?_) (fun c_19 => ?_)
      · refine g_iload_n (n := 34) hx 0 (dq tX10_ruleClause 17 rfl) rfl rfl ?_
        refine g_iconst (n := 35) hx (dq tX10_ruleClause 18 rfl) rfl ?_
        refine g_icmp_ne (n := 38) (t := 45) hx (dq tX10_ruleClause 19 rfl) (by decide) rfl ⟨by omega, by omega⟩ ⟨by decide, by decide⟩ (fun c_20 => ?_) (fun c_20 => ?_)
        · omega
        · refine g_aload_n (n := 39) hx 2 (dq tX10_ruleClause 20 rfl) rfl rfl ?_
          refine g_iconst (n := 40) hx (dq tX10_ruleClause 21 rfl) rfl ?_
          refine g_iload_n (n := 41) hx 1 (dq tX10_ruleClause 22 rfl) rfl rfl ?_
          have e_21 : M_3 229 37 = M 229 37 := (f_6 229 37 (by omega))
          have e_22 : M_3 229 39 = M 229 39 := (f_6 229 39 (by omega))
          have e_23 : M_3 229 40 = M 229 40 := (f_6 229 40 (by omega))
          have e_24 : M_3 229 42 = M 229 42 := (f_6 229 42 (by omega))
          refine g_callVv (n := 44) (As := [vI 0, vI (M_3 229 38)]) (rest := []) hx (ctX10_fails Γ M_3 0 (by decide) (by decide) (M_3 229 38) (by omega) (by omega)) mlX10_284 (obX10 (by decide)) (dq tX10_ruleClause 23 rfl) rfl (Nat.le_of_ble_eq_true rfl) (Nat.le_of_ble_eq_true rfl) (Nat.le_of_ble_eq_true rfl) rfl (fun M_26 p_28 => ?_)
          obtain ⟨f_29, h_30⟩ := p_28
          have g_31 : Kp M M_26 := Kp.frame g_9 (fun c j hcj => f_29 c j (by omega))
          have e_33 : M_26 229 37 = M_3 229 37 := (f_29 229 37 (by omega))
          have e_34 : M_26 229 38 = M_3 229 38 := (f_29 229 38 (by omega))
          have e_35 : M_26 229 40 = M_3 229 40 := (f_29 229 40 (by omega))
          have e_36 : M_26 229 42 = M_3 229 42 := (f_29 229 42 (by omega))
          exact g_vret hx hr (dq tX10_ruleClause 24 rfl) ⟨(fun u_ v_ huv_ => ((f_29 u_ v_ huv_.2.1).trans (f_6 u_ v_ huv_.1))), (Rd.vac (by omega)), g_31, (by omega), (by omega), (fun q => absurd q (by omega)), (fun c j hc hj => ((f_29 c j (by omega)).trans (f_6 c j (by omega))))⟩
      · refine g_aload_n (n := 17) hx 2 (dq tX10_ruleClause 10 rfl) rfl rfl ?_
        refine g_iload_n (n := 18) hx 0 (dq tX10_ruleClause 11 rfl) rfl rfl ?_
        have e_37 : M_3 229 37 = M 229 37 := (f_6 229 37 (by omega))
        have e_38 : M_3 229 39 = M 229 39 := (f_6 229 39 (by omega))
        have e_39 : M_3 229 40 = M 229 40 := (f_6 229 40 (by omega))
        have e_40 : M_3 229 42 = M 229 42 := (f_6 229 42 (by omega))
        refine g_callSs (n := 21) (As := [vI i_12]) (rest := [aR Γ 229]) hx (ctX10_actWord Γ M_3 i_12 (by omega) (by omega)) mlX10_394 (dq tX10_ruleClause 12 rfl) rfl (Nat.le_of_ble_eq_true rfl) (Nat.le_of_ble_eq_true rfl) (Nat.le_of_ble_eq_true rfl) rfl (fun z_41 M_42 p_44 => ?_)
        obtain ⟨rfl, h_46, h_47⟩ := p_44
        obtain ⟨qz_41, hz_41⟩ := sN_some z_41 (by omega)
        have hz_41n := sNle z_41 _ hz_41
        have hz_41l := sln_eq hz_41
        have h_48 := alF_pos (k := i_12) (by omega) (by omega)
        refine g_callVi (n := 24) (As := [sR Γ z_41]) (rest := []) hx (ctX10_stood Γ M_3 z_41 _ hz_41 hz_41n (by omega)) mlX10_271 (obX10 (by decide)) (dq tX10_ruleClause 13 rfl) rfl (Nat.le_of_ble_eq_true rfl) (Nat.le_of_ble_eq_true rfl) (Nat.le_of_ble_eq_true rfl) rfl (fun z_49 M_50 h_51 p_52 => ?_)
        obtain ⟨rfl, b_54⟩ := p_52
        refine g_if_ne (n := 27) (t := 33) hx (dq tX10_ruleClause 14 rfl) (by decide) rfl h_51 (fun c_56 => ?_) (fun c_56 => ?_)
        · have b_54 := b_54.resolve_left c_56
          obtain ⟨-, h_55⟩ := b_54
          refine g_iload_n (n := 34) hx 0 (dq tX10_ruleClause 17 rfl) rfl rfl ?_
          refine g_iconst (n := 35) hx (dq tX10_ruleClause 18 rfl) rfl ?_
          refine g_icmp_ne (n := 38) (t := 45) hx (dq tX10_ruleClause 19 rfl) (by decide) rfl ⟨by omega, by omega⟩ ⟨by decide, by decide⟩ (fun c_57 => ?_) (fun c_57 => ?_)
          · refine g_iload_n (n := 46) hx 3 (dq tX10_ruleClause 25 rfl) rfl rfl ?_
            refine g_bipush (n := 48) hx (dq tX10_ruleClause 26 rfl) rfl (by decide) ?_
            refine g_icmp_ne (n := 51) (t := 58) hx (dq tX10_ruleClause 27 rfl) (by decide) rfl (zrI hnl hnu (by decide) (by decide)) ⟨by decide, by decide⟩ (fun c_58 => ?_) (fun c_58 => ?_)
            · refine g_aload_n (n := 59) hx 2 (dq tX10_ruleClause 33 rfl) rfl rfl ?_
              refine g_dup (n := 60) hx (dq tX10_ruleClause 34 rfl) rfl rfl ?_
              refine g_getI (n := 63) hx glX10_249 (sX10_38 (by decide)) (dq tX10_ruleClause 35 rfl) rfl (fun h_59l h_59u => ?_)
              refine g_iload_n (n := 64) hx 0 (dq tX10_ruleClause 36 rfl) rfl rfl ?_
              refine g_callSs (n := 67) (As := [vI i_12]) (rest := [vI (M_3 229 38), aR Γ 229]) hx (ctX10_actWord Γ M_3 i_12 (by omega) (by omega)) mlX10_394 (dq tX10_ruleClause 37 rfl) rfl (Nat.le_of_ble_eq_true rfl) (Nat.le_of_ble_eq_true rfl) (Nat.le_of_ble_eq_true rfl) rfl (fun z_60 M_61 p_63 => ?_)
              obtain ⟨rfl, h_65, h_66⟩ := p_63
              obtain ⟨qz_60, hz_60⟩ := sN_some z_60 (by omega)
              have hz_60n := sNle z_60 _ hz_60
              have hz_60l := sln_eq hz_60
              have h_67 := alF_pos (k := i_12) (by omega) (by omega)
              refine g_callSt (n := 70) (As := []) (rest := [vI (M_3 229 38), aR Γ 229]) hx (ctJ0_length_8abf5 Γ M_3 z_60 _ hz_60) mlX10_260 rfl hz_60 (dq tX10_ruleClause 38 rfl) rfl (Nat.le_of_ble_eq_true rfl) (Nat.le_of_ble_eq_true rfl) (Nat.le_of_ble_eq_true rfl) rfl (fun z_68 M_69 h_70 p_71 => ?_)
              obtain ⟨rfl, h_72⟩ := p_71
              refine g_iadd (n := 71) hx (dq tX10_ruleClause 39 rfl) rfl ?_
              refine g_putI (n := 74) hx plX10_249 (sX10_38 (by decide)) (dq tX10_ruleClause 40 rfl) rfl (by omega) (by omega) (fun M_73 m_74e m_74 => ?_)
              have g_75 : Kp M M_73 := Kp.frame g_9 (fun c j hcj => m_74 c j (by omega))
              have g_76 : Rd M_73 (M 229 42) 0 0 0 := Rd.mv g_10 (fun c j hcj => m_74 c j (by omega)) (by have q39 := m_74 229 39 (by omega); omega)
              refine g_bipush (n := 76) hx (dq tX10_ruleClause 41 rfl) rfl (by decide) ?_
              refine g_aload_n (n := 77) hx 2 (dq tX10_ruleClause 42 rfl) rfl rfl ?_
              refine g_getI (n := 80) hx glX10_275 (sX10_40 (by decide)) (dq tX10_ruleClause 43 rfl) rfl (fun h_77l h_77u => ?_)
              have e_78 : M_73 229 40 = M_3 229 40 := (m_74 229 40 (by omega))
              refine g_imul (n := 81) hx (dq tX10_ruleClause 44 rfl) rfl ?_
              refine g_iload_n (n := 82) hx 3 (dq tX10_ruleClause 45 rfl) rfl rfl ?_
              refine g_iadd (n := 83) hx (dq tX10_ruleClause 46 rfl) rfl ?_
              refine g_istore (n := 85) (lv' := [(4, vI ((12 * (M_73 229 40)) + n)), (3, vI i_12), (2, vI (M_3 229 38)), (0, aR Γ 229), (1, vI n)]) hx (dq tX10_ruleClause 47 rfl) (by decide) rfl rfl ?_
              refine g_aload_n (n := 86) hx 3 (dq tX10_ruleClause 48 rfl) rfl rfl ?_
              refine g_getR (n := 89) hx glX10_135 (sX10_52 (by decide)) (dq tX10_ruleClause 49 rfl) rfl ?_
              refine g_iload (n := 91) hx 0 (dq tX10_ruleClause 50 rfl) rfl rfl ?_
              refine g_iload_n (n := 92) hx 1 (dq tX10_ruleClause 51 rfl) rfl rfl ?_
              have e_79 : M_73 229 37 = M_3 229 37 := (m_74 229 37 (by omega))
              have e_80 : M_73 229 39 = M_3 229 39 := (m_74 229 39 (by omega))
              have e_81 : M_73 229 42 = M_3 229 42 := (m_74 229 42 (by omega))
              refine g_iast (n := 93) (q := ((12 * (M_73 229 40)) + n).toNat) hx (aX10_52 (b := 229) (by decide)) (dq tX10_ruleClause 52 rfl) rfl (by omega) (by omega) (by omega) rfl (by omega) (by omega) (fun M_82 m_83e m_83 => ?_)
              have g_84 : Kp M M_82 := Kp.frame g_75 (fun c j hcj => m_83 c j (by omega))
              have g_85 : Rd M_82 (M 229 42) 0 0 0 := Rd.mv g_76 (fun c j hcj => m_83 c j (by omega)) (by have q38 := m_83 229 38 (by omega); have q39 := m_83 229 39 (by omega); omega)
              refine g_aload_n (n := 94) hx 3 (dq tX10_ruleClause 53 rfl) rfl rfl ?_
              refine g_getR (n := 97) hx glX10_138 (sX10_53 (by decide)) (dq tX10_ruleClause 54 rfl) rfl ?_
              refine g_iload (n := 99) hx 0 (dq tX10_ruleClause 55 rfl) rfl rfl ?_
              refine g_aload_n (n := 100) hx 3 (dq tX10_ruleClause 56 rfl) rfl rfl ?_
              refine g_getI (n := 103) hx glX10_278 (sX10_42 (by decide)) (dq tX10_ruleClause 57 rfl) rfl (fun h_86l h_86u => ?_)
              have e_87 : M_82 229 42 = M_73 229 42 := (m_83 229 42 (by omega))
              have e_88 : M_82 229 37 = M_73 229 37 := (m_83 229 37 (by omega))
              have e_89 : M_82 229 38 = M_73 229 38 := (m_83 229 38 (by omega))
              have e_90 : M_82 229 39 = M_73 229 39 := (m_83 229 39 (by omega))
              have e_91 : M_82 229 40 = M_73 229 40 := (m_83 229 40 (by omega))
              refine g_iast (n := 104) (q := ((12 * (M_73 229 40)) + n).toNat) hx (aX10_53 (b := 229) (by decide)) (dq tX10_ruleClause 58 rfl) rfl (by omega) (by omega) (by omega) rfl (by omega) (by omega) (fun M_92 m_93e m_93 => ?_)
              have g_94 : Kp M M_92 := Kp.frame g_84 (fun c j hcj => m_93 c j (by omega))
              have g_95 : Rd M_92 (M 229 42) 0 0 0 := Rd.mv g_85 (fun c j hcj => m_93 c j (by omega)) (by have q38 := m_93 229 38 (by omega); have q39 := m_93 229 39 (by omega); omega)
              refine g_iload_n (n := 105) hx 1 (dq tX10_ruleClause 59 rfl) rfl rfl ?_
              refine g_iconst (n := 106) hx (dq tX10_ruleClause 60 rfl) rfl ?_
              refine g_icmp_lt (n := 109) (t := 113) hx (dq tX10_ruleClause 61 rfl) (by decide) rfl ⟨by omega, by omega⟩ ⟨by decide, by decide⟩ (fun c_96 => ?_) (fun c_96 => ?_)
              · refine g_aload_n (n := 114) hx 3 (dq tX10_ruleClause 64 rfl) rfl rfl ?_
                refine g_getR (n := 117) hx glX10_141 (sX10_54 (by decide)) (dq tX10_ruleClause 65 rfl) rfl ?_
                refine g_iload (n := 119) hx 0 (dq tX10_ruleClause 66 rfl) rfl rfl ?_
                refine g_aload_n (n := 120) hx 3 (dq tX10_ruleClause 67 rfl) rfl rfl ?_
                refine g_getI (n := 123) hx glX10_278 (sX10_42 (by decide)) (dq tX10_ruleClause 68 rfl) rfl (fun h_97l h_97u => ?_)
                have e_98 : M_92 229 42 = M_82 229 42 := (m_93 229 42 (by omega))
                have e_99 : M_92 229 37 = M_82 229 37 := (m_93 229 37 (by omega))
                have e_100 : M_92 229 38 = M_82 229 38 := (m_93 229 38 (by omega))
                have e_101 : M_92 229 39 = M_82 229 39 := (m_93 229 39 (by omega))
                have e_102 : M_92 229 40 = M_82 229 40 := (m_93 229 40 (by omega))
                refine g_iast (n := 124) (q := ((12 * (M_73 229 40)) + n).toNat) hx (aX10_54 (b := 229) (by decide)) (dq tX10_ruleClause 69 rfl) rfl (by omega) (by omega) (by omega) rfl (by omega) (by omega) (fun M_103 m_104e m_104 => ?_)
                have g_105 : Kp M M_103 := Kp.frame g_94 (fun c j hcj => m_104 c j (by omega))
                have g_106 : Rd M_103 (M 229 42) 0 0 0 := Rd.mv g_95 (fun c j hcj => m_104 c j (by omega)) (by have q38 := m_104 229 38 (by omega); have q39 := m_104 229 39 (by omega); omega)
                refine g_iload_n (n := 125) hx 1 (dq tX10_ruleClause 70 rfl) rfl rfl ?_
                refine g_iconst (n := 126) hx (dq tX10_ruleClause 71 rfl) rfl ?_
                refine g_icmp_lt (n := 129) (t := 146) hx (dq tX10_ruleClause 72 rfl) (by decide) rfl ⟨by omega, by omega⟩ ⟨by decide, by decide⟩ (fun c_107 => ?_) (fun c_107 => ?_)
                · refine g_aload_n (n := 147) hx 3 (dq tX10_ruleClause 80 rfl) rfl rfl ?_
                  have e_108 : M_103 229 37 = M_92 229 37 := (m_104 229 37 (by omega))
                  have e_109 : M_103 229 38 = M_92 229 38 := (m_104 229 38 (by omega))
                  have e_110 : M_103 229 39 = M_92 229 39 := (m_104 229 39 (by omega))
                  have e_111 : M_103 229 40 = M_92 229 40 := (m_104 229 40 (by omega))
                  have e_112 : M_103 229 42 = M_92 229 42 := (m_104 229 42 (by omega))
                  refine g_callVv (n := 150) (As := []) (rest := []) hx (ctX10_test Γ M_103 (M 229 42) 0 0 0 (by omega) g_106) mlX10_402 (obX10 (by decide)) (dq tX10_ruleClause 81 rfl) rfl (Nat.le_of_ble_eq_true rfl) (Nat.le_of_ble_eq_true rfl) (Nat.le_of_ble_eq_true rfl) rfl (fun M_114 p_116 => ?_)
                  obtain ⟨f_117, h_118, h_119, h_120, h_121, h_122⟩ := p_116
                  have g_123 := Kp.trans g_105 h_120
                  refine g_aload_n (n := 151) hx 3 (dq tX10_ruleClause 82 rfl) rfl rfl ?_
                  refine g_getR (n := 154) hx glX10_144 (sX10_55 (by decide)) (dq tX10_ruleClause 83 rfl) rfl ?_
                  refine g_iload (n := 156) hx 0 (dq tX10_ruleClause 84 rfl) rfl rfl ?_
                  refine g_aload_n (n := 157) hx 3 (dq tX10_ruleClause 85 rfl) rfl rfl ?_
                  refine g_getI (n := 160) hx glX10_278 (sX10_42 (by decide)) (dq tX10_ruleClause 86 rfl) rfl (fun h_124l h_124u => ?_)
                  have e_125 : M_114 229 37 = M_103 229 37 := (f_117 229 37 (by omega))
                  have e_126 : M_114 229 40 = M_103 229 40 := (f_117 229 40 (by omega))
                  refine g_iast (n := 161) (q := ((12 * (M_73 229 40)) + n).toNat) hx (aX10_55 (b := 229) (by decide)) (dq tX10_ruleClause 87 rfl) rfl (by omega) (by omega) (by omega) rfl (by omega) (by omega) (fun M_127 m_128e m_128 => ?_)
                  have g_129 : Kp M M_127 := Kp.frame g_123 (fun c j hcj => m_128 c j (by omega))
                  have g_130 : Rd M_127 (M_114 229 42) 0 0 0 := Rd.mv h_119 (fun c j hcj => m_128 c j (by omega)) (by have q38 := m_128 229 38 (by omega); have q39 := m_128 229 39 (by omega); omega)
                  have e_131 : M_127 229 37 = M_114 229 37 := (m_128 229 37 (by omega))
                  have e_132 : M_127 229 38 = M_114 229 38 := (m_128 229 38 (by omega))
                  have e_133 : M_127 229 39 = M_114 229 39 := (m_128 229 39 (by omega))
                  have e_134 : M_127 229 40 = M_114 229 40 := (m_128 229 40 (by omega))
                  have e_135 : M_127 229 42 = M_114 229 42 := (m_128 229 42 (by omega))
                  exact g_vret hx hr (dq tX10_ruleClause 88 rfl) ⟨(fun u_ v_ huv_ => (((((((m_128 u_ v_ (by omega)).trans (f_117 u_ v_ ⟨huv_.1, huv_.2.1, huv_.2.2.1, huv_.2.2.2.1, huv_.2.2.2.2.1, huv_.2.2.2.2.2.1, huv_.2.2.2.2.2.2.1, huv_.2.2.2.2.2.2.2.1, huv_.2.2.2.2.2.2.2.2.1⟩)).trans (m_104 u_ v_ (by omega))).trans (m_93 u_ v_ (by omega))).trans (m_83 u_ v_ (by omega))).trans (m_74 u_ v_ huv_.1)).trans (f_6 u_ v_ huv_.1))), (Rd.new g_130 (by omega)), g_129, (by omega), (by omega), (fun q => ⟨by omega, CO.of (x := M_82 229 42) (y := M_92 229 42) (z := M_114 229 42) (by have w0 : ((12 * (M_73 229 40)) + n).toNat = (12 * (M 229 40).toNat + n.toNat) := (by omega); have w1 := ((((m_128 (229 + 42) (((12 * (M_73 229 40)) + n).toNat) (by omega)).trans (f_117 (229 + 42) (((12 * (M_73 229 40)) + n).toNat) (by omega))).trans (m_104 (229 + 42) (((12 * (M_73 229 40)) + n).toNat) (by omega)))).trans m_93e; rw [w0] at w1; exact w1) (by have w0 : ((12 * (M_73 229 40)) + n).toNat = (12 * (M 229 40).toNat + n.toNat) := (by omega); have w1 := (((m_128 (229 + 43) (((12 * (M_73 229 40)) + n).toNat) (by omega)).trans (f_117 (229 + 43) (((12 * (M_73 229 40)) + n).toNat) (by omega)))).trans m_104e; rw [w0] at w1; exact w1) (by have w0 : ((12 * (M_73 229 40)) + n).toNat = (12 * (M 229 40).toNat + n.toNat) := (by omega); have w1 := (rfl).trans m_128e; rw [w0] at w1; exact w1) (by have w3 : M_82 229 42 = M_92 229 42 := (by omega); rw [w3]; exact RunOk.nil (by omega)) (by have w1 := h_118 (by omega); have w2 := RunOk.kp w1 (Kp.frame Kp.refl (fun c j hcj => m_128 c j (by omega))) (by omega) (Int.le_refl _); have w3 : M_103 229 42 = M_92 229 42 := (by omega); have w4 : M_114 229 42 = M_114 229 42 := (by omega); have w5 : (M_114 229 40).toNat = (M 229 40).toNat := (by omega); rw [w3, w4, w5] at w2; exact w2), by have w8 : M_127 (229 + 44) (12 * (M 229 40).toNat + n.toNat) = M_114 229 42 := (by have w0 : ((12 * (M_73 229 40)) + n).toNat = (12 * (M 229 40).toNat + n.toNat) := (by omega); have w1 := (rfl).trans m_128e; rw [w0] at w1; exact w1); omega⟩), (fun c j hc hj => (((((((m_128 c j (by omega)).trans (f_117 c j (by omega))).trans (m_104 c j (by omega))).trans (m_93 c j (by omega))).trans (m_83 c j (by omega))).trans (m_74 c j (by omega))).trans (f_6 c j (by omega))))⟩
                · omega
              · refine g_aload_n (n := 110) hx 3 (dq tX10_ruleClause 62 rfl) rfl rfl ?_
                have e_136 : M_92 229 37 = M_82 229 37 := (m_93 229 37 (by omega))
                have e_137 : M_92 229 38 = M_82 229 38 := (m_93 229 38 (by omega))
                have e_138 : M_92 229 39 = M_82 229 39 := (m_93 229 39 (by omega))
                have e_139 : M_92 229 40 = M_82 229 40 := (m_93 229 40 (by omega))
                have e_140 : M_92 229 42 = M_82 229 42 := (m_93 229 42 (by omega))
                refine g_callVv (n := 113) (As := []) (rest := []) hx (ctX10_sum Γ M_92 (M 229 42) 0 0 0 (by omega) (by omega) g_95) mlX10_312 (obX10 (by decide)) (dq tX10_ruleClause 63 rfl) rfl (Nat.le_of_ble_eq_true rfl) (Nat.le_of_ble_eq_true rfl) (Nat.le_of_ble_eq_true rfl) rfl (fun M_142 p_144 => ?_)
                obtain ⟨f_145, h_146, h_147, h_148, h_149⟩ := p_144
                have g_150 := Kp.trans g_94 h_147
                have g_151 : Rd M_142 (M 229 42) (0 + 1) 0 0 := Rd.to h_146 (by omega) (by omega) (by omega)
                refine g_aload_n (n := 114) hx 3 (dq tX10_ruleClause 64 rfl) rfl rfl ?_
                refine g_getR (n := 117) hx glX10_141 (sX10_54 (by decide)) (dq tX10_ruleClause 65 rfl) rfl ?_
                refine g_iload (n := 119) hx 0 (dq tX10_ruleClause 66 rfl) rfl rfl ?_
                refine g_aload_n (n := 120) hx 3 (dq tX10_ruleClause 67 rfl) rfl rfl ?_
                refine g_getI (n := 123) hx glX10_278 (sX10_42 (by decide)) (dq tX10_ruleClause 68 rfl) rfl (fun h_152l h_152u => ?_)
                have e_153 : M_142 229 37 = M_92 229 37 := (f_145 229 37 (by omega))
                have e_154 : M_142 229 40 = M_92 229 40 := (f_145 229 40 (by omega))
                refine g_iast (n := 124) (q := ((12 * (M_73 229 40)) + n).toNat) hx (aX10_54 (b := 229) (by decide)) (dq tX10_ruleClause 69 rfl) rfl (by omega) (by omega) (by omega) rfl (by omega) (by omega) (fun M_155 m_156e m_156 => ?_)
                have g_157 : Kp M M_155 := Kp.frame g_150 (fun c j hcj => m_156 c j (by omega))
                have g_158 : Rd M_155 (M 229 42) (0 + 1) 0 0 := Rd.mv g_151 (fun c j hcj => m_156 c j (by omega)) (by have q38 := m_156 229 38 (by omega); have q39 := m_156 229 39 (by omega); omega)
                refine g_iload_n (n := 125) hx 1 (dq tX10_ruleClause 70 rfl) rfl rfl ?_
                refine g_iconst (n := 126) hx (dq tX10_ruleClause 71 rfl) rfl ?_
                refine g_icmp_lt (n := 129) (t := 146) hx (dq tX10_ruleClause 72 rfl) (by decide) rfl ⟨by omega, by omega⟩ ⟨by decide, by decide⟩ (fun c_159 => ?_) (fun c_159 => ?_)
                · omega
                · refine g_aload_n (n := 130) hx 3 (dq tX10_ruleClause 73 rfl) rfl rfl ?_
                  refine g_getI (n := 133) hx glX10_246 (sX10_39 (by decide)) (dq tX10_ruleClause 74 rfl) rfl (fun h_160l h_160u => ?_)
                  have e_161 : M_155 229 39 = M_142 229 39 := (m_156 229 39 (by omega))
                  refine g_if_ne (n := 136) (t := 150) hx (dq tX10_ruleClause 75 rfl) (by decide) rfl (zrI h_160l h_160u (by decide) (by decide)) (fun c_162 => ?_) (fun c_162 => ?_)
                  · refine g_aload_n (n := 151) hx 3 (dq tX10_ruleClause 82 rfl) rfl rfl ?_
                    refine g_getR (n := 154) hx glX10_144 (sX10_55 (by decide)) (dq tX10_ruleClause 83 rfl) rfl ?_
                    refine g_iload (n := 156) hx 0 (dq tX10_ruleClause 84 rfl) rfl rfl ?_
                    refine g_aload_n (n := 157) hx 3 (dq tX10_ruleClause 85 rfl) rfl rfl ?_
                    refine g_getI (n := 160) hx glX10_278 (sX10_42 (by decide)) (dq tX10_ruleClause 86 rfl) rfl (fun h_163l h_163u => ?_)
                    have e_164 : M_155 229 42 = M_142 229 42 := (m_156 229 42 (by omega))
                    have e_165 : M_155 229 37 = M_142 229 37 := (m_156 229 37 (by omega))
                    have e_166 : M_155 229 38 = M_142 229 38 := (m_156 229 38 (by omega))
                    have e_167 : M_155 229 40 = M_142 229 40 := (m_156 229 40 (by omega))
                    refine g_iast (n := 161) (q := ((12 * (M_73 229 40)) + n).toNat) hx (aX10_55 (b := 229) (by decide)) (dq tX10_ruleClause 87 rfl) rfl (by omega) (by omega) (by omega) rfl (by omega) (by omega) (fun M_168 m_169e m_169 => ?_)
                    have g_170 : Kp M M_168 := Kp.frame g_157 (fun c j hcj => m_169 c j (by omega))
                    have g_171 : Rd M_168 (M 229 42) (0 + 1) 0 0 := Rd.mv g_158 (fun c j hcj => m_169 c j (by omega)) (by have q38 := m_169 229 38 (by omega); have q39 := m_169 229 39 (by omega); omega)
                    have e_172 : M_168 229 37 = M_155 229 37 := (m_169 229 37 (by omega))
                    have e_173 : M_168 229 38 = M_155 229 38 := (m_169 229 38 (by omega))
                    have e_174 : M_168 229 39 = M_155 229 39 := (m_169 229 39 (by omega))
                    have e_175 : M_168 229 40 = M_155 229 40 := (m_169 229 40 (by omega))
                    have e_176 : M_168 229 42 = M_155 229 42 := (m_169 229 42 (by omega))
                    exact g_vret hx hr (dq tX10_ruleClause 88 rfl) ⟨(fun u_ v_ huv_ => (((((((m_169 u_ v_ (by omega)).trans (m_156 u_ v_ (by omega))).trans (f_145 u_ v_ ⟨huv_.1, huv_.2.1, huv_.2.2.1, huv_.2.2.2.1, huv_.2.2.2.2.1, huv_.2.2.2.2.2.1⟩)).trans (m_93 u_ v_ (by omega))).trans (m_83 u_ v_ (by omega))).trans (m_74 u_ v_ huv_.1)).trans (f_6 u_ v_ huv_.1))), (Rd.new g_171 (by omega)), g_170, (by omega), (by omega), (fun q => ⟨by omega, CO.of (x := M_82 229 42) (y := M_142 229 42) (z := M_155 229 42) (by have w0 : ((12 * (M_73 229 40)) + n).toNat = (12 * (M 229 40).toNat + n.toNat) := (by omega); have w1 := ((((m_169 (229 + 42) (((12 * (M_73 229 40)) + n).toNat) (by omega)).trans (m_156 (229 + 42) (((12 * (M_73 229 40)) + n).toNat) (by omega))).trans (f_145 (229 + 42) (((12 * (M_73 229 40)) + n).toNat) (by omega)))).trans m_93e; rw [w0] at w1; exact w1) (by have w0 : ((12 * (M_73 229 40)) + n).toNat = (12 * (M 229 40).toNat + n.toNat) := (by omega); have w1 := ((m_169 (229 + 43) (((12 * (M_73 229 40)) + n).toNat) (by omega))).trans m_156e; rw [w0] at w1; exact w1) (by have w0 : ((12 * (M_73 229 40)) + n).toNat = (12 * (M 229 40).toNat + n.toNat) := (by omega); have w1 := (rfl).trans m_169e; rw [w0] at w1; exact w1) (by have w1 := Rd.run h_146 (by omega); have w2 := RunOk.kp w1 (Kp.frame (Kp.frame Kp.refl (fun c j hcj => m_156 c j (by omega))) (fun c j hcj => m_169 c j (by omega))) (by omega) (Int.le_refl _); have w3 : M 229 42 = M_82 229 42 := (by omega); have w4 : M_142 229 42 = M_142 229 42 := (by omega); have w5 : (M_142 229 40).toNat = (M 229 40).toNat := (by omega); rw [w3, w4, w5] at w2; exact w2) (by have w3 : M_142 229 42 = M_155 229 42 := (by omega); rw [w3]; exact RunOk.nil (by omega)), by have w8 : M_168 (229 + 44) (12 * (M 229 40).toNat + n.toNat) = M_155 229 42 := (by have w0 : ((12 * (M_73 229 40)) + n).toNat = (12 * (M 229 40).toNat + n.toNat) := (by omega); have w1 := (rfl).trans m_169e; rw [w0] at w1; exact w1); omega⟩), (fun c j hc hj => (((((((m_169 c j (by omega)).trans (m_156 c j (by omega))).trans (f_145 c j (by omega))).trans (m_93 c j (by omega))).trans (m_83 c j (by omega))).trans (m_74 c j (by omega))).trans (f_6 c j (by omega))))⟩
                  · refine g_aload_n (n := 137) hx 3 (dq tX10_ruleClause 76 rfl) rfl rfl ?_
                    refine g_ldcwS (n := 140) (q := 24) hx rfl rfl rfl (dq tX10_ruleClause 77 rfl) rfl ?_
                    have e_177 : M_155 229 37 = M_142 229 37 := (m_156 229 37 (by omega))
                    have e_178 : M_155 229 38 = M_142 229 38 := (m_156 229 38 (by omega))
                    have e_179 : M_155 229 40 = M_142 229 40 := (m_156 229 40 (by omega))
                    have e_180 : M_155 229 42 = M_142 229 42 := (m_156 229 42 (by omega))
                    refine g_callVi (n := 143) (As := [sR Γ 24]) (rest := []) hx (ctX10_takes Γ M_155 24 _ rfl (by decide) (by decide)) mlX10_399 (obX10 (by decide)) (dq tX10_ruleClause 78 rfl) rfl (Nat.le_of_ble_eq_true rfl) (Nat.le_of_ble_eq_true rfl) (Nat.le_of_ble_eq_true rfl) rfl (fun z_181 M_182 h_183 p_184 => ?_)
                    obtain ⟨f_185, b_186, h_187, h_188⟩ := p_184
                    have g_189 : Kp M M_182 := Kp.frame g_157 (fun c j hcj => f_185 c j (by omega))
                    have g_190 : Rd M_182 (M 229 42) (0 + 1) 0 0 := Rd.mv g_158 (fun c j hcj => f_185 c j (by omega)) (by have q39 := f_185 229 39 (by omega); omega)
                    refine g_if_eq (n := 146) (t := 150) hx (dq tX10_ruleClause 79 rfl) (by decide) rfl h_183 (fun c_191 => ?_) (fun c_191 => ?_)
                    · clear b_186
                      refine g_aload_n (n := 151) hx 3 (dq tX10_ruleClause 82 rfl) rfl rfl ?_
                      refine g_getR (n := 154) hx glX10_144 (sX10_55 (by decide)) (dq tX10_ruleClause 83 rfl) rfl ?_
                      refine g_iload (n := 156) hx 0 (dq tX10_ruleClause 84 rfl) rfl rfl ?_
                      refine g_aload_n (n := 157) hx 3 (dq tX10_ruleClause 85 rfl) rfl rfl ?_
                      refine g_getI (n := 160) hx glX10_278 (sX10_42 (by decide)) (dq tX10_ruleClause 86 rfl) rfl (fun h_192l h_192u => ?_)
                      have e_193 : M_182 229 42 = M_155 229 42 := (f_185 229 42 (by omega))
                      have e_194 : M_182 229 37 = M_155 229 37 := (f_185 229 37 (by omega))
                      have e_195 : M_182 229 39 = M_155 229 39 := (f_185 229 39 (by omega))
                      have e_196 : M_182 229 40 = M_155 229 40 := (f_185 229 40 (by omega))
                      refine g_iast (n := 161) (q := ((12 * (M_73 229 40)) + n).toNat) hx (aX10_55 (b := 229) (by decide)) (dq tX10_ruleClause 87 rfl) rfl (by omega) (by omega) (by omega) rfl (by omega) (by omega) (fun M_197 m_198e m_198 => ?_)
                      have g_199 : Kp M M_197 := Kp.frame g_189 (fun c j hcj => m_198 c j (by omega))
                      have g_200 : Rd M_197 (M 229 42) (0 + 1) 0 0 := Rd.mv g_190 (fun c j hcj => m_198 c j (by omega)) (by have q38 := m_198 229 38 (by omega); have q39 := m_198 229 39 (by omega); omega)
                      have e_201 : M_197 229 37 = M_182 229 37 := (m_198 229 37 (by omega))
                      have e_202 : M_197 229 38 = M_182 229 38 := (m_198 229 38 (by omega))
                      have e_203 : M_197 229 39 = M_182 229 39 := (m_198 229 39 (by omega))
                      have e_204 : M_197 229 40 = M_182 229 40 := (m_198 229 40 (by omega))
                      have e_205 : M_197 229 42 = M_182 229 42 := (m_198 229 42 (by omega))
                      exact g_vret hx hr (dq tX10_ruleClause 88 rfl) ⟨(fun u_ v_ huv_ => ((((((((m_198 u_ v_ (by omega)).trans (f_185 u_ v_ huv_.1)).trans (m_156 u_ v_ (by omega))).trans (f_145 u_ v_ ⟨huv_.1, huv_.2.1, huv_.2.2.1, huv_.2.2.2.1, huv_.2.2.2.2.1, huv_.2.2.2.2.2.1⟩)).trans (m_93 u_ v_ (by omega))).trans (m_83 u_ v_ (by omega))).trans (m_74 u_ v_ huv_.1)).trans (f_6 u_ v_ huv_.1))), (Rd.new g_200 (by omega)), g_199, (by omega), (by omega), (fun q => ⟨by omega, CO.of (x := M_82 229 42) (y := M_142 229 42) (z := M_182 229 42) (by have w0 : ((12 * (M_73 229 40)) + n).toNat = (12 * (M 229 40).toNat + n.toNat) := (by omega); have w1 := (((((m_198 (229 + 42) (((12 * (M_73 229 40)) + n).toNat) (by omega)).trans (f_185 (229 + 42) (((12 * (M_73 229 40)) + n).toNat) (by omega))).trans (m_156 (229 + 42) (((12 * (M_73 229 40)) + n).toNat) (by omega))).trans (f_145 (229 + 42) (((12 * (M_73 229 40)) + n).toNat) (by omega)))).trans m_93e; rw [w0] at w1; exact w1) (by have w0 : ((12 * (M_73 229 40)) + n).toNat = (12 * (M 229 40).toNat + n.toNat) := (by omega); have w1 := (((m_198 (229 + 43) (((12 * (M_73 229 40)) + n).toNat) (by omega)).trans (f_185 (229 + 43) (((12 * (M_73 229 40)) + n).toNat) (by omega)))).trans m_156e; rw [w0] at w1; exact w1) (by have w0 : ((12 * (M_73 229 40)) + n).toNat = (12 * (M 229 40).toNat + n.toNat) := (by omega); have w1 := (rfl).trans m_198e; rw [w0] at w1; exact w1) (by have w1 := Rd.run h_146 (by omega); have w2 := RunOk.kp w1 (Kp.frame (Kp.frame (Kp.frame Kp.refl (fun c j hcj => m_156 c j (by omega))) (fun c j hcj => f_185 c j (by omega))) (fun c j hcj => m_198 c j (by omega))) (by omega) (Int.le_refl _); have w3 : M 229 42 = M_82 229 42 := (by omega); have w4 : M_142 229 42 = M_142 229 42 := (by omega); have w5 : (M_142 229 40).toNat = (M 229 40).toNat := (by omega); rw [w3, w4, w5] at w2; exact w2) (by have w3 : M_142 229 42 = M_182 229 42 := (by omega); rw [w3]; exact RunOk.nil (by omega)), by have w8 : M_197 (229 + 44) (12 * (M 229 40).toNat + n.toNat) = M_182 229 42 := (by have w0 : ((12 * (M_73 229 40)) + n).toNat = (12 * (M 229 40).toNat + n.toNat) := (by omega); have w1 := (rfl).trans m_198e; rw [w0] at w1; exact w1); omega⟩), (fun c j hc hj => ((((((((m_198 c j (by omega)).trans (f_185 c j (by omega))).trans (m_156 c j (by omega))).trans (f_145 c j (by omega))).trans (m_93 c j (by omega))).trans (m_83 c j (by omega))).trans (m_74 c j (by omega))).trans (f_6 c j (by omega))))⟩
                    · have b_186 := b_186.resolve_left c_191
                      refine g_aload_n (n := 147) hx 3 (dq tX10_ruleClause 80 rfl) rfl rfl ?_
                      have e_206 : M_182 229 37 = M_155 229 37 := (f_185 229 37 (by omega))
                      have e_207 : M_182 229 39 = M_155 229 39 := (f_185 229 39 (by omega))
                      have e_208 : M_182 229 40 = M_155 229 40 := (f_185 229 40 (by omega))
                      have e_209 : M_182 229 42 = M_155 229 42 := (f_185 229 42 (by omega))
                      refine g_callVv (n := 150) (As := []) (rest := []) hx (ctX10_test Γ M_182 (M 229 42) (0 + 1) 0 0 (by omega) g_190) mlX10_402 (obX10 (by decide)) (dq tX10_ruleClause 81 rfl) rfl (Nat.le_of_ble_eq_true rfl) (Nat.le_of_ble_eq_true rfl) (Nat.le_of_ble_eq_true rfl) rfl (fun M_211 p_213 => ?_)
                      obtain ⟨f_214, h_215, h_216, h_217, h_218, h_219⟩ := p_213
                      have g_220 := Kp.trans g_189 h_217
                      refine g_aload_n (n := 151) hx 3 (dq tX10_ruleClause 82 rfl) rfl rfl ?_
                      refine g_getR (n := 154) hx glX10_144 (sX10_55 (by decide)) (dq tX10_ruleClause 83 rfl) rfl ?_
                      refine g_iload (n := 156) hx 0 (dq tX10_ruleClause 84 rfl) rfl rfl ?_
                      refine g_aload_n (n := 157) hx 3 (dq tX10_ruleClause 85 rfl) rfl rfl ?_
                      refine g_getI (n := 160) hx glX10_278 (sX10_42 (by decide)) (dq tX10_ruleClause 86 rfl) rfl (fun h_221l h_221u => ?_)
                      have e_222 : M_211 229 37 = M_182 229 37 := (f_214 229 37 (by omega))
                      have e_223 : M_211 229 40 = M_182 229 40 := (f_214 229 40 (by omega))
                      refine g_iast (n := 161) (q := ((12 * (M_73 229 40)) + n).toNat) hx (aX10_55 (b := 229) (by decide)) (dq tX10_ruleClause 87 rfl) rfl (by omega) (by omega) (by omega) rfl (by omega) (by omega) (fun M_224 m_225e m_225 => ?_)
                      have g_226 : Kp M M_224 := Kp.frame g_220 (fun c j hcj => m_225 c j (by omega))
                      have g_227 : Rd M_224 (M_211 229 42) 0 0 0 := Rd.mv h_216 (fun c j hcj => m_225 c j (by omega)) (by have q38 := m_225 229 38 (by omega); have q39 := m_225 229 39 (by omega); omega)
                      have e_228 : M_224 229 37 = M_211 229 37 := (m_225 229 37 (by omega))
                      have e_229 : M_224 229 38 = M_211 229 38 := (m_225 229 38 (by omega))
                      have e_230 : M_224 229 39 = M_211 229 39 := (m_225 229 39 (by omega))
                      have e_231 : M_224 229 40 = M_211 229 40 := (m_225 229 40 (by omega))
                      have e_232 : M_224 229 42 = M_211 229 42 := (m_225 229 42 (by omega))
                      exact g_vret hx hr (dq tX10_ruleClause 88 rfl) ⟨(fun u_ v_ huv_ => (((((((((m_225 u_ v_ (by omega)).trans (f_214 u_ v_ ⟨huv_.1, huv_.2.1, huv_.2.2.1, huv_.2.2.2.1, huv_.2.2.2.2.1, huv_.2.2.2.2.2.1, huv_.2.2.2.2.2.2.1, huv_.2.2.2.2.2.2.2.1, huv_.2.2.2.2.2.2.2.2.1⟩)).trans (f_185 u_ v_ huv_.1)).trans (m_156 u_ v_ (by omega))).trans (f_145 u_ v_ ⟨huv_.1, huv_.2.1, huv_.2.2.1, huv_.2.2.2.1, huv_.2.2.2.2.1, huv_.2.2.2.2.2.1⟩)).trans (m_93 u_ v_ (by omega))).trans (m_83 u_ v_ (by omega))).trans (m_74 u_ v_ huv_.1)).trans (f_6 u_ v_ huv_.1))), (Rd.new g_227 (by omega)), g_226, (by omega), (by omega), (fun q => ⟨by omega, CO.of (x := M_82 229 42) (y := M_142 229 42) (z := M_211 229 42) (by have w0 : ((12 * (M_73 229 40)) + n).toNat = (12 * (M 229 40).toNat + n.toNat) := (by omega); have w1 := ((((((m_225 (229 + 42) (((12 * (M_73 229 40)) + n).toNat) (by omega)).trans (f_214 (229 + 42) (((12 * (M_73 229 40)) + n).toNat) (by omega))).trans (f_185 (229 + 42) (((12 * (M_73 229 40)) + n).toNat) (by omega))).trans (m_156 (229 + 42) (((12 * (M_73 229 40)) + n).toNat) (by omega))).trans (f_145 (229 + 42) (((12 * (M_73 229 40)) + n).toNat) (by omega)))).trans m_93e; rw [w0] at w1; exact w1) (by have w0 : ((12 * (M_73 229 40)) + n).toNat = (12 * (M 229 40).toNat + n.toNat) := (by omega); have w1 := ((((m_225 (229 + 43) (((12 * (M_73 229 40)) + n).toNat) (by omega)).trans (f_214 (229 + 43) (((12 * (M_73 229 40)) + n).toNat) (by omega))).trans (f_185 (229 + 43) (((12 * (M_73 229 40)) + n).toNat) (by omega)))).trans m_156e; rw [w0] at w1; exact w1) (by have w0 : ((12 * (M_73 229 40)) + n).toNat = (12 * (M 229 40).toNat + n.toNat) := (by omega); have w1 := (rfl).trans m_225e; rw [w0] at w1; exact w1) (by have w1 := Rd.run h_146 (by omega); have w2 := RunOk.kp w1 (Kp.frame (Kp.trans (Kp.frame (Kp.frame Kp.refl (fun c j hcj => m_156 c j (by omega))) (fun c j hcj => f_185 c j (by omega))) h_217) (fun c j hcj => m_225 c j (by omega))) (by omega) (Int.le_refl _); have w3 : M 229 42 = M_82 229 42 := (by omega); have w4 : M_142 229 42 = M_142 229 42 := (by omega); have w5 : (M_142 229 40).toNat = (M 229 40).toNat := (by omega); rw [w3, w4, w5] at w2; exact w2) (by have w1 := h_215 (by omega); have w2 := RunOk.kp w1 (Kp.frame Kp.refl (fun c j hcj => m_225 c j (by omega))) (by omega) (Int.le_refl _); have w3 : M_182 229 42 = M_142 229 42 := (by omega); have w4 : M_211 229 42 = M_211 229 42 := (by omega); have w5 : (M_211 229 40).toNat = (M 229 40).toNat := (by omega); rw [w3, w4, w5] at w2; exact w2), by have w8 : M_224 (229 + 44) (12 * (M 229 40).toNat + n.toNat) = M_211 229 42 := (by have w0 : ((12 * (M_73 229 40)) + n).toNat = (12 * (M 229 40).toNat + n.toNat) := (by omega); have w1 := (rfl).trans m_225e; rw [w0] at w1; exact w1); omega⟩), (fun c j hc hj => (((((((((m_225 c j (by omega)).trans (f_214 c j (by omega))).trans (f_185 c j (by omega))).trans (m_156 c j (by omega))).trans (f_145 c j (by omega))).trans (m_93 c j (by omega))).trans (m_83 c j (by omega))).trans (m_74 c j (by omega))).trans (f_6 c j (by omega))))⟩
            · refine g_aload_n (n := 52) hx 2 (dq tX10_ruleClause 28 rfl) rfl rfl ?_
              refine g_iconst (n := 53) hx (dq tX10_ruleClause 29 rfl) rfl ?_
              refine g_iload_n (n := 54) hx 1 (dq tX10_ruleClause 30 rfl) rfl rfl ?_
              refine g_callVv (n := 57) (As := [vI 4, vI (M_3 229 38)]) (rest := []) hx (ctX10_fails Γ M_3 4 (by decide) (by decide) (M_3 229 38) (by omega) (by omega)) mlX10_284 (obX10 (by decide)) (dq tX10_ruleClause 31 rfl) rfl (Nat.le_of_ble_eq_true rfl) (Nat.le_of_ble_eq_true rfl) (Nat.le_of_ble_eq_true rfl) rfl (fun M_234 p_236 => ?_)
              obtain ⟨f_237, h_238⟩ := p_236
              have g_239 : Kp M M_234 := Kp.frame g_9 (fun c j hcj => f_237 c j (by omega))
              have e_241 : M_234 229 37 = M_3 229 37 := (f_237 229 37 (by omega))
              have e_242 : M_234 229 38 = M_3 229 38 := (f_237 229 38 (by omega))
              have e_243 : M_234 229 40 = M_3 229 40 := (f_237 229 40 (by omega))
              have e_244 : M_234 229 42 = M_3 229 42 := (f_237 229 42 (by omega))
              exact g_vret hx hr (dq tX10_ruleClause 32 rfl) ⟨(fun u_ v_ huv_ => ((f_237 u_ v_ huv_.2.1).trans (f_6 u_ v_ huv_.1))), (Rd.vac (by omega)), g_239, (by omega), (by omega), (fun q => absurd q (by omega)), (fun c j hc hj => ((f_237 c j (by omega)).trans (f_6 c j (by omega))))⟩
          · omega
        · clear b_54
          refine g_iinc (n := 30) (lv' := [(3, vI (i_12 + 1)), (2, vI (M_3 229 38)), (0, aR Γ 229), (1, vI n)]) hx 0 (dq tX10_ruleClause 15 rfl) rfl (by decide) rfl rfl ?_
          refine g_goto (n := 11) hx (dq tX10_ruleClause 16 rfl) (by decide) ?_
          exact ih_14 _ (by omega) (i_12 + 1) (by omega) (by omega) rfl
  have e_245 : M_3 229 37 = M 229 37 := (f_6 229 37 (by omega))
  have e_246 : M_3 229 39 = M 229 39 := (f_6 229 39 (by omega))
  have e_247 : M_3 229 40 = M 229 40 := (f_6 229 40 (by omega))
  have e_248 : M_3 229 42 = M 229 42 := (f_6 229 42 (by omega))
  exact L_13 _ 0 (by omega) (by omega) rfl

abbrev qctX10_rule (M : zM)  (z : Int) (M' : zM) : Prop := (∀ u_ v_, (u_ ≠ 229 ∨ v_ ≠ 38) ∧ (u_ ≠ 229 ∨ v_ ≠ 39) ∧ (u_ ≠ 229 ∨ v_ ≠ 42) ∧ (u_ ≠ 229 ∨ v_ ≠ 44) ∧ u_ ≠ 229 + 38 ∧ u_ ≠ 229 + 39 ∧ (u_ ≠ 229 ∨ v_ ≠ 43) ∧ (u_ ≠ 229 ∨ v_ ≠ 45) ∧ u_ ≠ 229 + 45 ∧ u_ ≠ 229 + 41 ∧ u_ ≠ 229 + 42 ∧ u_ ≠ 229 + 43 ∧ u_ ≠ 229 + 44 ∧ (u_ ≠ 229 ∨ v_ ≠ 37) ∧ (u_ ≠ 229 ∨ v_ ≠ 40) ∧ (u_ ≠ 229 ∨ v_ ≠ 41) ∧ u_ ≠ 229 + 40 → M' u_ v_ = M u_ v_) ∧ Gm M' ∧ Rl M' ∧ On M' ∧ (M 229 41 ≤ M' 229 41)
set_option maxHeartbeats 4000000 in
set_option maxRecDepth 100000 in
theorem ctX10_rule (Γ : Gam) (M : zM)  (gm : Gm M) (rl : Rl M) (on : On M) : CtI Γ yX10_rule cX10_rule 3 (some .int) 12 263 [aR Γ 229] M (qctX10_rule M) := by
  refine met_i (by decide) (Nat.le_of_ble_eq_true rfl) (fun x hx hr => ?_)
  show G Γ x 3 (QI Γ x (qctX10_rule M)) M 0 [(0, aR Γ 229)] []
  refine g_iv (fun hI0 => ?_)
  have hI_37 : (0 : Int) ≤ M 229 37 ∧ M 229 37 ≤ 400 := hI0 229 37
  have hI_38 : (0 : Int) ≤ M 229 38 ∧ M 229 38 ≤ 402 := hI0 229 38
  have hI_45 : (0 : Int) ≤ M 229 45 ∧ M 229 45 ≤ 402 := hI0 229 45
  have hI_42 : (0 : Int) ≤ M 229 42 ∧ M 229 42 ≤ 300 := hI0 229 42
  have hI_39 : (0 : Int) ≤ M 229 39 ∧ M 229 39 ≤ 100000 := hI0 229 39
  have hI_40 : (0 : Int) ≤ M 229 40 ∧ M 229 40 ≤ 5 := hI0 229 40
  have hI_41 : (0 : Int) ≤ M 229 41 ∧ M 229 41 ≤ 6 := hI0 229 41
  clear hI0
  refine g_aload_n (n := 1) hx 0 (dq tX10_rule 0 rfl) rfl rfl ?_
  refine g_getI (n := 4) hx glX10_405 (sX10_41 (by decide)) (dq tX10_rule 1 rfl) rfl (fun h_1l h_1u => ?_)
  refine g_bipush (n := 6) hx (dq tX10_rule 2 rfl) rfl (by decide) ?_
  refine g_icmp_ne (n := 9) (t := 11) hx (dq tX10_rule 3 rfl) (by decide) rfl (zrI h_1l h_1u (by decide) (by decide)) ⟨by decide, by decide⟩ (fun c_2 => ?_) (fun c_2 => ?_)
  · refine g_aload_n (n := 12) hx 0 (dq tX10_rule 6 rfl) rfl rfl ?_
    refine g_aload_n (n := 13) hx 0 (dq tX10_rule 7 rfl) rfl rfl ?_
    refine g_getI (n := 16) hx glX10_405 (sX10_41 (by decide)) (dq tX10_rule 8 rfl) rfl (fun h_3l h_3u => ?_)
    refine g_putI (n := 19) hx plX10_275 (sX10_40 (by decide)) (dq tX10_rule 9 rfl) rfl (by omega) (by omega) (fun M_4 m_5e m_5 => ?_)
    have g_6 : Gm M_4 := Gm.frame gm (fun c j hcj => m_5 c j (by omega))
    have g_8 : Rl M_4 := Rl.frame rl (fun c j hcj => m_5 c j (by omega))
    have g_9 : On M_4 := On.frame on (fun c j hcj => m_5 c j (by omega))
    refine g_aload_n (n := 20) hx 0 (dq tX10_rule 10 rfl) rfl rfl ?_
    have e_10 : M_4 229 37 = M 229 37 := (m_5 229 37 (by omega))
    have e_11 : M_4 229 38 = M 229 38 := (m_5 229 38 (by omega))
    have e_12 : M_4 229 39 = M 229 39 := (m_5 229 39 (by omega))
    have e_13 : M_4 229 41 = M 229 41 := (m_5 229 41 (by omega))
    have e_14 : M_4 229 42 = M 229 42 := (m_5 229 42 (by omega))
    refine g_callVv (n := 23) (As := []) (rest := []) hx (ctX10_starts Γ M_4 ) mlX10_372 (obX10 (by decide)) (dq tX10_rule 11 rfl) rfl (Nat.le_of_ble_eq_true rfl) (Nat.le_of_ble_eq_true rfl) (Nat.le_of_ble_eq_true rfl) rfl (fun M_16 p_18 => ?_)
    obtain ⟨f_19, h_20, h_21, h_22, h_23⟩ := p_18
    have g_24 : Gm M_16 := Gm.frame g_6 (fun c j hcj => f_19 c j (by omega))
    have g_26 : Rl M_16 := Rl.frame g_8 (fun c j hcj => f_19 c j (by omega))
    have g_27 : On M_16 := On.frame g_9 (fun c j hcj => f_19 c j (by omega))
    refine g_iconst (n := 24) hx (dq tX10_rule 12 rfl) rfl ?_
    refine g_istore_n (n := 25) (lv' := [(1, vI 0), (0, aR Γ 229)]) hx (dq tX10_rule 13 rfl) (by decide) rfl rfl ?_
    refine g_iconst (n := 26) hx (dq tX10_rule 14 rfl) rfl ?_
    refine g_istore_n (n := 27) (lv' := [(2, vI 1), (1, vI 0), (0, aR Γ 229)]) hx (dq tX10_rule 15 rfl) (by decide) rfl rfl ?_
    have L_31 : ∀ (n_ : Nat) (i_28 : Int) (i_29 : Int) (M_30 : zM), (0 ≤ i_28) → (i_28 ≤ 1) → (0 ≤ i_29) → (i_29 ≤ 13) → (∀ u_ v_, (u_ ≠ 229 ∨ v_ ≠ 38) ∧ (u_ ≠ 229 ∨ v_ ≠ 39) ∧ (u_ ≠ 229 ∨ v_ ≠ 42) ∧ (u_ ≠ 229 ∨ v_ ≠ 44) ∧ u_ ≠ 229 + 38 ∧ u_ ≠ 229 + 39 ∧ (u_ ≠ 229 ∨ v_ ≠ 43) ∧ (u_ ≠ 229 ∨ v_ ≠ 45) ∧ u_ ≠ 229 + 45 ∧ u_ ≠ 229 + 41 ∧ u_ ≠ 229 + 42 ∧ u_ ≠ 229 + 43 ∧ u_ ≠ 229 + 44 → M_30 u_ v_ = M_16 u_ v_) → (Gm M_30) → (Rl M_30) → (On M_30) → (Cs M_30 i_29) → (i_28 = 1 → Rd M_30 (M_30 229 42) 0 0 0) → (i_28 = 1 → (M_30 229 39 = 0 ∧ M_30 229 38 ≤ M_30 229 37)) → (M_30 229 39 = 0 → i_29 ≤ 12) → (M_30 229 38 ≤ 402) → (M_30 229 40 = M_30 229 41) → (i_28 = 1 → i_29 ≤ 12) → ((403 - M_30 229 38).toNat = n_) → G Γ x 3 (QI Γ x (qctX10_rule M)) M_30 27 [(2, vI i_28), (1, vI i_29), (0, aR Γ 229)] [] := by
      intro n_
      induction n_ using Nat.strongRecOn with
      | _ n_ ih_32 =>
        intro i_28 i_29 M_30 h_45 h_46 h_47 h_48 f_33 g_34 g_35 g_36 h_38 h_39 h_40 h_41 h_42 h_43 h_44 hm_37
        refine g_iload_n (n := 28) hx 0 (dq tX10_rule 16 rfl) rfl rfl ?_
        refine g_if_eq (n := 31) (t := 47) hx (dq tX10_rule 17 rfl) (by decide) rfl ⟨by omega, by omega⟩ (fun c_49 => ?_) (fun c_49 => ?_)
        · refine g_aload_n (n := 48) hx 2 (dq tX10_rule 26 rfl) rfl rfl ?_
          refine g_iconst (n := 49) hx (dq tX10_rule 27 rfl) rfl ?_
          have e_50 : M_30 229 37 = M_4 229 37 := ((f_33 229 37 (by omega))).trans (f_19 229 37 (by omega))
          have e_51 : M_30 229 40 = M_4 229 40 := ((f_33 229 40 (by omega))).trans (f_19 229 40 (by omega))
          have e_52 : M_30 229 41 = M_4 229 41 := ((f_33 229 41 (by omega))).trans (f_19 229 41 (by omega))
          refine g_putI (n := 52) hx plX10_216 (sX10_37 (by decide)) (dq tX10_rule 28 rfl) rfl (by omega) (by omega) (fun M_53 m_54e m_54 => ?_)
          have g_55 : Gm M_53 := Gm.frame g_34 (fun c j hcj => m_54 c j (by omega))
          have g_57 : Rl M_53 := Rl.frame g_35 (fun c j hcj => m_54 c j (by omega))
          have g_58 : On M_53 := On.frame g_36 (fun c j hcj => m_54 c j (by omega))
          have g_59 : Cs M_53 i_29 := Cs.mv h_38 (by have q39 := m_54 229 39 (by omega); omega) (fun c j hcj => m_54 c j (by omega))
          refine g_aload_n (n := 53) hx 2 (dq tX10_rule 29 rfl) rfl rfl ?_
          refine g_getR (n := 56) hx glX10_132 (sX10_51 (by decide)) (dq tX10_rule 30 rfl) rfl ?_
          refine g_aload_n (n := 57) hx 2 (dq tX10_rule 31 rfl) rfl rfl ?_
          refine g_getI (n := 60) hx glX10_275 (sX10_40 (by decide)) (dq tX10_rule 32 rfl) rfl (fun h_60l h_60u => ?_)
          have e_61 : M_53 229 40 = M_30 229 40 := (m_54 229 40 (by omega))
          refine g_iload_n (n := 61) hx 1 (dq tX10_rule 33 rfl) rfl rfl ?_
          have e_62 : M_53 229 38 = M_30 229 38 := (m_54 229 38 (by omega))
          have e_63 : M_53 229 39 = M_30 229 39 := (m_54 229 39 (by omega))
          have e_64 : M_53 229 41 = M_30 229 41 := (m_54 229 41 (by omega))
          have e_65 : M_53 229 42 = M_30 229 42 := (m_54 229 42 (by omega))
          refine g_iast (n := 62) (q := (M_53 229 40).toNat) hx (aX10_51 (b := 229) (by decide)) (dq tX10_rule 34 rfl) rfl (by omega) (by omega) (by omega) rfl (by omega) (by omega) (fun M_66 m_67e m_67 => ?_)
          have g_68 : Gm M_66 := Gm.frame g_55 (fun c j hcj => m_67 c j (by omega))
          have g_69 : Rl M_66 := Rl.cls g_57 (by omega) m_67
          have g_70 : On M_66 := On.frame g_58 (fun c j hcj => m_67 c j (by omega))
          have g_71 : Cs M_66 i_29 := Cs.mv g_59 (by have q39 := m_67 229 39 (by omega); omega) (fun c j hcj => m_67 c j (by omega))
          refine g_aload_n (n := 63) hx 2 (dq tX10_rule 35 rfl) rfl rfl ?_
          refine g_dup (n := 64) hx (dq tX10_rule 36 rfl) rfl rfl ?_
          refine g_getI (n := 67) hx glX10_405 (sX10_41 (by decide)) (dq tX10_rule 37 rfl) rfl (fun h_72l h_72u => ?_)
          have e_73 : M_66 229 41 = M_53 229 41 := (m_67 229 41 (by omega))
          refine g_aload_n (n := 68) hx 2 (dq tX10_rule 38 rfl) rfl rfl ?_
          refine g_getI (n := 71) hx glX10_246 (sX10_39 (by decide)) (dq tX10_rule 39 rfl) rfl (fun h_74l h_74u => ?_)
          have e_75 : M_66 229 39 = M_53 229 39 := (m_67 229 39 (by omega))
          refine g_if_ne (n := 74) (t := 78) hx (dq tX10_rule 40 rfl) (by decide) rfl (zrI h_74l h_74u (by decide) (by decide)) (fun c_76 => ?_) (fun c_76 => ?_)
          · refine g_iconst (n := 79) hx (dq tX10_rule 43 rfl) rfl ?_
            refine g_iadd (n := 80) hx (dq tX10_rule 44 rfl) rfl ?_
            have e_77 : M_66 229 37 = M_53 229 37 := (m_67 229 37 (by omega))
            have e_78 : M_66 229 38 = M_53 229 38 := (m_67 229 38 (by omega))
            have e_79 : M_66 229 40 = M_53 229 40 := (m_67 229 40 (by omega))
            have e_80 : M_66 229 42 = M_53 229 42 := (m_67 229 42 (by omega))
            refine g_putI (n := 83) hx plX10_405 (sX10_41 (by decide)) (dq tX10_rule 45 rfl) rfl (by omega) (by omega) (fun M_81 m_82e m_82 => ?_)
            have g_83 : Gm M_81 := Gm.frame g_68 (fun c j hcj => m_82 c j (by omega))
            have g_84 : Rl M_81 := Rl.add g_69 g_71 (by omega) (by have w0 : (M_53 229 40).toNat = (M_66 229 41).toNat := (by omega); rw [← w0]; exact (rfl).trans m_67e) m_82e (by omega) m_82
            have g_85 : On M_81 := On.frame g_70 (fun c j hcj => m_82 c j (by omega))
            have g_86 : Cs M_81 i_29 := Cs.mv g_71 (by have q39 := m_82 229 39 (by omega); omega) (fun c j hcj => m_82 c j (by omega))
            refine g_aload_n (n := 84) hx 2 (dq tX10_rule 46 rfl) rfl rfl ?_
            refine g_getI (n := 87) hx glX10_246 (sX10_39 (by decide)) (dq tX10_rule 47 rfl) rfl (fun h_87l h_87u => ?_)
            have e_88 : M_81 229 39 = M_66 229 39 := (m_82 229 39 (by omega))
            refine g_if_le (n := 90) (t := 100) hx (dq tX10_rule 48 rfl) (by decide) rfl (zrI h_87l h_87u (by decide) (by decide)) (fun c_89 => ?_) (fun c_89 => ?_)
            · refine g_aload_n (n := 101) hx 2 (dq tX10_rule 54 rfl) rfl rfl ?_
              refine g_getI (n := 104) hx glX10_405 (sX10_41 (by decide)) (dq tX10_rule 55 rfl) rfl (fun h_90l h_90u => ?_)
              refine g_iconst (n := 105) hx (dq tX10_rule 56 rfl) rfl ?_
              refine g_isub (n := 106) hx (dq tX10_rule 57 rfl) rfl ?_
              have e_91 : M_81 229 37 = M_66 229 37 := (m_82 229 37 (by omega))
              have e_92 : M_81 229 38 = M_66 229 38 := (m_82 229 38 (by omega))
              have e_93 : M_81 229 40 = M_66 229 40 := (m_82 229 40 (by omega))
              have e_94 : M_81 229 42 = M_66 229 42 := (m_82 229 42 (by omega))
              exact g_iret hx hr (dq tX10_rule 58 rfl) ⟨by omega, by omega⟩ ⟨(fun u_ v_ huv_ => ((((((m_82 u_ v_ huv_.2.2.2.2.2.2.2.2.2.2.2.2.2.2.2.1).trans (m_67 u_ v_ (by omega))).trans (m_54 u_ v_ huv_.2.2.2.2.2.2.2.2.2.2.2.2.2.1)).trans (f_33 u_ v_ ⟨huv_.1, huv_.2.1, huv_.2.2.1, huv_.2.2.2.1, huv_.2.2.2.2.1, huv_.2.2.2.2.2.1, huv_.2.2.2.2.2.2.1, huv_.2.2.2.2.2.2.2.1, huv_.2.2.2.2.2.2.2.2.1, huv_.2.2.2.2.2.2.2.2.2.1, huv_.2.2.2.2.2.2.2.2.2.2.1, huv_.2.2.2.2.2.2.2.2.2.2.2.1, huv_.2.2.2.2.2.2.2.2.2.2.2.2.1⟩)).trans (f_19 u_ v_ ⟨huv_.1, huv_.2.1, huv_.2.2.1, huv_.2.2.2.2.2.2.1, huv_.2.2.2.1⟩)).trans (m_5 u_ v_ huv_.2.2.2.2.2.2.2.2.2.2.2.2.2.2.1))), g_83, g_84, g_85, (by omega)⟩
            · refine g_bipush (n := 92) hx (dq tX10_rule 49 rfl) rfl (by decide) ?_
              refine g_aload_n (n := 93) hx 2 (dq tX10_rule 50 rfl) rfl rfl ?_
              refine g_getI (n := 96) hx glX10_246 (sX10_39 (by decide)) (dq tX10_rule 51 rfl) rfl (fun h_95l h_95u => ?_)
              refine g_isub (n := 97) hx (dq tX10_rule 52 rfl) rfl ?_
              refine g_goto (n := 106) hx (dq tX10_rule 53 rfl) (by decide) ?_
              have e_96 : M_81 229 37 = M_66 229 37 := (m_82 229 37 (by omega))
              have e_97 : M_81 229 38 = M_66 229 38 := (m_82 229 38 (by omega))
              have e_98 : M_81 229 40 = M_66 229 40 := (m_82 229 40 (by omega))
              have e_99 : M_81 229 42 = M_66 229 42 := (m_82 229 42 (by omega))
              exact g_iret hx hr (dq tX10_rule 58 rfl) ⟨by omega, by omega⟩ ⟨(fun u_ v_ huv_ => ((((((m_82 u_ v_ huv_.2.2.2.2.2.2.2.2.2.2.2.2.2.2.2.1).trans (m_67 u_ v_ (by omega))).trans (m_54 u_ v_ huv_.2.2.2.2.2.2.2.2.2.2.2.2.2.1)).trans (f_33 u_ v_ ⟨huv_.1, huv_.2.1, huv_.2.2.1, huv_.2.2.2.1, huv_.2.2.2.2.1, huv_.2.2.2.2.2.1, huv_.2.2.2.2.2.2.1, huv_.2.2.2.2.2.2.2.1, huv_.2.2.2.2.2.2.2.2.1, huv_.2.2.2.2.2.2.2.2.2.1, huv_.2.2.2.2.2.2.2.2.2.2.1, huv_.2.2.2.2.2.2.2.2.2.2.2.1, huv_.2.2.2.2.2.2.2.2.2.2.2.2.1⟩)).trans (f_19 u_ v_ ⟨huv_.1, huv_.2.1, huv_.2.2.1, huv_.2.2.2.2.2.2.1, huv_.2.2.2.1⟩)).trans (m_5 u_ v_ huv_.2.2.2.2.2.2.2.2.2.2.2.2.2.2.1))), g_83, g_84, g_85, (by omega)⟩
          · refine g_iconst (n := 75) hx (dq tX10_rule 41 rfl) rfl ?_
            refine g_goto (n := 79) hx (dq tX10_rule 42 rfl) (by decide) ?_
            refine g_iadd (n := 80) hx (dq tX10_rule 44 rfl) rfl ?_
            have e_100 : M_66 229 37 = M_53 229 37 := (m_67 229 37 (by omega))
            have e_101 : M_66 229 38 = M_53 229 38 := (m_67 229 38 (by omega))
            have e_102 : M_66 229 40 = M_53 229 40 := (m_67 229 40 (by omega))
            have e_103 : M_66 229 42 = M_53 229 42 := (m_67 229 42 (by omega))
            refine g_putI (n := 83) hx plX10_405 (sX10_41 (by decide)) (dq tX10_rule 45 rfl) rfl (by omega) (by omega) (fun M_104 m_105e m_105 => ?_)
            have g_106 : Gm M_104 := Gm.frame g_68 (fun c j hcj => m_105 c j (by omega))
            have g_107 : Rl M_104 := Rl.add g_69 g_71 (by omega) (by have w0 : (M_53 229 40).toNat = (M_66 229 41).toNat := (by omega); rw [← w0]; exact (rfl).trans m_67e) m_105e (by omega) m_105
            have g_108 : On M_104 := On.frame g_70 (fun c j hcj => m_105 c j (by omega))
            have g_109 : Cs M_104 i_29 := Cs.mv g_71 (by have q39 := m_105 229 39 (by omega); omega) (fun c j hcj => m_105 c j (by omega))
            refine g_aload_n (n := 84) hx 2 (dq tX10_rule 46 rfl) rfl rfl ?_
            refine g_getI (n := 87) hx glX10_246 (sX10_39 (by decide)) (dq tX10_rule 47 rfl) rfl (fun h_110l h_110u => ?_)
            have e_111 : M_104 229 39 = M_66 229 39 := (m_105 229 39 (by omega))
            refine g_if_le (n := 90) (t := 100) hx (dq tX10_rule 48 rfl) (by decide) rfl (zrI h_110l h_110u (by decide) (by decide)) (fun c_112 => ?_) (fun c_112 => ?_)
            · refine g_aload_n (n := 101) hx 2 (dq tX10_rule 54 rfl) rfl rfl ?_
              refine g_getI (n := 104) hx glX10_405 (sX10_41 (by decide)) (dq tX10_rule 55 rfl) rfl (fun h_113l h_113u => ?_)
              refine g_iconst (n := 105) hx (dq tX10_rule 56 rfl) rfl ?_
              refine g_isub (n := 106) hx (dq tX10_rule 57 rfl) rfl ?_
              have e_114 : M_104 229 37 = M_66 229 37 := (m_105 229 37 (by omega))
              have e_115 : M_104 229 38 = M_66 229 38 := (m_105 229 38 (by omega))
              have e_116 : M_104 229 40 = M_66 229 40 := (m_105 229 40 (by omega))
              have e_117 : M_104 229 42 = M_66 229 42 := (m_105 229 42 (by omega))
              exact g_iret hx hr (dq tX10_rule 58 rfl) ⟨by omega, by omega⟩ ⟨(fun u_ v_ huv_ => ((((((m_105 u_ v_ huv_.2.2.2.2.2.2.2.2.2.2.2.2.2.2.2.1).trans (m_67 u_ v_ (by omega))).trans (m_54 u_ v_ huv_.2.2.2.2.2.2.2.2.2.2.2.2.2.1)).trans (f_33 u_ v_ ⟨huv_.1, huv_.2.1, huv_.2.2.1, huv_.2.2.2.1, huv_.2.2.2.2.1, huv_.2.2.2.2.2.1, huv_.2.2.2.2.2.2.1, huv_.2.2.2.2.2.2.2.1, huv_.2.2.2.2.2.2.2.2.1, huv_.2.2.2.2.2.2.2.2.2.1, huv_.2.2.2.2.2.2.2.2.2.2.1, huv_.2.2.2.2.2.2.2.2.2.2.2.1, huv_.2.2.2.2.2.2.2.2.2.2.2.2.1⟩)).trans (f_19 u_ v_ ⟨huv_.1, huv_.2.1, huv_.2.2.1, huv_.2.2.2.2.2.2.1, huv_.2.2.2.1⟩)).trans (m_5 u_ v_ huv_.2.2.2.2.2.2.2.2.2.2.2.2.2.2.1))), g_106, g_107, g_108, (by omega)⟩
            · refine g_bipush (n := 92) hx (dq tX10_rule 49 rfl) rfl (by decide) ?_
              refine g_aload_n (n := 93) hx 2 (dq tX10_rule 50 rfl) rfl rfl ?_
              refine g_getI (n := 96) hx glX10_246 (sX10_39 (by decide)) (dq tX10_rule 51 rfl) rfl (fun h_118l h_118u => ?_)
              refine g_isub (n := 97) hx (dq tX10_rule 52 rfl) rfl ?_
              refine g_goto (n := 106) hx (dq tX10_rule 53 rfl) (by decide) ?_
              have e_119 : M_104 229 37 = M_66 229 37 := (m_105 229 37 (by omega))
              have e_120 : M_104 229 38 = M_66 229 38 := (m_105 229 38 (by omega))
              have e_121 : M_104 229 40 = M_66 229 40 := (m_105 229 40 (by omega))
              have e_122 : M_104 229 42 = M_66 229 42 := (m_105 229 42 (by omega))
              exact g_iret hx hr (dq tX10_rule 58 rfl) ⟨by omega, by omega⟩ ⟨(fun u_ v_ huv_ => ((((((m_105 u_ v_ huv_.2.2.2.2.2.2.2.2.2.2.2.2.2.2.2.1).trans (m_67 u_ v_ (by omega))).trans (m_54 u_ v_ huv_.2.2.2.2.2.2.2.2.2.2.2.2.2.1)).trans (f_33 u_ v_ ⟨huv_.1, huv_.2.1, huv_.2.2.1, huv_.2.2.2.1, huv_.2.2.2.2.1, huv_.2.2.2.2.2.1, huv_.2.2.2.2.2.2.1, huv_.2.2.2.2.2.2.2.1, huv_.2.2.2.2.2.2.2.2.1, huv_.2.2.2.2.2.2.2.2.2.1, huv_.2.2.2.2.2.2.2.2.2.2.1, huv_.2.2.2.2.2.2.2.2.2.2.2.1, huv_.2.2.2.2.2.2.2.2.2.2.2.2.1⟩)).trans (f_19 u_ v_ ⟨huv_.1, huv_.2.1, huv_.2.2.1, huv_.2.2.2.2.2.2.1, huv_.2.2.2.1⟩)).trans (m_5 u_ v_ huv_.2.2.2.2.2.2.2.2.2.2.2.2.2.2.1))), g_106, g_107, g_108, (by omega)⟩
        · refine g_iv (fun hI_123 => ?_)
          have e_124 : M_30 229 37 = M_4 229 37 := ((f_33 229 37 (by omega))).trans (f_19 229 37 (by omega))
          have e_125 : M_30 229 40 = M_4 229 40 := ((f_33 229 40 (by omega))).trans (f_19 229 40 (by omega))
          have e_126 : M_30 229 41 = M_4 229 41 := ((f_33 229 41 (by omega))).trans (f_19 229 41 (by omega))
          refine g_aload_n (n := 32) hx 2 (dq tX10_rule 18 rfl) rfl rfl ?_
          refine g_iload_n (n := 33) hx 1 (dq tX10_rule 19 rfl) rfl rfl ?_
          refine g_callVv (n := 36) (As := [vI i_29]) (rest := []) hx (ctX10_ruleClause Γ M_30 i_29 (by omega) (by omega) (by omega) (h_39 (by omega))) mlX10_408 (obX10 (by decide)) (dq tX10_rule 20 rfl) rfl (Nat.le_of_ble_eq_true rfl) (Nat.le_of_ble_eq_true rfl) (Nat.le_of_ble_eq_true rfl) rfl (fun M_128 p_130 => ?_)
          obtain ⟨f_131, h_132, h_133, h_134, h_135, h_136, h_137⟩ := p_130
          have g_138 : Gm M_128 := Gm.frame g_34 (fun c j hcj => f_131 c j (by omega))
          have g_139 : Rl M_128 := Rl.read hI_123 g_35 (by omega) h_133 h_137 (fun c j hcj => f_131 c j (by omega))
          have g_140 : On M_128 := On.frame g_36 (fun c j hcj => f_131 c j (by omega))
          refine g_iinc (n := 39) (lv' := [(1, vI (i_29 + 1)), (2, vI i_28), (0, aR Γ 229)]) hx 1 (dq tX10_rule 21 rfl) rfl (by decide) rfl rfl ?_
          refine g_aload_n (n := 40) hx 2 (dq tX10_rule 22 rfl) rfl rfl ?_
          have e_141 : M_128 229 37 = M_30 229 37 := (f_131 229 37 (by omega))
          have e_142 : M_128 229 40 = M_30 229 40 := (f_131 229 40 (by omega))
          have e_143 : M_128 229 41 = M_30 229 41 := (f_131 229 41 (by omega))
          refine g_callVi (n := 43) (As := []) (rest := []) hx (ctX10_goesOn Γ M_128 (by omega)) mlX10_378 (obX10 (by decide)) (dq tX10_rule 23 rfl) rfl (Nat.le_of_ble_eq_true rfl) (Nat.le_of_ble_eq_true rfl) (Nat.le_of_ble_eq_true rfl) rfl (fun z_144 M_145 h_146 p_147 => ?_)
          obtain ⟨f_148, b_149, h_150, h_151, h_152⟩ := p_147
          have g_153 : Gm M_145 := Gm.frame g_138 (fun c j hcj => f_148 c j (by omega))
          have g_155 : Rl M_145 := Rl.frame g_139 (fun c j hcj => f_148 c j (by omega))
          have g_156 : On M_145 := On.frame g_140 (fun c j hcj => f_148 c j (by omega))
          refine g_istore_n (n := 44) (lv' := [(2, vI z_144), (1, vI (i_29 + 1)), (0, aR Γ 229)]) hx (dq tX10_rule 24 rfl) (by decide) rfl rfl ?_
          refine g_goto (n := 27) hx (dq tX10_rule 25 rfl) (by decide) ?_
          have e_159 : M_145 229 37 = M_128 229 37 := (f_148 229 37 (by omega))
          have e_160 : M_145 229 40 = M_128 229 40 := (f_148 229 40 (by omega))
          have e_161 : M_145 229 41 = M_128 229 41 := (f_148 229 41 (by omega))
          have e_162 : M_145 229 42 = M_128 229 42 := (f_148 229 42 (by omega))
          exact ih_32 _ (by omega) z_144 (i_29 + 1) M_145 (by omega) (by omega) (by omega) (by omega) (fun u_ v_ huv_ => (((f_148 u_ v_ ⟨huv_.1, huv_.2.1⟩).trans (f_131 u_ v_ ⟨huv_.1, huv_.2.1, huv_.2.2.1, huv_.2.2.2.1, huv_.2.2.2.2.1, huv_.2.2.2.2.2.1, huv_.2.2.2.2.2.2.1, huv_.2.2.2.2.2.2.2.1, huv_.2.2.2.2.2.2.2.2.1, huv_.2.2.2.2.2.2.2.2.2.1, huv_.2.2.2.2.2.2.2.2.2.2.1, huv_.2.2.2.2.2.2.2.2.2.2.2.1, huv_.2.2.2.2.2.2.2.2.2.2.2.2⟩)).trans (f_33 u_ v_ ⟨huv_.1, huv_.2.1, huv_.2.2.1, huv_.2.2.2.1, huv_.2.2.2.2.1, huv_.2.2.2.2.2.1, huv_.2.2.2.2.2.2.1, huv_.2.2.2.2.2.2.2.1, huv_.2.2.2.2.2.2.2.2.1, huv_.2.2.2.2.2.2.2.2.2.1, huv_.2.2.2.2.2.2.2.2.2.2.1, huv_.2.2.2.2.2.2.2.2.2.2.2.1, huv_.2.2.2.2.2.2.2.2.2.2.2.2⟩))) g_153 g_155 g_156 (Cs.mv (Cs.go (m := i_29.toNat) h_38 (by omega) (by omega) (by omega) rfl rfl h_133 h_137 (fun q => (h_136 q).2)) (by omega) (fun c j hcj => (f_148 c j (by omega)))) (fun hz9 => Rd.new (Rd.mv h_132 (fun c j hcj => (f_148 c j (by omega))) (by omega)) (by omega)) (by omega) (by omega) (by omega) (by omega) (by omega) rfl
    have e_163 : M_16 229 37 = M_4 229 37 := (f_19 229 37 (by omega))
    have e_164 : M_16 229 40 = M_4 229 40 := (f_19 229 40 (by omega))
    have e_165 : M_16 229 41 = M_4 229 41 := (f_19 229 41 (by omega))
    exact L_31 _ 1 0 M_16 (by omega) (by omega) (by omega) (by omega) (fun _ _ _ => rfl) g_24 g_26 g_27 Cs.nil (fun _ q => ⟨by omega, by omega, by omega, Int.le_refl _, Int.le_refl _, by omega, Rn.nil⟩) (by omega) (by omega) (by omega) (by omega) (by omega) rfl
  · refine g_iconst (n := 10) hx (dq tX10_rule 4 rfl) rfl ?_
    exact g_iret hx hr (dq tX10_rule 5 rfl) ⟨by decide, by decide⟩ ⟨(fun _ _ _ => rfl), gm, rl, on, (by omega)⟩

abbrev qctX10_force (M : zM) (r : Int) (z : Int) (M' : zM) : Prop := (∀ u_ v_, (u_ ≠ 229 + 1 ∨ v_ ≠ 15) → M' u_ v_ = M u_ v_) ∧ Gm M' ∧ Rl M' ∧ On M'
set_option maxHeartbeats 4000000 in
set_option maxRecDepth 100000 in
theorem ctX10_force (Γ : Gam) (M : zM) (r : Int) (hrl : (-2147483648) ≤ r) (hru : r ≤ 2147483647) (gm : Gm M) (rl : Rl M) (on : On M) : CtI Γ yX10_force cX10_force 3 (some .int) 2 46 [aR Γ 229, vI r] M (qctX10_force M r) := by
  refine met_i (by decide) (Nat.le_of_ble_eq_true rfl) (fun x hx hr => ?_)
  show G Γ x 3 (QI Γ x (qctX10_force M r)) M 0 [(0, aR Γ 229), (1, vI r)] []
  refine g_aload_n (n := 1) hx 0 (dq tX10_force 0 rfl) rfl rfl ?_
  refine g_callVi (n := 4) (As := []) (rest := []) hx (ctX10_isRiver Γ M ) mlX10_413 (obX10 (by decide)) (dq tX10_force 1 rfl) rfl (Nat.le_of_ble_eq_true rfl) (Nat.le_of_ble_eq_true rfl) (Nat.le_of_ble_eq_true rfl) rfl (fun z_1 M_2 h_3 p_4 => ?_)
  obtain ⟨rfl, b_6⟩ := p_4
  refine g_if_eq (n := 7) (t := 15) hx (dq tX10_force 2 rfl) (by decide) rfl h_3 (fun c_8 => ?_) (fun c_8 => ?_)
  · clear b_6
    refine g_bipush (n := 17) hx (dq tX10_force 7 rfl) rfl (by decide) ?_
    exact g_iret hx hr (dq tX10_force 8 rfl) ⟨by decide, by decide⟩ ⟨(fun _ _ _ => rfl), gm, rl, on⟩
  · have b_6 := b_6.resolve_left c_8
    obtain ⟨-, h_7⟩ := b_6
    refine g_aload_n (n := 8) hx 0 (dq tX10_force 3 rfl) rfl rfl ?_
    refine g_iload_n (n := 9) hx 1 (dq tX10_force 4 rfl) rfl rfl ?_
    refine g_callVi (n := 12) (As := [vI r]) (rest := []) hx (ctX10_isRuleOrNone Γ M r (by omega) (by omega)) mlX10_416 (obX10 (by decide)) (dq tX10_force 5 rfl) rfl (Nat.le_of_ble_eq_true rfl) (Nat.le_of_ble_eq_true rfl) (Nat.le_of_ble_eq_true rfl) rfl (fun z_9 M_10 h_11 p_12 => ?_)
    obtain ⟨rfl, b_14⟩ := p_12
    refine g_if_ne (n := 15) (t := 18) hx (dq tX10_force 6 rfl) (by decide) rfl h_11 (fun c_18 => ?_) (fun c_18 => ?_)
    · have b_14 := b_14.resolve_left c_18
      obtain ⟨-, h_15, h_16, h_17⟩ := b_14
      refine g_aload_n (n := 19) hx 0 (dq tX10_force 9 rfl) rfl rfl ?_
      refine g_getR (n := 22) hx glX10_9 (sX10_1 (by decide)) (dq tX10_force 10 rfl) rfl ?_
      refine g_bipush (n := 24) hx (dq tX10_force 11 rfl) rfl (by decide) ?_
      refine g_ialdX (n := 25) (q := 15) hx (aX10_1 (b := 229) (by decide)) (dq tX10_force 12 rfl) rfl (by decide) (by decide) (by decide) rfl (fun h_19l h_19u => ?_)
      have h_19l : (-1) ≤ M (229 + 1) 15 := h_19l
      have h_19u : M (229 + 1) 15 ≤ 5 := h_19u
      refine g_istore_n (n := 26) (lv' := [(2, vI (M (229 + 1) 15)), (0, aR Γ 229), (1, vI r)]) hx (dq tX10_force 13 rfl) (by decide) rfl rfl ?_
      refine g_aload_n (n := 27) hx 1 (dq tX10_force 14 rfl) rfl rfl ?_
      refine g_getR (n := 30) hx glX10_9 (sX10_1 (by decide)) (dq tX10_force 15 rfl) rfl ?_
      refine g_bipush (n := 32) hx (dq tX10_force 16 rfl) rfl (by decide) ?_
      refine g_iload_n (n := 33) hx 2 (dq tX10_force 17 rfl) rfl rfl ?_
      refine g_iastX (n := 34) (q := 15) hx (aX10_1 (b := 229) (by decide)) (dq tX10_force 18 rfl) rfl (by decide) (by decide) (by decide) rfl (show (-1) ≤ r by omega) (show r ≤ 5 by omega) (fun M_20 m_21e m_21 => ?_)
      have g_22 : Gm M_20 := Gm.frame gm (fun c j hcj => m_21 c j (by omega))
      have g_23 : On M_20 := On.frame on (fun c j hcj => m_21 c j (by omega))
      have g_24 : Rl M_20 := Rl.set rl (by rw [m_21 (229 + 1) 5 (by omega), m_21 (229 + 1) 6 (by omega)]; exact rl.1) (by rw [m_21 (229 + 1) 6 (by omega)]; exact Rl.lawr rl) (by have w1 := m_21e; omega) (fun v9 hv => by rw [m_21 (229 + 1) 1 (by omega)] at hv; rw [m_21 (229 + 6) v9 (by omega)]; exact Rl.bound rl v9 hv) (fun c j hcj => m_21 c j (by omega))
      refine g_iload_n (n := 35) hx 0 (dq tX10_force 19 rfl) rfl rfl ?_
      have e_25 : M_20 (229 + 1) 1 = M (229 + 1) 1 := (m_21 (229 + 1) 1 (by omega))
      have e_26 : M_20 (229 + 1) 3 = M (229 + 1) 3 := (m_21 (229 + 1) 3 (by omega))
      exact g_iret hx hr (dq tX10_force 20 rfl) (zrI h_19l h_19u (by decide) (by decide)) ⟨(fun u_ v_ huv_ => (m_21 u_ v_ huv_)), g_22, g_24, g_23⟩
    · clear b_14
      refine g_bipush (n := 17) hx (dq tX10_force 7 rfl) rfl (by decide) ?_
      exact g_iret hx hr (dq tX10_force 8 rfl) ⟨by decide, by decide⟩ ⟨(fun _ _ _ => rfl), gm, rl, on⟩

abbrev qctX10_bind (M : zM) (v : Int) (r : Int) (z : Int) (M' : zM) : Prop := (∀ u_ v_, u_ ≠ 229 + 6 → M' u_ v_ = M u_ v_) ∧ Gm M' ∧ Rl M' ∧ On M'
set_option maxHeartbeats 4000000 in
set_option maxRecDepth 100000 in
theorem ctX10_bind (Γ : Gam) (M : zM) (v : Int) (hvl : (-2147483648) ≤ v) (hvu : v ≤ 2147483647) (r : Int) (hrl : (-2147483648) ≤ r) (hru : r ≤ 2147483647) (gm : Gm M) (rl : Rl M) (on : On M) : CtI Γ yX10_bind cX10_bind 4 (some .int) 2 46 [aR Γ 229, vI v, vI r] M (qctX10_bind M v r) := by
  refine met_i (by decide) (Nat.le_of_ble_eq_true rfl) (fun x hx hr => ?_)
  show G Γ x 4 (QI Γ x (qctX10_bind M v r)) M 0 [(0, aR Γ 229), (1, vI v), (2, vI r)] []
  refine g_aload_n (n := 1) hx 0 (dq tX10_bind 0 rfl) rfl rfl ?_
  refine g_iload_n (n := 2) hx 1 (dq tX10_bind 1 rfl) rfl rfl ?_
  refine g_callVi (n := 5) (As := [vI v]) (rest := []) hx (ctX10_isVillage Γ M v (by omega) (by omega)) mlX10_419 (obX10 (by decide)) (dq tX10_bind 2 rfl) rfl (Nat.le_of_ble_eq_true rfl) (Nat.le_of_ble_eq_true rfl) (Nat.le_of_ble_eq_true rfl) rfl (fun z_1 M_2 h_3 p_4 => ?_)
  obtain ⟨rfl, b_6⟩ := p_4
  refine g_if_eq (n := 8) (t := 16) hx (dq tX10_bind 3 rfl) (by decide) rfl h_3 (fun c_10 => ?_) (fun c_10 => ?_)
  · clear b_6
    refine g_bipush (n := 18) hx (dq tX10_bind 8 rfl) rfl (by decide) ?_
    exact g_iret hx hr (dq tX10_bind 9 rfl) ⟨by decide, by decide⟩ ⟨(fun _ _ _ => rfl), gm, rl, on⟩
  · have b_6 := b_6.resolve_left c_10
    obtain ⟨-, h_7, h_8, h_9⟩ := b_6
    refine g_aload_n (n := 9) hx 0 (dq tX10_bind 4 rfl) rfl rfl ?_
    refine g_iload_n (n := 10) hx 2 (dq tX10_bind 5 rfl) rfl rfl ?_
    refine g_callVi (n := 13) (As := [vI r]) (rest := []) hx (ctX10_isRuleOrNone Γ M r (by omega) (by omega)) mlX10_416 (obX10 (by decide)) (dq tX10_bind 6 rfl) rfl (Nat.le_of_ble_eq_true rfl) (Nat.le_of_ble_eq_true rfl) (Nat.le_of_ble_eq_true rfl) rfl (fun z_11 M_12 h_13 p_14 => ?_)
    obtain ⟨rfl, b_16⟩ := p_14
    refine g_if_ne (n := 16) (t := 19) hx (dq tX10_bind 7 rfl) (by decide) rfl h_13 (fun c_20 => ?_) (fun c_20 => ?_)
    · have b_16 := b_16.resolve_left c_20
      obtain ⟨-, h_17, h_18, h_19⟩ := b_16
      refine g_aload_n (n := 20) hx 0 (dq tX10_bind 10 rfl) rfl rfl ?_
      refine g_getR (n := 23) hx glX10_25 (sX10_6 (by decide)) (dq tX10_bind 11 rfl) rfl ?_
      refine g_iload_n (n := 24) hx 1 (dq tX10_bind 12 rfl) rfl rfl ?_
      refine g_iald (n := 25) (q := v.toNat) hx (aX10_6 (b := 229) (by decide)) (dq tX10_bind 13 rfl) rfl (by omega) (by omega) (by omega) rfl (fun h_21l h_21u => ?_)
      refine g_istore_n (n := 26) (lv' := [(3, vI (M (229 + 6) v.toNat)), (0, aR Γ 229), (1, vI v), (2, vI r)]) hx (dq tX10_bind 14 rfl) (by decide) rfl rfl ?_
      refine g_aload_n (n := 27) hx 1 (dq tX10_bind 15 rfl) rfl rfl ?_
      refine g_getR (n := 30) hx glX10_25 (sX10_6 (by decide)) (dq tX10_bind 16 rfl) rfl ?_
      refine g_iload_n (n := 31) hx 2 (dq tX10_bind 17 rfl) rfl rfl ?_
      refine g_iload_n (n := 32) hx 3 (dq tX10_bind 18 rfl) rfl rfl ?_
      refine g_iast (n := 33) (q := v.toNat) hx (aX10_6 (b := 229) (by decide)) (dq tX10_bind 19 rfl) rfl (by omega) (by omega) (by omega) rfl (by omega) (by omega) (fun M_22 m_23e m_23 => ?_)
      have g_24 : Gm M_22 := Gm.frame gm (fun c j hcj => m_23 c j (by omega))
      have g_25 : On M_22 := On.frame on (fun c j hcj => m_23 c j (by omega))
      have g_26 : Rl M_22 := Rl.set rl (by rw [m_23 (229 + 1) 5 (by omega), m_23 (229 + 1) 6 (by omega)]; exact rl.1) (by rw [m_23 (229 + 1) 6 (by omega)]; exact Rl.lawr rl) (by rw [m_23 (229 + 1) 15 (by omega)]; exact Rl.force rl) (fun v9 hv => by
          rw [m_23 (229 + 1) 1 (by omega)] at hv
          by_cases z : v9 = v.toNat
          · rw [z]; have w1 := m_23e; omega
          · rw [m_23 (229 + 6) v9 (by omega)]; exact Rl.bound rl v9 hv) (fun c j hcj => m_23 c j (by omega))
      refine g_iload_n (n := 34) hx 0 (dq tX10_bind 20 rfl) rfl rfl ?_
      have e_27 : M_22 (229 + 1) 1 = M (229 + 1) 1 := (m_23 (229 + 1) 1 (by omega))
      have e_28 : M_22 (229 + 1) 3 = M (229 + 1) 3 := (m_23 (229 + 1) 3 (by omega))
      exact g_iret hx hr (dq tX10_bind 21 rfl) (zrI h_21l h_21u (by decide) (by decide)) ⟨(fun u_ v_ huv_ => (m_23 u_ v_ (by omega))), g_24, g_26, g_25⟩
    · clear b_16
      refine g_bipush (n := 18) hx (dq tX10_bind 8 rfl) rfl (by decide) ?_
      exact g_iret hx hr (dq tX10_bind 9 rfl) ⟨by decide, by decide⟩ ⟨(fun _ _ _ => rfl), gm, rl, on⟩

abbrev qctX10_law (M : zM) (w : Int) (r : Int) (z : Int) (M' : zM) : Prop := (∀ u_ v_, (u_ ≠ 229 + 1 ∨ v_ ≠ 5) ∧ (u_ ≠ 229 + 1 ∨ v_ ≠ 6) → M' u_ v_ = M u_ v_) ∧ Gm M' ∧ Rl M' ∧ On M'
set_option maxHeartbeats 4000000 in
set_option maxRecDepth 100000 in
theorem ctX10_law (Γ : Gam) (M : zM) (w : Int) (hwl : (-2147483648) ≤ w) (hwu : w ≤ 2147483647) (r : Int) (hrl : (-2147483648) ≤ r) (hru : r ≤ 2147483647) (gm : Gm M) (rl : Rl M) (on : On M) : CtI Γ yX10_law cX10_law 4 (some .int) 1 25 [aR Γ 229, vI w, vI r] M (qctX10_law M w r) := by
  refine met_i (by decide) (Nat.le_of_ble_eq_true rfl) (fun x hx hr => ?_)
  show G Γ x 4 (QI Γ x (qctX10_law M w r)) M 0 [(0, aR Γ 229), (1, vI w), (2, vI r)] []
  refine g_iv (fun hI0 => ?_)
  have hI_37 : (0 : Int) ≤ M 229 37 ∧ M 229 37 ≤ 400 := hI0 229 37
  have hI_38 : (0 : Int) ≤ M 229 38 ∧ M 229 38 ≤ 402 := hI0 229 38
  have hI_45 : (0 : Int) ≤ M 229 45 ∧ M 229 45 ≤ 402 := hI0 229 45
  have hI_42 : (0 : Int) ≤ M 229 42 ∧ M 229 42 ≤ 300 := hI0 229 42
  have hI_39 : (0 : Int) ≤ M 229 39 ∧ M 229 39 ≤ 100000 := hI0 229 39
  have hI_40 : (0 : Int) ≤ M 229 40 ∧ M 229 40 ≤ 5 := hI0 229 40
  have hI_41 : (0 : Int) ≤ M 229 41 ∧ M 229 41 ≤ 6 := hI0 229 41
  clear hI0
  refine g_aload_n (n := 1) hx 0 (dq tX10_law 0 rfl) rfl rfl ?_
  refine g_callVi (n := 4) (As := []) (rest := []) hx (ctX10_isRiver Γ M ) mlX10_413 (obX10 (by decide)) (dq tX10_law 1 rfl) rfl (Nat.le_of_ble_eq_true rfl) (Nat.le_of_ble_eq_true rfl) (Nat.le_of_ble_eq_true rfl) rfl (fun z_1 M_2 h_3 p_4 => ?_)
  obtain ⟨rfl, b_6⟩ := p_4
  refine g_if_eq (n := 7) (t := 40) hx (dq tX10_law 2 rfl) (by decide) rfl h_3 (fun c_8 => ?_) (fun c_8 => ?_)
  · clear b_6
    refine g_bipush (n := 42) hx (dq tX10_law 22 rfl) rfl (by decide) ?_
    exact g_iret hx hr (dq tX10_law 23 rfl) ⟨by decide, by decide⟩ ⟨(fun _ _ _ => rfl), gm, rl, on⟩
  · have b_6 := b_6.resolve_left c_8
    obtain ⟨-, h_7⟩ := b_6
    refine g_iload_n (n := 8) hx 1 (dq tX10_law 3 rfl) rfl rfl ?_
    refine g_i2l (n := 9) hx (dq tX10_law 4 rfl) rfl (zrI hwl hwu (by decide) (by decide)) ?_
    refine g_lconst (n := 10) (z := 0) hx (dq tX10_law 5 rfl) rfl (by decide) ?_
    refine g_ldc2 (n := 13) (z := 3) hx wd_1575 (by decide) (dq tX10_law 6 rfl) rfl ?_
    refine g_callSi (n := 16) (As := [vL w, vL 0, vL 3]) (rest := []) hx (ctX10_in Γ M w (by omega) (by omega) 0 (by omega) (by omega) 3 (by omega) (by omega)) mlX10_191 (dq tX10_law 7 rfl) rfl (Nat.le_of_ble_eq_true rfl) (Nat.le_of_ble_eq_true rfl) (Nat.le_of_ble_eq_true rfl) rfl (fun z_9 M_10 h_11 p_12 => ?_)
    obtain ⟨rfl, b_14, h_15⟩ := p_12
    refine g_if_eq (n := 19) (t := 40) hx (dq tX10_law 8 rfl) (by decide) rfl h_11 (fun c_18 => ?_) (fun c_18 => ?_)
    · clear b_14
      refine g_bipush (n := 42) hx (dq tX10_law 22 rfl) rfl (by decide) ?_
      exact g_iret hx hr (dq tX10_law 23 rfl) ⟨by decide, by decide⟩ ⟨(fun _ _ _ => rfl), gm, rl, on⟩
    · have b_14 := b_14.resolve_left c_18
      obtain ⟨-, h_16, h_17⟩ := b_14
      refine g_iload_n (n := 20) hx 1 (dq tX10_law 9 rfl) rfl rfl ?_
      refine g_iconst (n := 21) hx (dq tX10_law 10 rfl) rfl ?_
      refine g_icmp_ne (n := 24) (t := 43) hx (dq tX10_law 11 rfl) (by decide) rfl (zrI hwl hwu (by decide) (by decide)) ⟨by decide, by decide⟩ (fun c_19 => ?_) (fun c_19 => ?_)
      · refine g_aload_n (n := 44) hx 0 (dq tX10_law 24 rfl) rfl rfl ?_
        refine g_getR (n := 47) hx glX10_9 (sX10_1 (by decide)) (dq tX10_law 25 rfl) rfl ?_
        refine g_iconst (n := 48) hx (dq tX10_law 26 rfl) rfl ?_
        refine g_ialdX (n := 49) (q := 5) hx (aX10_1 (b := 229) (by decide)) (dq tX10_law 27 rfl) rfl (by decide) (by decide) (by decide) rfl (fun h_20l h_20u => ?_)
        have h_20l : 0 ≤ M (229 + 1) 5 := h_20l
        have h_20u : M (229 + 1) 5 ≤ 3 := h_20u
        refine g_istore_n (n := 50) (lv' := [(3, vI (M (229 + 1) 5)), (0, aR Γ 229), (1, vI w), (2, vI r)]) hx (dq tX10_law 28 rfl) (by decide) rfl rfl ?_
        refine g_aload_n (n := 51) hx 1 (dq tX10_law 29 rfl) rfl rfl ?_
        refine g_getR (n := 54) hx glX10_9 (sX10_1 (by decide)) (dq tX10_law 30 rfl) rfl ?_
        refine g_iconst (n := 55) hx (dq tX10_law 31 rfl) rfl ?_
        refine g_iload_n (n := 56) hx 2 (dq tX10_law 32 rfl) rfl rfl ?_
        refine g_iastX (n := 57) (q := 5) hx (aX10_1 (b := 229) (by decide)) (dq tX10_law 33 rfl) rfl (by decide) (by decide) (by decide) rfl (show 0 ≤ w by omega) (show w ≤ 3 by omega) (fun M_21 m_22e m_22 => ?_)
        have g_23 : Gm M_21 := Gm.frame gm (fun c j hcj => m_22 c j (by omega))
        have g_24 : On M_21 := On.frame on (fun c j hcj => m_22 c j (by omega))
        refine g_aload_n (n := 58) hx 1 (dq tX10_law 34 rfl) rfl rfl ?_
        refine g_getR (n := 61) hx glX10_9 (sX10_1 (by decide)) (dq tX10_law 35 rfl) rfl ?_
        refine g_bipush (n := 63) hx (dq tX10_law 36 rfl) rfl (by decide) ?_
        refine g_iload_n (n := 64) hx 2 (dq tX10_law 37 rfl) rfl rfl ?_
        refine g_iconst (n := 65) hx (dq tX10_law 38 rfl) rfl ?_
        refine g_icmp_ne (n := 68) (t := 72) hx (dq tX10_law 39 rfl) (by decide) rfl (zrI hwl hwu (by decide) (by decide)) ⟨by decide, by decide⟩ (fun c_25 => ?_) (fun c_25 => ?_)
        · refine g_iconst (n := 73) hx (dq tX10_law 42 rfl) rfl ?_
          have e_26 : M_21 (229 + 1) 1 = M (229 + 1) 1 := (m_22 (229 + 1) 1 (by omega))
          have e_27 : M_21 (229 + 1) 3 = M (229 + 1) 3 := (m_22 (229 + 1) 3 (by omega))
          refine g_iastX (n := 74) (q := 6) hx (aX10_1 (b := 229) (by decide)) (dq tX10_law 43 rfl) rfl (by decide) (by decide) (by decide) rfl (show (-1) ≤ (-1) by omega) (show (-1) ≤ 5 by omega) (fun M_28 m_29e m_29 => ?_)
          have g_30 : Gm M_28 := Gm.frame g_23 (fun c j hcj => m_29 c j (by omega))
          have g_31 : On M_28 := On.frame g_24 (fun c j hcj => m_29 c j (by omega))
          have g_325 : M_28 (229 + 1) 5 = w := ((m_29 (229 + 1) 5 (by omega))).trans m_22e
          have g_326 := m_29e
          have g_32h := Rl.lawr rl
          have g_32 : Rl M_28 := Rl.set rl (by omega) (by omega) (by rw [(((m_29 (229 + 1) 15 (by omega)).trans (m_22 (229 + 1) 15 (by omega))))]; exact Rl.force rl) (fun v9 hv => by rw [(((m_29 (229 + 1) 1 (by omega)).trans (m_22 (229 + 1) 1 (by omega))))] at hv; rw [(((m_29 (229 + 6) v9 (by omega)).trans (m_22 (229 + 6) v9 (by omega))))]; exact Rl.bound rl v9 hv) (fun c j hcj => ((m_29 c j (by omega)).trans (m_22 c j (by omega))))
          refine g_iload_n (n := 75) hx 0 (dq tX10_law 44 rfl) rfl rfl ?_
          have e_33 : M_28 (229 + 1) 1 = M_21 (229 + 1) 1 := (m_29 (229 + 1) 1 (by omega))
          have e_34 : M_28 (229 + 1) 3 = M_21 (229 + 1) 3 := (m_29 (229 + 1) 3 (by omega))
          exact g_iret hx hr (dq tX10_law 45 rfl) (zrI h_20l h_20u (by decide) (by decide)) ⟨(fun u_ v_ huv_ => ((m_29 u_ v_ huv_.2).trans (m_22 u_ v_ huv_.1))), g_30, g_32, g_31⟩
        · omega
      · refine g_iload_n (n := 25) hx 2 (dq tX10_law 12 rfl) rfl rfl ?_
        refine g_i2l (n := 26) hx (dq tX10_law 13 rfl) rfl (zrI hrl hru (by decide) (by decide)) ?_
        refine g_lconst (n := 27) (z := 0) hx (dq tX10_law 14 rfl) rfl (by decide) ?_
        refine g_aload_n (n := 28) hx 0 (dq tX10_law 15 rfl) rfl rfl ?_
        refine g_getI (n := 31) hx glX10_405 (sX10_41 (by decide)) (dq tX10_law 16 rfl) rfl (fun h_35l h_35u => ?_)
        refine g_iconst (n := 32) hx (dq tX10_law 17 rfl) rfl ?_
        refine g_isub (n := 33) hx (dq tX10_law 18 rfl) rfl ?_
        refine g_i2l (n := 34) hx (dq tX10_law 19 rfl) rfl ⟨by omega, by omega⟩ ?_
        refine g_callSi (n := 37) (As := [vL r, vL 0, vL ((M 229 41) - 1)]) (rest := []) hx (ctX10_in Γ M r (by omega) (by omega) 0 (by omega) (by omega) ((M 229 41) - 1) (by omega) (by omega)) mlX10_191 (dq tX10_law 20 rfl) rfl (Nat.le_of_ble_eq_true rfl) (Nat.le_of_ble_eq_true rfl) (Nat.le_of_ble_eq_true rfl) rfl (fun z_36 M_37 h_38 p_39 => ?_)
        obtain ⟨rfl, b_41, h_42⟩ := p_39
        refine g_if_ne (n := 40) (t := 43) hx (dq tX10_law 21 rfl) (by decide) rfl h_38 (fun c_45 => ?_) (fun c_45 => ?_)
        · have b_41 := b_41.resolve_left c_45
          obtain ⟨-, h_43, h_44⟩ := b_41
          refine g_aload_n (n := 44) hx 0 (dq tX10_law 24 rfl) rfl rfl ?_
          refine g_getR (n := 47) hx glX10_9 (sX10_1 (by decide)) (dq tX10_law 25 rfl) rfl ?_
          refine g_iconst (n := 48) hx (dq tX10_law 26 rfl) rfl ?_
          refine g_ialdX (n := 49) (q := 5) hx (aX10_1 (b := 229) (by decide)) (dq tX10_law 27 rfl) rfl (by decide) (by decide) (by decide) rfl (fun h_46l h_46u => ?_)
          have h_46l : 0 ≤ M (229 + 1) 5 := h_46l
          have h_46u : M (229 + 1) 5 ≤ 3 := h_46u
          refine g_istore_n (n := 50) (lv' := [(3, vI (M (229 + 1) 5)), (0, aR Γ 229), (1, vI w), (2, vI r)]) hx (dq tX10_law 28 rfl) (by decide) rfl rfl ?_
          refine g_aload_n (n := 51) hx 1 (dq tX10_law 29 rfl) rfl rfl ?_
          refine g_getR (n := 54) hx glX10_9 (sX10_1 (by decide)) (dq tX10_law 30 rfl) rfl ?_
          refine g_iconst (n := 55) hx (dq tX10_law 31 rfl) rfl ?_
          refine g_iload_n (n := 56) hx 2 (dq tX10_law 32 rfl) rfl rfl ?_
          refine g_iastX (n := 57) (q := 5) hx (aX10_1 (b := 229) (by decide)) (dq tX10_law 33 rfl) rfl (by decide) (by decide) (by decide) rfl (show 0 ≤ w by omega) (show w ≤ 3 by omega) (fun M_47 m_48e m_48 => ?_)
          have g_49 : Gm M_47 := Gm.frame gm (fun c j hcj => m_48 c j (by omega))
          have g_50 : On M_47 := On.frame on (fun c j hcj => m_48 c j (by omega))
          refine g_aload_n (n := 58) hx 1 (dq tX10_law 34 rfl) rfl rfl ?_
          refine g_getR (n := 61) hx glX10_9 (sX10_1 (by decide)) (dq tX10_law 35 rfl) rfl ?_
          refine g_bipush (n := 63) hx (dq tX10_law 36 rfl) rfl (by decide) ?_
          refine g_iload_n (n := 64) hx 2 (dq tX10_law 37 rfl) rfl rfl ?_
          refine g_iconst (n := 65) hx (dq tX10_law 38 rfl) rfl ?_
          refine g_icmp_ne (n := 68) (t := 72) hx (dq tX10_law 39 rfl) (by decide) rfl (zrI hwl hwu (by decide) (by decide)) ⟨by decide, by decide⟩ (fun c_51 => ?_) (fun c_51 => ?_)
          · omega
          · refine g_iload_n (n := 69) hx 3 (dq tX10_law 40 rfl) rfl rfl ?_
            refine g_goto (n := 73) hx (dq tX10_law 41 rfl) (by decide) ?_
            have e_52 : M_47 (229 + 1) 1 = M (229 + 1) 1 := (m_48 (229 + 1) 1 (by omega))
            have e_53 : M_47 (229 + 1) 3 = M (229 + 1) 3 := (m_48 (229 + 1) 3 (by omega))
            refine g_iastX (n := 74) (q := 6) hx (aX10_1 (b := 229) (by decide)) (dq tX10_law 43 rfl) rfl (by decide) (by decide) (by decide) rfl (show (-1) ≤ r by omega) (show r ≤ 5 by omega) (fun M_54 m_55e m_55 => ?_)
            have g_56 : Gm M_54 := Gm.frame g_49 (fun c j hcj => m_55 c j (by omega))
            have g_57 : On M_54 := On.frame g_50 (fun c j hcj => m_55 c j (by omega))
            have g_585 : M_54 (229 + 1) 5 = w := ((m_55 (229 + 1) 5 (by omega))).trans m_48e
            have g_586 := m_55e
            have g_58h := Rl.lawr rl
            have g_58 : Rl M_54 := Rl.set rl (by omega) (by omega) (by rw [(((m_55 (229 + 1) 15 (by omega)).trans (m_48 (229 + 1) 15 (by omega))))]; exact Rl.force rl) (fun v9 hv => by rw [(((m_55 (229 + 1) 1 (by omega)).trans (m_48 (229 + 1) 1 (by omega))))] at hv; rw [(((m_55 (229 + 6) v9 (by omega)).trans (m_48 (229 + 6) v9 (by omega))))]; exact Rl.bound rl v9 hv) (fun c j hcj => ((m_55 c j (by omega)).trans (m_48 c j (by omega))))
            refine g_iload_n (n := 75) hx 0 (dq tX10_law 44 rfl) rfl rfl ?_
            have e_59 : M_54 (229 + 1) 1 = M_47 (229 + 1) 1 := (m_55 (229 + 1) 1 (by omega))
            have e_60 : M_54 (229 + 1) 3 = M_47 (229 + 1) 3 := (m_55 (229 + 1) 3 (by omega))
            exact g_iret hx hr (dq tX10_law 45 rfl) (zrI h_46l h_46u (by decide) (by decide)) ⟨(fun u_ v_ huv_ => ((m_55 u_ v_ huv_.2).trans (m_48 u_ v_ huv_.1))), g_56, g_58, g_57⟩
        · clear b_41
          refine g_bipush (n := 42) hx (dq tX10_law 22 rfl) rfl (by decide) ?_
          exact g_iret hx hr (dq tX10_law 23 rfl) ⟨by decide, by decide⟩ ⟨(fun _ _ _ => rfl), gm, rl, on⟩
