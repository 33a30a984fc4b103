abbrev qctX10_rule3 (M : zM) (t9 : Nat → Int) (n9 : Nat) (z : Int) (M' : zM) : Prop := (∀ u_ v_, (u_ ≠ 229 ∨ v_ ≠ 38) ∧ (u_ ≠ 229 ∨ v_ ≠ 39) ∧ (u_ ≠ 229 ∨ v_ ≠ 42) ∧ (u_ ≠ 229 ∨ v_ ≠ 44) ∧ u_ ≠ 229 + 38 ∧ u_ ≠ 229 + 39 ∧ (u_ ≠ 229 ∨ v_ ≠ 43) ∧ (u_ ≠ 229 ∨ v_ ≠ 45) ∧ u_ ≠ 229 + 45 ∧ u_ ≠ 229 + 41 ∧ u_ ≠ 229 + 42 ∧ u_ ≠ 229 + 43 ∧ u_ ≠ 229 + 44 ∧ (u_ ≠ 229 ∨ v_ ≠ 37) ∧ (u_ ≠ 229 ∨ v_ ≠ 40) ∧ (u_ ≠ 229 ∨ v_ ≠ 41) ∧ u_ ≠ 229 + 40 → M' u_ v_ = M u_ v_) ∧ Gm M' ∧ Rl M' ∧ On M' ∧ (M 229 41 ≤ M' 229 41) ∧ (6 ≤ M 229 41 → (z = -1 ∧ M' 229 37 = M 229 37 ∧ M' 229 41 = M 229 41)) ∧ (M 229 41 < 6 → (M' 229 37 = 0 ∧ Ro (Rule9 t9 n9) (M 229 41) z (M' 229 41)))
set_option maxHeartbeats 4000000 in
set_option maxRecDepth 100000 in
theorem ctX10_rule3 (Γ : Gam) (M : zM) (t9 : Nat → Int) (n9 : Nat) (ex0 : Ty M t9 n9) (gm : Gm M) (rl : Rl M) (on : On M) : CtI Γ yX10_rule cX10_rule 3 (some .int) 12 263 [aR Γ 229] M (qctX10_rule3 M t9 n9) := by
  refine met_i (by decide) (Nat.le_of_ble_eq_true rfl) (fun x hx hr => ?_)
  show G Γ x 3 (QI Γ x (qctX10_rule3 M t9 n9)) M 0 [(0, aR Γ 229)] []
  refine g_iv (fun hI0 => ?_)
  have hI_37 : (0 : Int) ≤ M 229 37 ∧ M 229 37 ≤ 400 := hI0 229 37
  have hI_38 : (0 : Int) ≤ M 229 38 ∧ M 229 38 ≤ 402 := hI0 229 38
  have hI_45 : (0 : Int) ≤ M 229 45 ∧ M 229 45 ≤ 402 := hI0 229 45
  have hI_42 : (0 : Int) ≤ M 229 42 ∧ M 229 42 ≤ 300 := hI0 229 42
  have hI_39 : (0 : Int) ≤ M 229 39 ∧ M 229 39 ≤ 100000 := hI0 229 39
  have hI_40 : (0 : Int) ≤ M 229 40 ∧ M 229 40 ≤ 5 := hI0 229 40
  have hI_41 : (0 : Int) ≤ M 229 41 ∧ M 229 41 ≤ 6 := hI0 229 41
  clear hI0
  have hty_n := ex0.1
  refine g_aload_n (n := 1) hx 0 (dq tX10_rule 0 rfl) rfl rfl ?_
  refine g_getI (n := 4) hx glX10_405 (sX10_41 (by decide)) (dq tX10_rule 1 rfl) rfl (fun h_1l h_1u => ?_)
  refine g_bipush (n := 6) hx (dq tX10_rule 2 rfl) rfl (by decide) ?_
  refine g_icmp_ne (n := 9) (t := 11) hx (dq tX10_rule 3 rfl) (by decide) rfl (zrI h_1l h_1u (by decide) (by decide)) ⟨by decide, by decide⟩ (fun c_2 => ?_) (fun c_2 => ?_)
  · refine g_aload_n (n := 12) hx 0 (dq tX10_rule 6 rfl) rfl rfl ?_
    refine g_aload_n (n := 13) hx 0 (dq tX10_rule 7 rfl) rfl rfl ?_
    refine g_getI (n := 16) hx glX10_405 (sX10_41 (by decide)) (dq tX10_rule 8 rfl) rfl (fun h_3l h_3u => ?_)
    refine g_putI (n := 19) hx plX10_275 (sX10_40 (by decide)) (dq tX10_rule 9 rfl) rfl (by omega) (by omega) (fun M_4 m_5e m_5 => ?_)
    have g_6 : Gm M_4 := Gm.frame gm (fun c j hcj => m_5 c j (by omega))
    have g_8 : Rl M_4 := Rl.frame rl (fun c j hcj => m_5 c j (by omega))
    have g_9 : On M_4 := On.frame on (fun c j hcj => m_5 c j (by omega))
    have g_10 : Ty M_4 t9 n9 := Ty.frame ex0 (fun c j hcj => m_5 c j (by omega))
    refine g_aload_n (n := 20) hx 0 (dq tX10_rule 10 rfl) rfl rfl ?_
    have e_11 : M_4 229 37 = M 229 37 := (m_5 229 37 (by omega))
    have e_12 : M_4 229 38 = M 229 38 := (m_5 229 38 (by omega))
    have e_13 : M_4 229 39 = M 229 39 := (m_5 229 39 (by omega))
    have e_14 : M_4 229 44 = M 229 44 := (m_5 229 44 (by omega))
    have e_15 : M_4 229 41 = M 229 41 := (m_5 229 41 (by omega))
    have e_16 : M_4 229 42 = M 229 42 := (m_5 229 42 (by omega))
    have e_17 : M_4 229 43 = M 229 43 := (m_5 229 43 (by omega))
    refine g_callVv (n := 23) (As := []) (rest := []) hx (ctX10_starts3 Γ M_4 ) mlX10_372 (obX10 (by decide)) (dq tX10_rule 11 rfl) rfl (Nat.le_of_ble_eq_true rfl) (Nat.le_of_ble_eq_true rfl) (Nat.le_of_ble_eq_true rfl) rfl (fun M_19 p_21 => ?_)
    obtain ⟨f_22, h_23, h_24, h_25, h_26, h_27⟩ := p_21
    have g_28 : Gm M_19 := Gm.frame g_6 (fun c j hcj => f_22 c j (by omega))
    have g_30 : Rl M_19 := Rl.frame g_8 (fun c j hcj => f_22 c j (by omega))
    have g_31 : On M_19 := On.frame g_9 (fun c j hcj => f_22 c j (by omega))
    have g_32 : Ty M_19 t9 n9 := Ty.frame g_10 (fun c j hcj => f_22 c j (by omega))
    refine g_iconst (n := 24) hx (dq tX10_rule 12 rfl) rfl ?_
    refine g_istore_n (n := 25) (lv' := [(1, vI 0), (0, aR Γ 229)]) hx (dq tX10_rule 13 rfl) (by decide) rfl rfl ?_
    refine g_iconst (n := 26) hx (dq tX10_rule 14 rfl) rfl ?_
    refine g_istore_n (n := 27) (lv' := [(2, vI 1), (1, vI 0), (0, aR Γ 229)]) hx (dq tX10_rule 15 rfl) (by decide) rfl rfl ?_
    have L_36 : ∀ (n_ : Nat) (i_33 : Int) (i_34 : Int) (M_35 : zM), (0 ≤ i_33) → (i_33 ≤ 1) → (0 ≤ i_34) → (i_34 ≤ 13) → (∀ u_ v_, (u_ ≠ 229 ∨ v_ ≠ 38) ∧ (u_ ≠ 229 ∨ v_ ≠ 39) ∧ (u_ ≠ 229 ∨ v_ ≠ 42) ∧ (u_ ≠ 229 ∨ v_ ≠ 44) ∧ u_ ≠ 229 + 38 ∧ u_ ≠ 229 + 39 ∧ (u_ ≠ 229 ∨ v_ ≠ 43) ∧ (u_ ≠ 229 ∨ v_ ≠ 45) ∧ u_ ≠ 229 + 45 ∧ u_ ≠ 229 + 41 ∧ u_ ≠ 229 + 42 ∧ u_ ≠ 229 + 43 ∧ u_ ≠ 229 + 44 → M_35 u_ v_ = M_19 u_ v_) → (Gm M_35) → (Rl M_35) → (On M_35) → (Ty M_35 t9 n9) → (Cs M_35 i_34) → (i_33 = 1 → Rd M_35 (M_35 229 42) 0 0 0) → (i_33 = 1 → (M_35 229 39 = 0 ∧ M_35 229 38 ≤ M_35 229 37)) → (M_35 229 39 = 0 → i_34 ≤ 12) → (M_35 229 38 ≤ 402) → (M_35 229 40 = M_35 229 41) → (i_33 = 1 → i_34 ≤ 12) → (i_33 = 1 → bd (ovN t9 n9 (M_35 229 38).toNat (M_35 229 39) (M_35 229 44)) (Rl9 t9 n9 (13 - i_34).toNat i_34) = Rule9 t9 n9) → (i_33 = 0 → Fo (M_35 229 39) (Rule9 t9 n9)) → (i_33 = 1 → (0 ≤ M_35 229 44 ∧ M_35 229 43 = 0)) → ((403 - M_35 229 38).toNat = n_) → G Γ x 3 (QI Γ x (qctX10_rule3 M t9 n9)) M_35 27 [(2, vI i_33), (1, vI i_34), (0, aR Γ 229)] [] := by
      intro n_
      induction n_ using Nat.strongRecOn with
      | _ n_ ih_37 =>
        intro i_33 i_34 M_35 h_54 h_55 h_56 h_57 f_38 g_39 g_40 g_41 g_42 h_44 h_45 h_46 h_47 h_48 h_49 h_50 h_51 h_52 h_53 hm_43
        refine g_iload_n (n := 28) hx 0 (dq tX10_rule 16 rfl) rfl rfl ?_
        refine g_if_eq (n := 31) (t := 47) hx (dq tX10_rule 17 rfl) (by decide) rfl ⟨by omega, by omega⟩ (fun c_58 => ?_) (fun c_58 => ?_)
        · refine g_aload_n (n := 48) hx 2 (dq tX10_rule 26 rfl) rfl rfl ?_
          refine g_iconst (n := 49) hx (dq tX10_rule 27 rfl) rfl ?_
          have e_59 : M_35 229 37 = M_4 229 37 := ((f_38 229 37 (by omega))).trans (f_22 229 37 (by omega))
          have e_60 : M_35 229 40 = M_4 229 40 := ((f_38 229 40 (by omega))).trans (f_22 229 40 (by omega))
          have e_61 : M_35 229 41 = M_4 229 41 := ((f_38 229 41 (by omega))).trans (f_22 229 41 (by omega))
          refine g_putI (n := 52) hx plX10_216 (sX10_37 (by decide)) (dq tX10_rule 28 rfl) rfl (by omega) (by omega) (fun M_62 m_63e m_63 => ?_)
          have g_64 : Gm M_62 := Gm.frame g_39 (fun c j hcj => m_63 c j (by omega))
          have g_66 : Rl M_62 := Rl.frame g_40 (fun c j hcj => m_63 c j (by omega))
          have g_67 : On M_62 := On.frame g_41 (fun c j hcj => m_63 c j (by omega))
          have g_68 : Cs M_62 i_34 := Cs.mv h_44 (by have q39 := m_63 229 39 (by omega); omega) (fun c j hcj => m_63 c j (by omega))
          refine g_aload_n (n := 53) hx 2 (dq tX10_rule 29 rfl) rfl rfl ?_
          refine g_getR (n := 56) hx glX10_132 (sX10_51 (by decide)) (dq tX10_rule 30 rfl) rfl ?_
          refine g_aload_n (n := 57) hx 2 (dq tX10_rule 31 rfl) rfl rfl ?_
          refine g_getI (n := 60) hx glX10_275 (sX10_40 (by decide)) (dq tX10_rule 32 rfl) rfl (fun h_69l h_69u => ?_)
          have e_70 : M_62 229 40 = M_35 229 40 := (m_63 229 40 (by omega))
          refine g_iload_n (n := 61) hx 1 (dq tX10_rule 33 rfl) rfl rfl ?_
          have e_71 : M_62 229 38 = M_35 229 38 := (m_63 229 38 (by omega))
          have e_72 : M_62 229 39 = M_35 229 39 := (m_63 229 39 (by omega))
          have e_73 : M_62 229 44 = M_35 229 44 := (m_63 229 44 (by omega))
          have e_74 : M_62 229 41 = M_35 229 41 := (m_63 229 41 (by omega))
          have e_75 : M_62 229 42 = M_35 229 42 := (m_63 229 42 (by omega))
          have e_76 : M_62 229 43 = M_35 229 43 := (m_63 229 43 (by omega))
          refine g_iast (n := 62) (q := (M_62 229 40).toNat) hx (aX10_51 (b := 229) (by decide)) (dq tX10_rule 34 rfl) rfl (by omega) (by omega) (by omega) rfl (by omega) (by omega) (fun M_77 m_78e m_78 => ?_)
          have g_79 : Gm M_77 := Gm.frame g_64 (fun c j hcj => m_78 c j (by omega))
          have g_80 : Rl M_77 := Rl.cls g_66 (by omega) m_78
          have g_81 : On M_77 := On.frame g_67 (fun c j hcj => m_78 c j (by omega))
          have g_82 : Cs M_77 i_34 := Cs.mv g_68 (by have q39 := m_78 229 39 (by omega); omega) (fun c j hcj => m_78 c j (by omega))
          refine g_aload_n (n := 63) hx 2 (dq tX10_rule 35 rfl) rfl rfl ?_
          refine g_dup (n := 64) hx (dq tX10_rule 36 rfl) rfl rfl ?_
          refine g_getI (n := 67) hx glX10_405 (sX10_41 (by decide)) (dq tX10_rule 37 rfl) rfl (fun h_83l h_83u => ?_)
          have e_84 : M_77 229 41 = M_62 229 41 := (m_78 229 41 (by omega))
          refine g_aload_n (n := 68) hx 2 (dq tX10_rule 38 rfl) rfl rfl ?_
          refine g_getI (n := 71) hx glX10_246 (sX10_39 (by decide)) (dq tX10_rule 39 rfl) rfl (fun h_85l h_85u => ?_)
          have e_86 : M_77 229 39 = M_62 229 39 := (m_78 229 39 (by omega))
          refine g_if_ne (n := 74) (t := 78) hx (dq tX10_rule 40 rfl) (by decide) rfl (zrI h_85l h_85u (by decide) (by decide)) (fun c_87 => ?_) (fun c_87 => ?_)
          · refine g_iconst (n := 79) hx (dq tX10_rule 43 rfl) rfl ?_
            refine g_iadd (n := 80) hx (dq tX10_rule 44 rfl) rfl ?_
            have e_88 : M_77 229 37 = M_62 229 37 := (m_78 229 37 (by omega))
            have e_89 : M_77 229 38 = M_62 229 38 := (m_78 229 38 (by omega))
            have e_90 : M_77 229 44 = M_62 229 44 := (m_78 229 44 (by omega))
            have e_91 : M_77 229 40 = M_62 229 40 := (m_78 229 40 (by omega))
            have e_92 : M_77 229 42 = M_62 229 42 := (m_78 229 42 (by omega))
            have e_93 : M_77 229 43 = M_62 229 43 := (m_78 229 43 (by omega))
            refine g_putI (n := 83) hx plX10_405 (sX10_41 (by decide)) (dq tX10_rule 45 rfl) rfl (by omega) (by omega) (fun M_94 m_95e m_95 => ?_)
            have g_96 : Gm M_94 := Gm.frame g_79 (fun c j hcj => m_95 c j (by omega))
            have g_97 : Rl M_94 := Rl.add g_80 g_82 (by omega) (by have w0 : (M_62 229 40).toNat = (M_77 229 41).toNat := (by omega); rw [← w0]; exact (rfl).trans m_78e) m_95e (by omega) m_95
            have g_98 : On M_94 := On.frame g_81 (fun c j hcj => m_95 c j (by omega))
            have g_99 : Cs M_94 i_34 := Cs.mv g_82 (by have q39 := m_95 229 39 (by omega); omega) (fun c j hcj => m_95 c j (by omega))
            refine g_aload_n (n := 84) hx 2 (dq tX10_rule 46 rfl) rfl rfl ?_
            refine g_getI (n := 87) hx glX10_246 (sX10_39 (by decide)) (dq tX10_rule 47 rfl) rfl (fun h_100l h_100u => ?_)
            have e_101 : M_94 229 39 = M_77 229 39 := (m_95 229 39 (by omega))
            refine g_if_le (n := 90) (t := 100) hx (dq tX10_rule 48 rfl) (by decide) rfl (zrI h_100l h_100u (by decide) (by decide)) (fun c_102 => ?_) (fun c_102 => ?_)
            · refine g_aload_n (n := 101) hx 2 (dq tX10_rule 54 rfl) rfl rfl ?_
              refine g_getI (n := 104) hx glX10_405 (sX10_41 (by decide)) (dq tX10_rule 55 rfl) rfl (fun h_103l h_103u => ?_)
              refine g_iconst (n := 105) hx (dq tX10_rule 56 rfl) rfl ?_
              refine g_isub (n := 106) hx (dq tX10_rule 57 rfl) rfl ?_
              have e_104 : M_94 229 37 = M_77 229 37 := (m_95 229 37 (by omega))
              have e_105 : M_94 229 38 = M_77 229 38 := (m_95 229 38 (by omega))
              have e_106 : M_94 229 44 = M_77 229 44 := (m_95 229 44 (by omega))
              have e_107 : M_94 229 40 = M_77 229 40 := (m_95 229 40 (by omega))
              have e_108 : M_94 229 42 = M_77 229 42 := (m_95 229 42 (by omega))
              have e_109 : M_94 229 43 = M_77 229 43 := (m_95 229 43 (by omega))
              exact g_iret hx hr (dq tX10_rule 58 rfl) ⟨by omega, by omega⟩ ⟨(fun u_ v_ huv_ => ((((((m_95 u_ v_ huv_.2.2.2.2.2.2.2.2.2.2.2.2.2.2.2.1).trans (m_78 u_ v_ (by omega))).trans (m_63 u_ v_ huv_.2.2.2.2.2.2.2.2.2.2.2.2.2.1)).trans (f_38 u_ v_ ⟨huv_.1, huv_.2.1, huv_.2.2.1, huv_.2.2.2.1, huv_.2.2.2.2.1, huv_.2.2.2.2.2.1, huv_.2.2.2.2.2.2.1, huv_.2.2.2.2.2.2.2.1, huv_.2.2.2.2.2.2.2.2.1, huv_.2.2.2.2.2.2.2.2.2.1, huv_.2.2.2.2.2.2.2.2.2.2.1, huv_.2.2.2.2.2.2.2.2.2.2.2.1, huv_.2.2.2.2.2.2.2.2.2.2.2.2.1⟩)).trans (f_22 u_ v_ ⟨huv_.1, huv_.2.1, huv_.2.2.1, huv_.2.2.2.2.2.2.1, huv_.2.2.2.1⟩)).trans (m_5 u_ v_ huv_.2.2.2.2.2.2.2.2.2.2.2.2.2.2.1))), g_96, g_97, g_98, (by omega), (fun h6 => absurd h6 (by omega)), (fun h6 => ⟨by omega, Fo.ro (h_52 (by omega)) (by omega) (fun hf => ⟨by omega, by omega⟩) (fun hf => ⟨by omega, by omega⟩)⟩)⟩
            · refine g_bipush (n := 92) hx (dq tX10_rule 49 rfl) rfl (by decide) ?_
              refine g_aload_n (n := 93) hx 2 (dq tX10_rule 50 rfl) rfl rfl ?_
              refine g_getI (n := 96) hx glX10_246 (sX10_39 (by decide)) (dq tX10_rule 51 rfl) rfl (fun h_110l h_110u => ?_)
              refine g_isub (n := 97) hx (dq tX10_rule 52 rfl) rfl ?_
              refine g_goto (n := 106) hx (dq tX10_rule 53 rfl) (by decide) ?_
              have e_111 : M_94 229 37 = M_77 229 37 := (m_95 229 37 (by omega))
              have e_112 : M_94 229 38 = M_77 229 38 := (m_95 229 38 (by omega))
              have e_113 : M_94 229 44 = M_77 229 44 := (m_95 229 44 (by omega))
              have e_114 : M_94 229 40 = M_77 229 40 := (m_95 229 40 (by omega))
              have e_115 : M_94 229 42 = M_77 229 42 := (m_95 229 42 (by omega))
              have e_116 : M_94 229 43 = M_77 229 43 := (m_95 229 43 (by omega))
              exact g_iret hx hr (dq tX10_rule 58 rfl) ⟨by omega, by omega⟩ ⟨(fun u_ v_ huv_ => ((((((m_95 u_ v_ huv_.2.2.2.2.2.2.2.2.2.2.2.2.2.2.2.1).trans (m_78 u_ v_ (by omega))).trans (m_63 u_ v_ huv_.2.2.2.2.2.2.2.2.2.2.2.2.2.1)).trans (f_38 u_ v_ ⟨huv_.1, huv_.2.1, huv_.2.2.1, huv_.2.2.2.1, huv_.2.2.2.2.1, huv_.2.2.2.2.2.1, huv_.2.2.2.2.2.2.1, huv_.2.2.2.2.2.2.2.1, huv_.2.2.2.2.2.2.2.2.1, huv_.2.2.2.2.2.2.2.2.2.1, huv_.2.2.2.2.2.2.2.2.2.2.1, huv_.2.2.2.2.2.2.2.2.2.2.2.1, huv_.2.2.2.2.2.2.2.2.2.2.2.2.1⟩)).trans (f_22 u_ v_ ⟨huv_.1, huv_.2.1, huv_.2.2.1, huv_.2.2.2.2.2.2.1, huv_.2.2.2.1⟩)).trans (m_5 u_ v_ huv_.2.2.2.2.2.2.2.2.2.2.2.2.2.2.1))), g_96, g_97, g_98, (by omega), (fun h6 => absurd h6 (by omega)), (fun h6 => ⟨by omega, Fo.ro (h_52 (by omega)) (by omega) (fun hf => ⟨by omega, by omega⟩) (fun hf => ⟨by omega, by omega⟩)⟩)⟩
          · refine g_iconst (n := 75) hx (dq tX10_rule 41 rfl) rfl ?_
            refine g_goto (n := 79) hx (dq tX10_rule 42 rfl) (by decide) ?_
            refine g_iadd (n := 80) hx (dq tX10_rule 44 rfl) rfl ?_
            have e_117 : M_77 229 37 = M_62 229 37 := (m_78 229 37 (by omega))
            have e_118 : M_77 229 38 = M_62 229 38 := (m_78 229 38 (by omega))
            have e_119 : M_77 229 44 = M_62 229 44 := (m_78 229 44 (by omega))
            have e_120 : M_77 229 40 = M_62 229 40 := (m_78 229 40 (by omega))
            have e_121 : M_77 229 42 = M_62 229 42 := (m_78 229 42 (by omega))
            have e_122 : M_77 229 43 = M_62 229 43 := (m_78 229 43 (by omega))
            refine g_putI (n := 83) hx plX10_405 (sX10_41 (by decide)) (dq tX10_rule 45 rfl) rfl (by omega) (by omega) (fun M_123 m_124e m_124 => ?_)
            have g_125 : Gm M_123 := Gm.frame g_79 (fun c j hcj => m_124 c j (by omega))
            have g_126 : Rl M_123 := Rl.add g_80 g_82 (by omega) (by have w0 : (M_62 229 40).toNat = (M_77 229 41).toNat := (by omega); rw [← w0]; exact (rfl).trans m_78e) m_124e (by omega) m_124
            have g_127 : On M_123 := On.frame g_81 (fun c j hcj => m_124 c j (by omega))
            have g_128 : Cs M_123 i_34 := Cs.mv g_82 (by have q39 := m_124 229 39 (by omega); omega) (fun c j hcj => m_124 c j (by omega))
            refine g_aload_n (n := 84) hx 2 (dq tX10_rule 46 rfl) rfl rfl ?_
            refine g_getI (n := 87) hx glX10_246 (sX10_39 (by decide)) (dq tX10_rule 47 rfl) rfl (fun h_129l h_129u => ?_)
            have e_130 : M_123 229 39 = M_77 229 39 := (m_124 229 39 (by omega))
            refine g_if_le (n := 90) (t := 100) hx (dq tX10_rule 48 rfl) (by decide) rfl (zrI h_129l h_129u (by decide) (by decide)) (fun c_131 => ?_) (fun c_131 => ?_)
            · refine g_aload_n (n := 101) hx 2 (dq tX10_rule 54 rfl) rfl rfl ?_
              refine g_getI (n := 104) hx glX10_405 (sX10_41 (by decide)) (dq tX10_rule 55 rfl) rfl (fun h_132l h_132u => ?_)
              refine g_iconst (n := 105) hx (dq tX10_rule 56 rfl) rfl ?_
              refine g_isub (n := 106) hx (dq tX10_rule 57 rfl) rfl ?_
              have e_133 : M_123 229 37 = M_77 229 37 := (m_124 229 37 (by omega))
              have e_134 : M_123 229 38 = M_77 229 38 := (m_124 229 38 (by omega))
              have e_135 : M_123 229 44 = M_77 229 44 := (m_124 229 44 (by omega))
              have e_136 : M_123 229 40 = M_77 229 40 := (m_124 229 40 (by omega))
              have e_137 : M_123 229 42 = M_77 229 42 := (m_124 229 42 (by omega))
              have e_138 : M_123 229 43 = M_77 229 43 := (m_124 229 43 (by omega))
              exact g_iret hx hr (dq tX10_rule 58 rfl) ⟨by omega, by omega⟩ ⟨(fun u_ v_ huv_ => ((((((m_124 u_ v_ huv_.2.2.2.2.2.2.2.2.2.2.2.2.2.2.2.1).trans (m_78 u_ v_ (by omega))).trans (m_63 u_ v_ huv_.2.2.2.2.2.2.2.2.2.2.2.2.2.1)).trans (f_38 u_ v_ ⟨huv_.1, huv_.2.1, huv_.2.2.1, huv_.2.2.2.1, huv_.2.2.2.2.1, huv_.2.2.2.2.2.1, huv_.2.2.2.2.2.2.1, huv_.2.2.2.2.2.2.2.1, huv_.2.2.2.2.2.2.2.2.1, huv_.2.2.2.2.2.2.2.2.2.1, huv_.2.2.2.2.2.2.2.2.2.2.1, huv_.2.2.2.2.2.2.2.2.2.2.2.1, huv_.2.2.2.2.2.2.2.2.2.2.2.2.1⟩)).trans (f_22 u_ v_ ⟨huv_.1, huv_.2.1, huv_.2.2.1, huv_.2.2.2.2.2.2.1, huv_.2.2.2.1⟩)).trans (m_5 u_ v_ huv_.2.2.2.2.2.2.2.2.2.2.2.2.2.2.1))), g_125, g_126, g_127, (by omega), (fun h6 => absurd h6 (by omega)), (fun h6 => ⟨by omega, Fo.ro (h_52 (by omega)) (by omega) (fun hf => ⟨by omega, by omega⟩) (fun hf => ⟨by omega, by omega⟩)⟩)⟩
            · refine g_bipush (n := 92) hx (dq tX10_rule 49 rfl) rfl (by decide) ?_
              refine g_aload_n (n := 93) hx 2 (dq tX10_rule 50 rfl) rfl rfl ?_
              refine g_getI (n := 96) hx glX10_246 (sX10_39 (by decide)) (dq tX10_rule 51 rfl) rfl (fun h_139l h_139u => ?_)
              refine g_isub (n := 97) hx (dq tX10_rule 52 rfl) rfl ?_
              refine g_goto (n := 106) hx (dq tX10_rule 53 rfl) (by decide) ?_
              have e_140 : M_123 229 37 = M_77 229 37 := (m_124 229 37 (by omega))
              have e_141 : M_123 229 38 = M_77 229 38 := (m_124 229 38 (by omega))
              have e_142 : M_123 229 44 = M_77 229 44 := (m_124 229 44 (by omega))
              have e_143 : M_123 229 40 = M_77 229 40 := (m_124 229 40 (by omega))
              have e_144 : M_123 229 42 = M_77 229 42 := (m_124 229 42 (by omega))
              have e_145 : M_123 229 43 = M_77 229 43 := (m_124 229 43 (by omega))
              exact g_iret hx hr (dq tX10_rule 58 rfl) ⟨by omega, by omega⟩ ⟨(fun u_ v_ huv_ => ((((((m_124 u_ v_ huv_.2.2.2.2.2.2.2.2.2.2.2.2.2.2.2.1).trans (m_78 u_ v_ (by omega))).trans (m_63 u_ v_ huv_.2.2.2.2.2.2.2.2.2.2.2.2.2.1)).trans (f_38 u_ v_ ⟨huv_.1, huv_.2.1, huv_.2.2.1, huv_.2.2.2.1, huv_.2.2.2.2.1, huv_.2.2.2.2.2.1, huv_.2.2.2.2.2.2.1, huv_.2.2.2.2.2.2.2.1, huv_.2.2.2.2.2.2.2.2.1, huv_.2.2.2.2.2.2.2.2.2.1, huv_.2.2.2.2.2.2.2.2.2.2.1, huv_.2.2.2.2.2.2.2.2.2.2.2.1, huv_.2.2.2.2.2.2.2.2.2.2.2.2.1⟩)).trans (f_22 u_ v_ ⟨huv_.1, huv_.2.1, huv_.2.2.1, huv_.2.2.2.2.2.2.1, huv_.2.2.2.1⟩)).trans (m_5 u_ v_ huv_.2.2.2.2.2.2.2.2.2.2.2.2.2.2.1))), g_125, g_126, g_127, (by omega), (fun h6 => absurd h6 (by omega)), (fun h6 => ⟨by omega, Fo.ro (h_52 (by omega)) (by omega) (fun hf => ⟨by omega, by omega⟩) (fun hf => ⟨by omega, by omega⟩)⟩)⟩
        · refine g_iv (fun hI_146 => ?_)
          have e_147 : M_35 229 37 = M_4 229 37 := ((f_38 229 37 (by omega))).trans (f_22 229 37 (by omega))
          have e_148 : M_35 229 40 = M_4 229 40 := ((f_38 229 40 (by omega))).trans (f_22 229 40 (by omega))
          have e_149 : M_35 229 41 = M_4 229 41 := ((f_38 229 41 (by omega))).trans (f_22 229 41 (by omega))
          have hp0 : (0 : Int) ≤ M_35 229 38 ∧ M_35 229 38 ≤ 402 := hI_146 229 38
          refine g_aload_n (n := 32) hx 2 (dq tX10_rule 18 rfl) rfl rfl ?_
          refine g_iload_n (n := 33) hx 1 (dq tX10_rule 19 rfl) rfl rfl ?_
          refine g_callVv (n := 36) (As := [vI i_34]) (rest := []) hx (ctX10_ruleClause3 Γ M_35 i_34 (by omega) (by omega) t9 n9 ((M_35 229 38).toNat) (by omega) (by omega) (by omega) (by omega) (h_45 (by omega)) g_42) mlX10_408 (obX10 (by decide)) (dq tX10_rule 20 rfl) rfl (Nat.le_of_ble_eq_true rfl) (Nat.le_of_ble_eq_true rfl) (Nat.le_of_ble_eq_true rfl) rfl (fun M_151 p_153 => ?_)
          obtain ⟨f_154, h_155, h_156, h_157, h_158, h_159, h_160, h_161, h_162⟩ := p_153
          have g_163 : Gm M_151 := Gm.frame g_39 (fun c j hcj => f_154 c j (by omega))
          have g_164 : Rl M_151 := Rl.read hI_146 g_40 (by omega) h_156 h_160 (fun c j hcj => f_154 c j (by omega))
          have g_165 : On M_151 := On.frame g_41 (fun c j hcj => f_154 c j (by omega))
          have g_166 : Ty M_151 t9 n9 := Ty.frame g_42 (fun c j hcj => f_154 c j (by omega))
          refine g_iinc (n := 39) (lv' := [(1, vI (i_34 + 1)), (2, vI i_33), (0, aR Γ 229)]) hx 1 (dq tX10_rule 21 rfl) rfl (by decide) rfl rfl ?_
          refine g_aload_n (n := 40) hx 2 (dq tX10_rule 22 rfl) rfl rfl ?_
          have e_167 : M_151 229 37 = M_35 229 37 := (f_154 229 37 (by omega))
          have e_168 : M_151 229 40 = M_35 229 40 := (f_154 229 40 (by omega))
          have e_169 : M_151 229 41 = M_35 229 41 := (f_154 229 41 (by omega))
          refine g_callVi (n := 43) (As := []) (rest := []) hx (ctX10_goesOn3 Γ M_151 t9 n9 ((M_151 229 38).toNat) (by omega) (by omega) g_166) mlX10_378 (obX10 (by decide)) (dq tX10_rule 23 rfl) rfl (Nat.le_of_ble_eq_true rfl) (Nat.le_of_ble_eq_true rfl) (Nat.le_of_ble_eq_true rfl) rfl (fun z_170 M_171 h_172 p_173 => ?_)
          obtain ⟨f_174, h_175, h_176, h_177, h_178, h_179, h_180⟩ := p_173
          have g_181 : Gm M_171 := Gm.frame g_163 (fun c j hcj => f_174 c j (by omega))
          have g_183 : Rl M_171 := Rl.frame g_164 (fun c j hcj => f_174 c j (by omega))
          have g_184 : On M_171 := On.frame g_165 (fun c j hcj => f_174 c j (by omega))
          have g_185 : Ty M_171 t9 n9 := Ty.frame g_166 (fun c j hcj => f_174 c j (by omega))
          refine g_istore_n (n := 44) (lv' := [(2, vI z_170), (1, vI (i_34 + 1)), (0, aR Γ 229)]) hx (dq tX10_rule 24 rfl) (by decide) rfl rfl ?_
          refine g_goto (n := 27) hx (dq tX10_rule 25 rfl) (by decide) ?_
          have e_186 : M_171 229 37 = M_151 229 37 := (f_174 229 37 (by omega))
          have e_187 : M_171 229 44 = M_151 229 44 := (f_174 229 44 (by omega))
          have e_188 : M_171 229 40 = M_151 229 40 := (f_174 229 40 (by omega))
          have e_189 : M_171 229 41 = M_151 229 41 := (f_174 229 41 (by omega))
          have e_190 : M_171 229 42 = M_151 229 42 := (f_174 229 42 (by omega))
          have e_191 : M_171 229 43 = M_151 229 43 := (f_174 229 43 (by omega))
          exact ih_37 _ (by omega) z_170 (i_34 + 1) M_171 (by omega) (by omega) (by omega) (by omega) (fun u_ v_ huv_ => (((f_174 u_ v_ ⟨huv_.1, huv_.2.1⟩).trans (f_154 u_ v_ ⟨huv_.1, huv_.2.1, huv_.2.2.1, huv_.2.2.2.1, huv_.2.2.2.2.1, huv_.2.2.2.2.2.1, huv_.2.2.2.2.2.2.1, huv_.2.2.2.2.2.2.2.1, huv_.2.2.2.2.2.2.2.2.1, huv_.2.2.2.2.2.2.2.2.2.1, huv_.2.2.2.2.2.2.2.2.2.2.1, huv_.2.2.2.2.2.2.2.2.2.2.2.1, huv_.2.2.2.2.2.2.2.2.2.2.2.2⟩)).trans (f_38 u_ v_ ⟨huv_.1, huv_.2.1, huv_.2.2.1, huv_.2.2.2.1, huv_.2.2.2.2.1, huv_.2.2.2.2.2.1, huv_.2.2.2.2.2.2.1, huv_.2.2.2.2.2.2.2.1, huv_.2.2.2.2.2.2.2.2.1, huv_.2.2.2.2.2.2.2.2.2.1, huv_.2.2.2.2.2.2.2.2.2.2.1, huv_.2.2.2.2.2.2.2.2.2.2.2.1, huv_.2.2.2.2.2.2.2.2.2.2.2.2⟩))) g_181 g_183 g_184 g_185 (Cs.mv (Cs.go (m := i_34.toNat) h_44 (by omega) (by omega) (by omega) rfl rfl h_156 h_160 (fun q => (h_159 q).2)) (by omega) (fun c j hcj => (f_174 c j (by omega)))) (fun hz9 => Rd.new (Rd.mv h_155 (fun c j hcj => (f_174 c j (by omega))) (by omega)) (by omega)) (by omega) (by omega) (by omega) (by omega) (by omega) (fun hz => by rw [show (13 - (i_34 + 1)).toNat = (13 - i_34).toNat - 1 by omega]; exact go_on (h_51 (by omega)) h_161 (by omega) (by omega) (a := sk t9 n9 (M_151 229 38).toNat) rfl (by omega) (by omega) (by omega) (by omega) rfl) (fun hz => go_end (h_51 (by omega)) h_161 (by omega) (a := sk t9 n9 (M_151 229 38).toNat) rfl (by omega)) (by omega) rfl
    have e_192 : M_19 229 37 = M_4 229 37 := (f_22 229 37 (by omega))
    have e_193 : M_19 229 40 = M_4 229 40 := (f_22 229 40 (by omega))
    have e_194 : M_19 229 41 = M_4 229 41 := (f_22 229 41 (by omega))
    exact L_36 _ 1 0 M_19 (by omega) (by omega) (by omega) (by omega) (fun _ _ _ => rfl) g_28 g_30 g_31 g_32 Cs.nil (fun _ q => ⟨by omega, by omega, by omega, Int.le_refl _, Int.le_refl _, by omega, Rn.nil⟩) (by omega) (by omega) (by omega) (by omega) (by omega) (fun _ => by rw [ov_ok (by omega), show (M_19 229 38).toNat = 0 by omega, show M_19 229 44 = 0 by omega]; rfl) (fun hz => absurd hz (by omega)) (by omega) rfl
  · refine g_iconst (n := 10) hx (dq tX10_rule 4 rfl) rfl ?_
    exact g_iret hx hr (dq tX10_rule 5 rfl) ⟨by decide, by decide⟩ ⟨(fun _ _ _ => rfl), gm, rl, on, (by omega), (fun _ => ⟨by omega, rfl, rfl⟩), (fun h6 => absurd h6 (by omega))⟩
