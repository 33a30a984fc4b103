abbrev qctX3_reads2 (M : zM) (t9 : Nat → Int) (n9 : Nat) (z : Int) (M' : zM) : Prop := (∀ u_ v_, (u_ ≠ 7 ∨ v_ ≠ 2) ∧ (u_ ≠ 7 ∨ v_ ≠ 3) ∧ (u_ ≠ 7 ∨ v_ ≠ 4) ∧ (u_ ≠ 7 ∨ v_ ≠ 5) ∧ (u_ < 10 ∨ 10 + 8 ≤ u_) ∧ (u_ ≠ 9 ∨ v_ ≠ 2) → M' u_ v_ = M u_ v_) ∧ 0 ≤ z ∧ z ≤ 1 ∧ (z = 1 → M' 7 5 = 0) ∧ (z = 1 → RvOk M' 10) ∧ (Rzr M' z (River9 t9 n9))
set_option maxHeartbeats 4000000 in
set_option maxRecDepth 100000 in
theorem ctX3_reads2 (Γ : Gam) (M : zM) (t9 : Nat → Int) (n9 : Nat) (ex0 : Tx M t9 n9) : CtI Γ yX3_reads cX3_reads 3 (some .boolean) 5 110 [aR Γ 9] M (qctX3_reads2 M t9 n9) := by
  refine met_i (by decide) (Nat.le_of_ble_eq_true rfl) (fun x hx hr => ?_)
  show G Γ x 3 (QI Γ x (qctX3_reads2 M t9 n9)) M 0 [(0, aR Γ 9)] []
  refine g_aload_n (n := 1) hx 0 (dq tX3_reads 0 rfl) rfl rfl ?_
  refine g_getR (n := 4) hx glX3_12 (sX3_0 (by decide)) (dq tX3_reads 1 rfl) rfl ?_
  refine g_callVv (n := 7) (As := []) (rest := []) hx (ctX2_clear Γ M 10 (by decide)) mlX3_22 (obX2 (by decide)) (dq tX3_reads 2 rfl) rfl (Nat.le_of_ble_eq_true rfl) (Nat.le_of_ble_eq_true rfl) (Nat.le_of_ble_eq_true rfl) rfl (fun M_2 p_4 => ?_)
  obtain ⟨f_5, h_6, h_7, h_8, h_9⟩ := p_4
  refine g_aload_n (n := 8) hx 0 (dq tX3_reads 3 rfl) rfl rfl ?_
  refine g_iconst (n := 9) hx (dq tX3_reads 4 rfl) rfl ?_
  have e_10 : M_2 9 2 = M 9 2 := (f_5 9 2 (by omega))
  have e_11 : M_2 7 5 = M 7 5 := (f_5 7 5 (by omega))
  have e_12 : M_2 7 1 = M 7 1 := (f_5 7 1 (by omega))
  have e_13 : M_2 7 2 = M 7 2 := (f_5 7 2 (by omega))
  have e_14 : M_2 7 3 = M 7 3 := (f_5 7 3 (by omega))
  have e_15 : M_2 7 4 = M 7 4 := (f_5 7 4 (by omega))
  refine g_putZ (n := 12) hx plX3_25 (sX3_2 (by decide)) (dq tX3_reads 5 rfl) rfl (by omega) (by omega) (by omega) (fun M_16 m_17e m_17 => ?_)
  refine g_aload_n (n := 13) hx 0 (dq tX3_reads 6 rfl) rfl rfl ?_
  refine g_getR (n := 16) hx glX3_18 (sX3_1 (by decide)) (dq tX3_reads 7 rfl) rfl ?_
  have e_18 : M_16 10 0 = M_2 10 0 := (m_17 10 0 (by omega))
  have e_19 : M_16 10 1 = M_2 10 1 := (m_17 10 1 (by omega))
  have e_20 : M_16 10 2 = M_2 10 2 := (m_17 10 2 (by omega))
  have e_21 : M_16 10 3 = M_2 10 3 := (m_17 10 3 (by omega))
  have e_22 : M_16 7 5 = M_2 7 5 := (m_17 7 5 (by omega))
  have e_23 : M_16 7 1 = M_2 7 1 := (m_17 7 1 (by omega))
  have e_24 : M_16 7 2 = M_2 7 2 := (m_17 7 2 (by omega))
  have e_25 : M_16 7 3 = M_2 7 3 := (m_17 7 3 (by omega))
  have e_26 : M_16 7 4 = M_2 7 4 := (m_17 7 4 (by omega))
  refine g_callVv (n := 19) (As := []) (rest := []) hx (ctX7_rewind2 Γ M_16 t9 n9 (Tx.frame ex0 (fun c j hcj => ((m_17 c j (by omega)).trans (f_5 c j (by omega)))))) mlX3_29 (obX7 (by decide)) (dq tX3_reads 8 rfl) rfl (Nat.le_of_ble_eq_true rfl) (Nat.le_of_ble_eq_true rfl) (Nat.le_of_ble_eq_true rfl) rfl (fun M_28 p_30 => ?_)
  obtain ⟨f_31, h_32, h_33⟩ := p_30
  have e_34 : M_28 10 0 = M_16 10 0 := (f_31 10 0 (by omega))
  have e_35 : M_28 10 1 = M_16 10 1 := (f_31 10 1 (by omega))
  have e_36 : M_28 10 2 = M_16 10 2 := (f_31 10 2 (by omega))
  have e_37 : M_28 10 3 = M_16 10 3 := (f_31 10 3 (by omega))
  have e_38 : M_28 9 2 = M_16 9 2 := (f_31 9 2 (by omega))
  have e_39 : M_28 7 1 = M_16 7 1 := (f_31 7 1 (by omega))
  have h_40 := Tc.fst h_33
  have h_41 := Tc.le h_33
  have h_42 := Tc.stop h_33
  have h_43 := Tc.sle h_33
  have h_44 := Tc.at h_33
  have h_45 := (Tc.tx h_33).1
  have g_46 : RvI M_28 := fun _ => RvOk.none ((((f_31 10 1 (by omega)).trans (m_17 10 1 (by omega)))).trans h_7) ((((f_31 10 3 (by omega)).trans (m_17 10 3 (by omega)))).trans h_9)
  refine g_iconst (n := 20) hx (dq tX3_reads 9 rfl) rfl ?_
  refine g_istore_n (n := 21) (lv' := [(1, vI 0), (0, aR Γ 9)]) hx (dq tX3_reads 10 rfl) (by decide) rfl rfl ?_
  have L_49 : ∀ (n_ : Nat) (i_47 : Int) (M_48 : zM), (0 ≤ i_47) → (i_47 ≤ 40) → (∀ u_ v_, (u_ ≠ 7 ∨ v_ ≠ 2) ∧ (u_ ≠ 7 ∨ v_ ≠ 3) ∧ (u_ ≠ 7 ∨ v_ ≠ 4) ∧ (u_ ≠ 7 ∨ v_ ≠ 5) ∧ (u_ < 10 ∨ 10 + 8 ≤ u_) ∧ (u_ ≠ 9 ∨ v_ ≠ 2) → M_48 u_ v_ = M_28 u_ v_) → (RvI M_48) → (Tc M_48 t9 n9 (M_48 7 2).toNat) → (Rv9 t9 n9 (41 - i_47).toNat i_47 ((M_48 7 2).toNat, sv M_48) = River9 t9 n9) → (M_48 7 5 = 0) → ((41 - i_47).toNat = n_) → G Γ x 3 (QI Γ x (qctX3_reads2 M t9 n9)) M_48 21 [(1, vI i_47), (0, aR Γ 9)] [] := by
    intro n_
    induction n_ using Nat.strongRecOn with
    | _ n_ ih_50 =>
      intro i_47 M_48 h_57 h_58 f_51 g_52 h_54 h_55 h_56 hm_53
      have h_59 := Tc.fst h_54
      have h_60 := Tc.le h_54
      have h_61 := Tc.at h_54
      have h_62 := Tc.stop h_54
      have h_63 := Tc.sle h_54
      refine g_iload_n (n := 22) hx 0 (dq tX3_reads 11 rfl) rfl rfl ?_
      refine g_bipush (n := 24) hx (dq tX3_reads 12 rfl) rfl (by decide) ?_
      refine g_icmp_gt (n := 27) (t := 139) hx (dq tX3_reads 13 rfl) (by decide) rfl ⟨by omega, by omega⟩ ⟨by decide, by decide⟩ (fun c_64 => ?_) (fun c_64 => ?_)
      · omega
      · refine g_aload_n (n := 28) hx 1 (dq tX3_reads 14 rfl) rfl rfl ?_
        refine g_getR (n := 31) hx glX3_18 (sX3_1 (by decide)) (dq tX3_reads 15 rfl) rfl ?_
        refine g_ldcS (n := 33) (q := 25) hx rfl rfl rfl (dq tX3_reads 16 rfl) rfl ?_
        have e_65 : M_48 7 1 = M_28 7 1 := (f_51 7 1 (by omega))
        refine g_callVi (n := 36) (As := [sR Γ 25]) (rest := []) hx (ctX7_wordIn2 Γ M_48 25 _ rfl (by decide) t9 n9 ((M_48 7 2).toNat) h_54) mlX3_36 (obX7 (by decide)) (dq tX3_reads 17 rfl) rfl (Nat.le_of_ble_eq_true rfl) (Nat.le_of_ble_eq_true rfl) (Nat.le_of_ble_eq_true rfl) rfl (fun z_66 M_67 h_68 p_69 => ?_)
        obtain ⟨rfl, h_71⟩ := p_69
        have h_72 : wiR t9 ((M_48 7 2).toNat) ((stp t9 n9 ((M_48 7 2).toNat) : Int) - ((M_48 7 2).toNat : Nat)) 25 = wix t9 n9 ((M_48 7 2).toNat) wRiv 0 := wR25 (Tc.le h_54)
        have h_73 := wRiv_rg t9 n9 ((M_48 7 2).toNat)
        refine g_istore_n (n := 37) (lv' := [(2, vI z_66), (1, vI i_47), (0, aR Γ 9)]) hx (dq tX3_reads 18 rfl) (by decide) rfl rfl ?_
        refine g_iload_n (n := 38) hx 0 (dq tX3_reads 19 rfl) rfl rfl ?_
        refine g_iconst (n := 39) hx (dq tX3_reads 20 rfl) rfl ?_
        refine g_icmp_ne (n := 42) (t := 51) hx (dq tX3_reads 21 rfl) (by decide) rfl h_68 ⟨by decide, by decide⟩ (fun c_74 => ?_) (fun c_74 => ?_)
        · refine g_iload_n (n := 52) hx 1 (dq tX3_reads 27 rfl) rfl rfl ?_
          refine g_bipush (n := 54) hx (dq tX3_reads 28 rfl) rfl (by decide) ?_
          refine g_icmp_eq (n := 57) (t := 66) hx (dq tX3_reads 29 rfl) (by decide) rfl ⟨by omega, by omega⟩ ⟨by decide, by decide⟩ (fun c_75 => ?_) (fun c_75 => ?_)
          · refine g_aload_n (n := 67) hx 2 (dq tX3_reads 35 rfl) rfl rfl ?_
            refine g_getR (n := 70) hx glX3_18 (sX3_1 (by decide)) (dq tX3_reads 36 rfl) rfl ?_
            refine g_iconst (n := 71) hx (dq tX3_reads 37 rfl) rfl ?_
            refine g_callVi (n := 74) (As := [vI 4]) (rest := []) hx (ctX7_fails2 Γ M_48 4 (by decide) (by decide)) mlX3_40 (obX7 (by decide)) (dq tX3_reads 38 rfl) rfl (Nat.le_of_ble_eq_true rfl) (Nat.le_of_ble_eq_true rfl) (Nat.le_of_ble_eq_true rfl) rfl (fun z_76 M_77 h_78 p_79 => ?_)
            obtain ⟨f_80, h_81, h_82, h_83⟩ := p_79
            have g_84 : RvI M_77 := fun hf => RvOk.out (g_52 (absurd hf (by omega))) (fun u v h1 h2 => f_80 u v (by omega))
            have g_85 : Tc M_77 t9 n9 ((M_48 7 2).toNat) := Tc.frame h_54 (fun c j hcj => f_80 c j (by omega))
            have e_86 : M_77 10 0 = M_48 10 0 := (f_80 10 0 (by omega))
            have e_87 : M_77 10 1 = M_48 10 1 := (f_80 10 1 (by omega))
            have e_88 : M_77 10 2 = M_48 10 2 := (f_80 10 2 (by omega))
            have e_89 : M_77 10 3 = M_48 10 3 := (f_80 10 3 (by omega))
            have e_90 : M_77 9 2 = M_48 9 2 := (f_80 9 2 (by omega))
            have e_91 : M_77 7 1 = M_48 7 1 := (f_80 7 1 (by omega))
            have e_92 : M_77 7 2 = M_48 7 2 := (f_80 7 2 (by omega))
            have e_93 : M_77 7 3 = M_48 7 3 := (f_80 7 3 (by omega))
            have e_94 : M_77 7 4 = M_48 7 4 := (f_80 7 4 (by omega))
            exact g_zret hx hr (dq tX3_reads 39 rfl) (by omega) ⟨(fun u_ v_ huv_ => (((((f_80 u_ v_ (by omega)).trans (f_51 u_ v_ (by omega))).trans (f_31 u_ v_ (by omega))).trans (m_17 u_ v_ (by omega))).trans (f_5 u_ v_ (by omega)))), (by omega), (by omega), (by omega), (fun hz0 => absurd hz0 (by omega)), (Or.inl ⟨by omega, Rv_er (f := (40 - i_47).toNat) h_55 (by omega) (Eq.trans (Rq_f (k := z_66) (by omega) (by omega) (yfu (Or.inl (by omega)))) (re_eq (by omega)))⟩)⟩
          · refine g_aload_n (n := 58) hx 2 (dq tX3_reads 30 rfl) rfl rfl ?_
            refine g_iload_n (n := 59) hx 0 (dq tX3_reads 31 rfl) rfl rfl ?_
            refine g_iload_n (n := 60) hx 1 (dq tX3_reads 32 rfl) rfl rfl ?_
            refine g_callVi (n := 63) (As := [vI z_66, vI i_47]) (rest := []) hx (ctX3_isTooMany2 Γ M_48 z_66 (by omega) (by omega) i_47 (by omega) (by omega)) mlX3_44 (obX3 (by decide)) (dq tX3_reads 33 rfl) rfl (Nat.le_of_ble_eq_true rfl) (Nat.le_of_ble_eq_true rfl) (Nat.le_of_ble_eq_true rfl) rfl (fun z_95 M_96 h_97 p_98 => ?_)
            obtain ⟨rfl, h_100, h_101, h_102, h_103⟩ := p_98
            refine g_if_eq (n := 66) (t := 75) hx (dq tX3_reads 34 rfl) (by decide) rfl h_97 (fun c_104 => ?_) (fun c_104 => ?_)
            · refine g_aload_n (n := 76) hx 2 (dq tX3_reads 40 rfl) rfl rfl ?_
              refine g_getR (n := 79) hx glX3_18 (sX3_1 (by decide)) (dq tX3_reads 41 rfl) rfl ?_
              refine g_callVv (n := 82) (As := []) (rest := []) hx (ctX7_pass2 Γ M_48 t9 n9 (stp t9 n9 ((M_48 7 2).toNat)) (by omega) (by omega) (Tc.tx h_54)) mlX3_48 (obX7 (by decide)) (dq tX3_reads 42 rfl) rfl (Nat.le_of_ble_eq_true rfl) (Nat.le_of_ble_eq_true rfl) (Nat.le_of_ble_eq_true rfl) rfl (fun M_106 p_108 => ?_)
              obtain ⟨f_109, g_110, h_111⟩ := p_108
              have g_112 : RvI M_106 := fun hf => RvOk.out (g_52 ((f_109 7 5 (by omega)).symm.trans hf)) (fun u v h1 h2 => f_109 u v (by omega))
              have g_113 : Tc M_106 t9 n9 (nx t9 n9 ((M_48 7 2).toNat)) := h_111
              refine g_aload_n (n := 83) hx 2 (dq tX3_reads 43 rfl) rfl rfl ?_
              refine g_iload_n (n := 84) hx 0 (dq tX3_reads 44 rfl) rfl rfl ?_
              have e_114 : M_106 10 0 = M_48 10 0 := (f_109 10 0 (by omega))
              have e_115 : M_106 10 1 = M_48 10 1 := (f_109 10 1 (by omega))
              have e_116 : M_106 10 2 = M_48 10 2 := (f_109 10 2 (by omega))
              have e_117 : M_106 10 3 = M_48 10 3 := (f_109 10 3 (by omega))
              have e_118 : M_106 9 2 = M_48 9 2 := (f_109 9 2 (by omega))
              have e_119 : M_106 7 5 = M_48 7 5 := (f_109 7 5 (by omega))
              have e_120 : M_106 7 1 = M_48 7 1 := (f_109 7 1 (by omega))
              refine g_callVi (n := 87) (As := [vI z_66]) (rest := []) hx (ctX3_readsClause2 Γ M_106 z_66 (by omega) (by omega) t9 n9 (nx t9 n9 ((M_48 7 2).toNat)) (by omega) g_113 (Fit.go (h_102 (by omega)) (f_109 10 1 (by omega)) (f_109 10 2 (by omega)) (f_109 10 3 (by omega))) g_112) mlX3_51 (obX3 (by decide)) (dq tX3_reads 45 rfl) rfl (Nat.le_of_ble_eq_true rfl) (Nat.le_of_ble_eq_true rfl) (Nat.le_of_ble_eq_true rfl) rfl (fun z_121 M_122 h_123 p_124 => ?_)
              obtain ⟨f_125, g_126, h_127, h_128, h_129, h_130, h_131, h_132, h_133⟩ := p_124
              refine g_if_ne (n := 90) (t := 92) hx (dq tX3_reads 46 rfl) (by decide) rfl h_123 (fun c_134 => ?_) (fun c_134 => ?_)
              · have e_135 : M_122 7 1 = M_106 7 1 := (f_125 7 1 (by omega))
                have h_136 := Tc.fst h_131
                have h_137 := Tc.le h_131
                have h_138 := Tc.stop h_131
                have h_139 := Tc.sle h_131
                have h_140 := Tc.at h_131
                have h_141 := (Tc.tx h_131).1
                refine g_aload_n (n := 93) hx 2 (dq tX3_reads 49 rfl) rfl rfl ?_
                refine g_getR (n := 96) hx glX3_18 (sX3_1 (by decide)) (dq tX3_reads 50 rfl) rfl ?_
                refine g_getI (n := 99) hx glX3_54 (sX7_4 (by decide)) (dq tX3_reads 51 rfl) rfl (fun h_142l h_142u => ?_)
                refine g_iconst (n := 100) hx (dq tX3_reads 52 rfl) rfl ?_
                refine g_icmp_ne (n := 103) (t := 105) hx (dq tX3_reads 53 rfl) (by decide) rfl (zrI h_142l h_142u (by decide) (by decide)) ⟨by decide, by decide⟩ (fun c_143 => ?_) (fun c_143 => ?_)
                · refine g_aload_n (n := 106) hx 2 (dq tX3_reads 56 rfl) rfl rfl ?_
                  refine g_getR (n := 109) hx glX3_18 (sX3_1 (by decide)) (dq tX3_reads 57 rfl) rfl ?_
                  refine g_getI (n := 112) hx glX3_54 (sX7_4 (by decide)) (dq tX3_reads 58 rfl) rfl (fun h_144l h_144u => ?_)
                  refine g_bipush (n := 114) hx (dq tX3_reads 59 rfl) rfl (by decide) ?_
                  refine g_icmp_eq (n := 117) (t := 126) hx (dq tX3_reads 60 rfl) (by decide) rfl (zrI h_144l h_144u (by decide) (by decide)) ⟨by decide, by decide⟩ (fun c_145 => ?_) (fun c_145 => ?_)
                  · refine g_aload_n (n := 127) hx 2 (dq tX3_reads 66 rfl) rfl rfl ?_
                    refine g_getR (n := 130) hx glX3_18 (sX3_1 (by decide)) (dq tX3_reads 67 rfl) rfl ?_
                    refine g_callVv (n := 133) (As := []) (rest := []) hx (ctX7_pass2 Γ M_122 t9 n9 (stp t9 n9 ((M_122 7 2).toNat)) (by omega) (by omega) (Tc.tx h_131)) mlX3_48 (obX7 (by decide)) (dq tX3_reads 68 rfl) rfl (Nat.le_of_ble_eq_true rfl) (Nat.le_of_ble_eq_true rfl) (Nat.le_of_ble_eq_true rfl) rfl (fun M_147 p_149 => ?_)
                    obtain ⟨f_150, g_151, h_152⟩ := p_149
                    have g_153 : RvI M_147 := fun hf => RvOk.out (g_126 ((f_150 7 5 (by omega)).symm.trans hf)) (fun u v h1 h2 => f_150 u v (by omega))
                    have g_154 : Tc M_147 t9 n9 (nx t9 n9 ((M_122 7 2).toNat)) := h_152
                    refine g_iinc (n := 136) (lv' := [(1, vI (i_47 + 1)), (2, vI z_66), (0, aR Γ 9)]) hx 1 (dq tX3_reads 69 rfl) rfl (by decide) rfl rfl ?_
                    refine g_goto (n := 21) hx (dq tX3_reads 70 rfl) (by decide) ?_
                    have e_155 : M_147 10 0 = M_122 10 0 := (f_150 10 0 (by omega))
                    have e_156 : M_147 10 1 = M_122 10 1 := (f_150 10 1 (by omega))
                    have e_157 : M_147 10 2 = M_122 10 2 := (f_150 10 2 (by omega))
                    have e_158 : M_147 10 3 = M_122 10 3 := (f_150 10 3 (by omega))
                    have e_159 : M_147 9 2 = M_122 9 2 := (f_150 9 2 (by omega))
                    have e_160 : M_147 7 5 = M_122 7 5 := (f_150 7 5 (by omega))
                    have e_161 : M_147 7 1 = M_122 7 1 := (f_150 7 1 (by omega))
                    refine g_lv [0, 2] rfl ?_
                    exact ih_50 _ (by omega) (i_47 + 1) M_147 (by omega) (by omega) (fun u_ v_ huv_ => ((((f_150 u_ v_ (by omega)).trans (f_125 u_ v_ (by omega))).trans (f_109 u_ v_ (by omega))).trans (f_51 u_ v_ (by omega)))) g_153 (by have w1 := Tc.at g_154; rw [show (M_147 7 2).toNat = nx t9 n9 ((M_122 7 2).toNat) by omega]; exact g_154) (by have w1 := Tc.at g_154; exact Rv_on h_55 (by omega) (Rq_ok9 (k := z_66) (by omega) (by omega) (nfu (by omega) (stN (Hid.out h_103) (by omega)) (by omega) (by omega) (by omega) (by omega)) h_132 rfl (by omega) (by omega) (by omega) (by omega) (h_133 (by omega)) (by omega) (by omega)) (by omega) (by omega) (by omega) (sv_eq (by omega) (by omega) (by omega) (by omega) (by omega))) (by omega) rfl
                  · refine g_aload_n (n := 118) hx 2 (dq tX3_reads 61 rfl) rfl rfl ?_
                    refine g_getR (n := 121) hx glX3_18 (sX3_1 (by decide)) (dq tX3_reads 62 rfl) rfl ?_
                    refine g_iconst (n := 122) hx (dq tX3_reads 63 rfl) rfl ?_
                    refine g_callVi (n := 125) (As := [vI 0]) (rest := []) hx (ctX7_fails2 Γ M_122 0 (by decide) (by decide)) mlX3_40 (obX7 (by decide)) (dq tX3_reads 64 rfl) rfl (Nat.le_of_ble_eq_true rfl) (Nat.le_of_ble_eq_true rfl) (Nat.le_of_ble_eq_true rfl) rfl (fun z_162 M_163 h_164 p_165 => ?_)
                    obtain ⟨f_166, h_167, h_168, h_169⟩ := p_165
                    have g_170 : RvI M_163 := fun hf => RvOk.out (g_126 (absurd hf (by omega))) (fun u v h1 h2 => f_166 u v (by omega))
                    have g_171 : Tc M_163 t9 n9 ((M_122 7 2).toNat) := Tc.frame h_131 (fun c j hcj => f_166 c j (by omega))
                    have e_172 : M_163 10 0 = M_122 10 0 := (f_166 10 0 (by omega))
                    have e_173 : M_163 10 1 = M_122 10 1 := (f_166 10 1 (by omega))
                    have e_174 : M_163 10 2 = M_122 10 2 := (f_166 10 2 (by omega))
                    have e_175 : M_163 10 3 = M_122 10 3 := (f_166 10 3 (by omega))
                    have e_176 : M_163 9 2 = M_122 9 2 := (f_166 9 2 (by omega))
                    have e_177 : M_163 7 1 = M_122 7 1 := (f_166 7 1 (by omega))
                    have e_178 : M_163 7 2 = M_122 7 2 := (f_166 7 2 (by omega))
                    have e_179 : M_163 7 3 = M_122 7 3 := (f_166 7 3 (by omega))
                    have e_180 : M_163 7 4 = M_122 7 4 := (f_166 7 4 (by omega))
                    exact g_zret hx hr (dq tX3_reads 65 rfl) (by omega) ⟨(fun u_ v_ huv_ => (((((((f_166 u_ v_ (by omega)).trans (f_125 u_ v_ (by omega))).trans (f_109 u_ v_ (by omega))).trans (f_51 u_ v_ (by omega))).trans (f_31 u_ v_ (by omega))).trans (m_17 u_ v_ (by omega))).trans (f_5 u_ v_ (by omega)))), (by omega), (by omega), (by omega), (fun hz0 => absurd hz0 (by omega)), (Or.inl ⟨by omega, Rv_bad (f := (40 - i_47).toNat) h_55 (by omega) (Rq_ok9 (k := z_66) (by omega) (by omega) (nfu (by omega) (stN (Hid.out h_103) (by omega)) (by omega) (by omega) (by omega) (by omega)) h_132 rfl (by omega) (by omega) (by omega) (by omega) (h_133 (by omega)) (by omega) (by omega)) (by omega) (by omega) (by omega)⟩)⟩
                · refine g_iconst (n := 104) hx (dq tX3_reads 54 rfl) rfl ?_
                  exact g_zret hx hr (dq tX3_reads 55 rfl) (by omega) ⟨(fun u_ v_ huv_ => ((((((f_125 u_ v_ (by omega)).trans (f_109 u_ v_ (by omega))).trans (f_51 u_ v_ (by omega))).trans (f_31 u_ v_ (by omega))).trans (m_17 u_ v_ (by omega))).trans (f_5 u_ v_ (by omega)))), (by omega), (by omega), (by omega), (fun _ => g_126 (by omega)), (Or.inr ⟨rfl, _, Rv_end (f := (40 - i_47).toNat) h_55 (by omega) (Rq_ok9 (k := z_66) (by omega) (by omega) (nfu (by omega) (stN (Hid.out h_103) (by omega)) (by omega) (by omega) (by omega) (by omega)) h_132 rfl (by omega) (by omega) (by omega) (by omega) (h_133 (by omega)) (by omega) (by omega)) (by omega)⟩)⟩
              · refine g_iconst (n := 91) hx (dq tX3_reads 47 rfl) rfl ?_
                have e_181 : M_122 7 1 = M_106 7 1 := (f_125 7 1 (by omega))
                exact g_zret hx hr (dq tX3_reads 48 rfl) (by omega) ⟨(fun u_ v_ huv_ => ((((((f_125 u_ v_ (by omega)).trans (f_109 u_ v_ (by omega))).trans (f_51 u_ v_ (by omega))).trans (f_31 u_ v_ (by omega))).trans (m_17 u_ v_ (by omega))).trans (f_5 u_ v_ (by omega)))), (by omega), (by omega), (by omega), (fun hz0 => absurd hz0 (by omega)), (Or.inl ⟨rfl, Rv_er (f := (40 - i_47).toNat) h_55 (by omega) (Rq_er9 (k := z_66) (by omega) (by omega) (nfu (by omega) (stN (Hid.out h_103) (by omega)) (by omega) (by omega) (by omega) (by omega)) h_132 rfl (by omega) (by omega) (by omega) (by omega))⟩)⟩
            · refine g_aload_n (n := 67) hx 2 (dq tX3_reads 35 rfl) rfl rfl ?_
              refine g_getR (n := 70) hx glX3_18 (sX3_1 (by decide)) (dq tX3_reads 36 rfl) rfl ?_
              refine g_iconst (n := 71) hx (dq tX3_reads 37 rfl) rfl ?_
              refine g_callVi (n := 74) (As := [vI 4]) (rest := []) hx (ctX7_fails2 Γ M_48 4 (by decide) (by decide)) mlX3_40 (obX7 (by decide)) (dq tX3_reads 38 rfl) rfl (Nat.le_of_ble_eq_true rfl) (Nat.le_of_ble_eq_true rfl) (Nat.le_of_ble_eq_true rfl) rfl (fun z_182 M_183 h_184 p_185 => ?_)
              obtain ⟨f_186, h_187, h_188, h_189⟩ := p_185
              have g_190 : RvI M_183 := fun hf => RvOk.out (g_52 (absurd hf (by omega))) (fun u v h1 h2 => f_186 u v (by omega))
              have g_191 : Tc M_183 t9 n9 ((M_48 7 2).toNat) := Tc.frame h_54 (fun c j hcj => f_186 c j (by omega))
              have e_192 : M_183 10 0 = M_48 10 0 := (f_186 10 0 (by omega))
              have e_193 : M_183 10 1 = M_48 10 1 := (f_186 10 1 (by omega))
              have e_194 : M_183 10 2 = M_48 10 2 := (f_186 10 2 (by omega))
              have e_195 : M_183 10 3 = M_48 10 3 := (f_186 10 3 (by omega))
              have e_196 : M_183 9 2 = M_48 9 2 := (f_186 9 2 (by omega))
              have e_197 : M_183 7 1 = M_48 7 1 := (f_186 7 1 (by omega))
              have e_198 : M_183 7 2 = M_48 7 2 := (f_186 7 2 (by omega))
              have e_199 : M_183 7 3 = M_48 7 3 := (f_186 7 3 (by omega))
              have e_200 : M_183 7 4 = M_48 7 4 := (f_186 7 4 (by omega))
              exact g_zret hx hr (dq tX3_reads 39 rfl) (by omega) ⟨(fun u_ v_ huv_ => (((((f_186 u_ v_ (by omega)).trans (f_51 u_ v_ (by omega))).trans (f_31 u_ v_ (by omega))).trans (m_17 u_ v_ (by omega))).trans (f_5 u_ v_ (by omega)))), (by omega), (by omega), (by omega), (fun hz0 => absurd hz0 (by omega)), (Or.inl ⟨by omega, Rv_er (f := (40 - i_47).toNat) h_55 (by omega) (Eq.trans (Rq_f (k := z_66) (by omega) (by omega) (yfu (Or.inr (stY (Hid.out h_103) (by omega))))) (re_eq (by omega)))⟩)⟩
        · refine g_aload_n (n := 43) hx 2 (dq tX3_reads 22 rfl) rfl rfl ?_
          refine g_getR (n := 46) hx glX3_18 (sX3_1 (by decide)) (dq tX3_reads 23 rfl) rfl ?_
          refine g_iconst (n := 47) hx (dq tX3_reads 24 rfl) rfl ?_
          refine g_callVi (n := 50) (As := [vI 0]) (rest := []) hx (ctX7_fails2 Γ M_48 0 (by decide) (by decide)) mlX3_40 (obX7 (by decide)) (dq tX3_reads 25 rfl) rfl (Nat.le_of_ble_eq_true rfl) (Nat.le_of_ble_eq_true rfl) (Nat.le_of_ble_eq_true rfl) rfl (fun z_201 M_202 h_203 p_204 => ?_)
          obtain ⟨f_205, h_206, h_207, h_208⟩ := p_204
          have g_209 : RvI M_202 := fun hf => RvOk.out (g_52 (absurd hf (by omega))) (fun u v h1 h2 => f_205 u v (by omega))
          have g_210 : Tc M_202 t9 n9 ((M_48 7 2).toNat) := Tc.frame h_54 (fun c j hcj => f_205 c j (by omega))
          have e_211 : M_202 10 0 = M_48 10 0 := (f_205 10 0 (by omega))
          have e_212 : M_202 10 1 = M_48 10 1 := (f_205 10 1 (by omega))
          have e_213 : M_202 10 2 = M_48 10 2 := (f_205 10 2 (by omega))
          have e_214 : M_202 10 3 = M_48 10 3 := (f_205 10 3 (by omega))
          have e_215 : M_202 9 2 = M_48 9 2 := (f_205 9 2 (by omega))
          have e_216 : M_202 7 1 = M_48 7 1 := (f_205 7 1 (by omega))
          have e_217 : M_202 7 2 = M_48 7 2 := (f_205 7 2 (by omega))
          have e_218 : M_202 7 3 = M_48 7 3 := (f_205 7 3 (by omega))
          have e_219 : M_202 7 4 = M_48 7 4 := (f_205 7 4 (by omega))
          exact g_zret hx hr (dq tX3_reads 26 rfl) (by omega) ⟨(fun u_ v_ huv_ => (((((f_205 u_ v_ (by omega)).trans (f_51 u_ v_ (by omega))).trans (f_31 u_ v_ (by omega))).trans (m_17 u_ v_ (by omega))).trans (f_5 u_ v_ (by omega)))), (by omega), (by omega), (by omega), (fun hz0 => absurd hz0 (by omega)), (Or.inl ⟨by omega, Rv_er (f := (40 - i_47).toNat) h_55 (by omega) (Eq.trans (Rq_k (by omega)) (re_eq (by omega)))⟩)⟩
  exact L_49 _ 0 M_28 (by omega) (by omega) (fun _ _ _ => rfl) g_46 (by rw [show (M_28 7 2).toNat = sk t9 n9 0 by omega]; exact h_33) (by rw [show (M_28 7 2).toNat = sk t9 n9 0 by omega, show sv M_28 = (0, 0, 0, 0, 0) from (sv_eq (by omega) (by omega) (by omega) (by omega) (by omega))]; rfl) (by omega) rfl

abbrev qctX9_river3 (M : zM) (t9 : Nat → Int) (n9 : Nat) (z : Int) (M' : zM) : Prop := (∀ u_ v_, (u_ ≠ 7 ∨ v_ ≠ 2) ∧ (u_ ≠ 7 ∨ v_ ≠ 3) ∧ (u_ ≠ 7 ∨ v_ ≠ 4) ∧ (u_ ≠ 7 ∨ v_ ≠ 5) ∧ (u_ ≠ 7 ∨ v_ ≠ 1) ∧ (u_ ≠ 9 ∨ v_ ≠ 2) ∧ (u_ < 10 ∨ 10 + 8 ≤ u_) ∧ (u_ < 37 ∨ 37 + 8 ≤ u_) ∧ (u_ < 45 + 1 ∨ 45 + 11 ≤ u_) ∧ (u_ ≠ 45 + 11 ∨ v_ ≠ 1) ∧ (u_ ≠ 45 + 11 ∨ v_ ≠ 4) ∧ (u_ ≠ 45 + 11 ∨ v_ ≠ 6) ∧ (u_ ≠ 45 + 11 ∨ v_ ≠ 11) ∧ u_ ≠ 45 + 12 ∧ u_ ≠ 45 + 13 → M' u_ v_ = M u_ v_) ∧ Gd M' 37 (45 + 1) ∧ (M' 7 1 = 0) ∧ ((∃ f : Int, River9 t9 n9 = .error f ∧ z = -2 - f ∧ ∀ u v : Nat, (37 ≤ u ∧ u < 101) → M' u v = M u v) ∨ ((∃ (a : Nat) (w x : Int), River9 t9 n9 = .ok (a, M' 37 0, M' 37 1, w, M' 37 3, x)) ∧ z = M' 37 3 ∧ M' (45 + 1) 0 = 0 ∧ M' (45 + 1) 1 = 50 ∧ M' (45 + 1) 2 = -1 ∧ M' (45 + 1) 3 = 0 ∧ M' (45 + 11) 6 = 0 ∧ ∀ j : Nat, j < 6 → M' (45 + 1 + 1) j = -1))
set_option maxHeartbeats 4000000 in
set_option maxRecDepth 100000 in
theorem ctX9_river3 (Γ : Gam) (M : zM) (t9 : Nat → Int) (n9 : Nat) (gd0 : Gd M 37 (45 + 1)) (ex0 : Tx M t9 n9) : CtI Γ yX9_river cX9_river 2 (some .int) 6 132 [aR Γ 0] M (qctX9_river3 M t9 n9) := by
  refine met_i (by decide) (Nat.le_of_ble_eq_true rfl) (fun x hx hr => ?_)
  show G Γ x 2 (QI Γ x (qctX9_river3 M t9 n9)) M 0 [(0, aR Γ 0)] []
  refine g_aload_n (n := 1) hx 0 (dq tX9_river 0 rfl) rfl rfl ?_
  refine g_getR (n := 4) hx glX9_21 (sX9_1 (by decide)) (dq tX9_river 1 rfl) rfl ?_
  refine g_callVi (n := 7) (As := []) (rest := []) hx (ctX3_reads2 Γ M t9 n9 ex0) mlX9_86 (obX3 (by decide)) (dq tX9_river 2 rfl) rfl (Nat.le_of_ble_eq_true rfl) (Nat.le_of_ble_eq_true rfl) (Nat.le_of_ble_eq_true rfl) rfl (fun z_1 M_2 h_3 p_4 => ?_)
  obtain ⟨f_5, h_6, h_7, h_8, h_9, h_10⟩ := p_4
  have g_11 : Gd M_2 37 (45 + 1) := Gd.frame gd0 (fun c j hcj => f_5 c j (by omega))
  refine g_istore_n (n := 8) (lv' := [(1, vI z_1), (0, aR Γ 0)]) hx (dq tX9_river 3 rfl) (by decide) rfl rfl ?_
  refine g_aload_n (n := 9) hx 1 (dq tX9_river 4 rfl) rfl rfl ?_
  refine g_getR (n := 12) hx glX9_10 (sX9_0 (by decide)) (dq tX9_river 5 rfl) rfl ?_
  refine g_iconst (n := 13) hx (dq tX9_river 6 rfl) rfl ?_
  have e_12 : M_2 37 1 = M 37 1 := (f_5 37 1 (by omega))
  have e_13 : M_2 37 3 = M 37 3 := (f_5 37 3 (by omega))
  refine g_putI (n := 16) hx plX9_78 (sX7_1 (by decide)) (dq tX9_river 7 rfl) rfl (by omega) (by omega) (fun M_14 m_15e m_15 => ?_)
  have g_16 : Gd M_14 37 (45 + 1) := Gd.frame g_11 (fun c j hcj => m_15 c j (by omega))
  refine g_iload_n (n := 17) hx 0 (dq tX9_river 8 rfl) rfl rfl ?_
  refine g_if_ne (n := 20) (t := 31) hx (dq tX9_river 9 rfl) (by decide) rfl h_3 (fun c_17 => ?_) (fun c_17 => ?_)
  · obtain ⟨ra9, re9⟩ := Rzr.ok h_10 (by omega)
    refine g_aload_n (n := 32) hx 1 (dq tX9_river 16 rfl) rfl rfl ?_
    refine g_getR (n := 35) hx glX9_47 (sX9_5 (by decide)) (dq tX9_river 17 rfl) rfl ?_
    refine g_getR (n := 38) hx glX9_51 (sX8_0 (by decide)) (dq tX9_river 18 rfl) rfl ?_
    refine g_aload_n (n := 39) hx 1 (dq tX9_river 19 rfl) rfl rfl ?_
    refine g_getR (n := 42) hx glX9_21 (sX9_1 (by decide)) (dq tX9_river 20 rfl) rfl ?_
    refine g_getR (n := 45) hx glX9_93 (sX3_0 (by decide)) (dq tX9_river 21 rfl) rfl ?_
    refine g_iv (fun hI0 => ?_)
    have hv1 : M_14 10 1 ≤ 6 := (ivI hI0 (sX2_1 (by decide))).2
    have hv3 : M_14 10 3 ≤ 12 := (ivI hI0 (sX2_3 (by decide))).2
    have e_18 : M_14 37 1 = M_2 37 1 := (m_15 37 1 (by omega))
    have e_19 : M_14 37 3 = M_2 37 3 := (m_15 37 3 (by omega))
    have e_20 : M_14 7 5 = M_2 7 5 := (m_15 7 5 (by omega))
    refine g_callVv (n := 48) (As := [aR Γ 10]) (rest := []) hx (ctX2_copy Γ M_14 37 (by decide) 10 (by decide) (by omega)) mlX9_96 (obX2 (by decide)) (dq tX9_river 22 rfl) rfl (Nat.le_of_ble_eq_true rfl) (Nat.le_of_ble_eq_true rfl) (Nat.le_of_ble_eq_true rfl) rfl (fun M_22 p_24 => ?_)
    obtain ⟨f_25, h_26, h_27, h_28, h_29, h_30, h_31, h_32, h_33, h_34, h_35, h_36, h_37⟩ := p_24
    refine g_aload_n (n := 49) hx 1 (dq tX9_river 23 rfl) rfl rfl ?_
    refine g_getR (n := 52) hx glX9_47 (sX9_5 (by decide)) (dq tX9_river 24 rfl) rfl ?_
    refine g_getR (n := 55) hx glX9_100 (sX8_1 (by decide)) (dq tX9_river 25 rfl) rfl ?_
    refine g_aload_n (n := 56) hx 1 (dq tX9_river 26 rfl) rfl rfl ?_
    refine g_getR (n := 59) hx glX9_47 (sX9_5 (by decide)) (dq tX9_river 27 rfl) rfl ?_
    refine g_getR (n := 62) hx glX9_51 (sX8_0 (by decide)) (dq tX9_river 28 rfl) rfl ?_
    have e_39 : M_22 7 5 = M_14 7 5 := (f_25 7 5 (by omega))
    refine g_callVv (n := 65) (As := [aR Γ 37]) (rest := []) hx (ctX6_start2 Γ M_22 (45 + 1) (iX8_1 (by decide)) 37 (by decide) (by omega) (RvOk.copy (RvOk.out (h_9 (by omega)) (fun u v h1 h2 => (m_15 u v (by omega)))) hv1 hv3 h_27 h_29 h_31 h_34 h_37)) mlX9_104 (obX6 (iX8_1 (by decide))) (dq tX9_river 29 rfl) rfl (Nat.le_of_ble_eq_true rfl) (Nat.le_of_ble_eq_true rfl) (Nat.le_of_ble_eq_true rfl) rfl (fun M_41 p_43 => ?_)
    obtain ⟨f_44, h_45, h_46, h_47, h_48, h_49, h_50⟩ := p_43
    refine g_aload_n (n := 66) hx 1 (dq tX9_river 30 rfl) rfl rfl ?_
    refine g_getR (n := 69) hx glX9_47 (sX9_5 (by decide)) (dq tX9_river 31 rfl) rfl ?_
    refine g_getR (n := 72) hx glX9_109 (sX8_2 (by decide)) (dq tX9_river 32 rfl) rfl ?_
    have e_51 : M_41 37 1 = M_22 37 1 := (f_44 37 1 (by omega))
    have e_52 : M_41 37 3 = M_22 37 3 := (f_44 37 3 (by omega))
    have e_53 : M_41 7 5 = M_22 7 5 := (f_44 7 5 (by omega))
    refine g_callVv (n := 75) (As := []) (rest := []) hx (ctX0_start2 Γ M_41 (45 + 11) (iX8_2 (by decide))) mlX9_113 (obX0 (iX8_2 (by decide))) (dq tX9_river 33 rfl) rfl (Nat.le_of_ble_eq_true rfl) (Nat.le_of_ble_eq_true rfl) (Nat.le_of_ble_eq_true rfl) rfl (fun M_55 p_57 => ?_)
    obtain ⟨f_58, h_59⟩ := p_57
    have g_60 : Gd M_55 37 (45 + 1) := Gd.frame h_45 (fun c j hcj => f_58 c j (by omega))
    refine g_aload_n (n := 76) hx 1 (dq tX9_river 34 rfl) rfl rfl ?_
    refine g_getR (n := 79) hx glX9_47 (sX9_5 (by decide)) (dq tX9_river 35 rfl) rfl ?_
    refine g_getR (n := 82) hx glX9_51 (sX8_0 (by decide)) (dq tX9_river 36 rfl) rfl ?_
    refine g_getI (n := 85) hx glX9_117 (sX2_3 (by decide)) (dq tX9_river 37 rfl) rfl (fun h_61l h_61u => ?_)
    have e_62 : M_55 37 3 = M_41 37 3 := (f_58 37 3 (by omega))
    have e_63 : M_55 37 1 = M_41 37 1 := (f_58 37 1 (by omega))
    have e_64 : M_55 7 5 = M_41 7 5 := (f_58 7 5 (by omega))
    exact g_iret hx hr (dq tX9_river 38 rfl) (zrI h_61l h_61u (by decide) (by decide)) ⟨(fun u_ v_ huv_ => (((((f_58 u_ v_ (by omega)).trans (f_44 u_ v_ (by omega))).trans (f_25 u_ v_ (by omega))).trans (m_15 u_ v_ (by omega))).trans (f_5 u_ v_ (by omega)))), g_60, (((((f_58 7 1 (by omega)).trans (f_44 7 1 (by omega))).trans (f_25 7 1 (by omega)))).trans m_15e), (Or.inr ⟨riv_eq re9 ((((f_58 37 0 (by omega)).trans (f_44 37 0 (by omega)))).trans ((h_26).trans ((m_15 10 0 (by omega))))) ((((f_58 37 1 (by omega)).trans (f_44 37 1 (by omega)))).trans ((h_27).trans ((m_15 10 1 (by omega))))) ((((f_58 37 3 (by omega)).trans (f_44 37 3 (by omega)))).trans ((h_29).trans ((m_15 10 3 (by omega))))), by omega, ((f_58 (45 + 1) 0 (by omega))).trans h_46, ((f_58 (45 + 1) 1 (by omega))).trans h_47, ((f_58 (45 + 1) 2 (by omega))).trans h_48, ((f_58 (45 + 1) 3 (by omega))).trans h_49, h_59, fun j hj => ((f_58 (45 + 1 + 1) j (by omega))).trans (h_50 j hj)⟩)⟩
  · refine g_bipush (n := 22) hx (dq tX9_river 10 rfl) rfl (by decide) ?_
    refine g_aload_n (n := 23) hx 1 (dq tX9_river 11 rfl) rfl rfl ?_
    refine g_getR (n := 26) hx glX9_10 (sX9_0 (by decide)) (dq tX9_river 12 rfl) rfl ?_
    refine g_getI (n := 29) hx glX9_90 (sX7_5 (by decide)) (dq tX9_river 13 rfl) rfl (fun h_65l h_65u => ?_)
    have e_66 : M_14 7 5 = M_2 7 5 := (m_15 7 5 (by omega))
    refine g_isub (n := 30) hx (dq tX9_river 14 rfl) rfl ?_
    have e_67 : M_14 37 1 = M_2 37 1 := (m_15 37 1 (by omega))
    have e_68 : M_14 37 3 = M_2 37 3 := (m_15 37 3 (by omega))
    exact g_iret hx hr (dq tX9_river 15 rfl) ⟨by omega, by omega⟩ ⟨(fun u_ v_ huv_ => ((m_15 u_ v_ (by omega)).trans (f_5 u_ v_ (by omega)))), g_16, m_15e, (Or.inl ⟨_, Rzr.no h_10 (by omega), by omega, fun u v h => ((m_15 u v (by omega)).trans (f_5 u v (by omega)))⟩)⟩
