abbrev qctX3_reads (M : zM)  (z : Int) (M' : zM) : Prop := (∀ u_ v_, (u_ ≠ 7 ∨ v_ ≠ 2) ∧ (u_ ≠ 7 ∨ v_ ≠ 3) ∧ (u_ ≠ 7 ∨ v_ ≠ 4) ∧ (u_ ≠ 7 ∨ v_ ≠ 5) ∧ (u_ < 10 ∨ 10 + 8 ≤ u_) ∧ (u_ ≠ 9 ∨ v_ ≠ 2) → M' u_ v_ = M u_ v_) ∧ (z = 0 ∨ (z = 1)) ∧ (z = 1 → M' 7 5 = 0) ∧ (z = 1 → RvOk M' 10)
set_option maxHeartbeats 4000000 in
set_option maxRecDepth 100000 in
theorem ctX3_reads (Γ : Gam) (M : zM)   : CtI Γ yX3_reads cX3_reads 3 (some .boolean) 5 110 [aR Γ 9] M (qctX3_reads M) := by
  refine met_i (by decide) (Nat.le_of_ble_eq_true rfl) (fun x hx hr => ?_)
  show G Γ x 3 (QI Γ x (qctX3_reads M)) M 0 [(0, aR Γ 9)] []
  refine g_aload_n (n := 1) hx 0 (dq tX3_reads 0 rfl) rfl rfl ?_
  refine g_getR (n := 4) hx glX3_12 (sX3_0 (by decide)) (dq tX3_reads 1 rfl) rfl ?_
  refine g_callVv (n := 7) (As := []) (rest := []) hx (ctX2_clear Γ M 10 (by decide)) mlX3_22 (obX2 (by decide)) (dq tX3_reads 2 rfl) rfl (Nat.le_of_ble_eq_true rfl) (Nat.le_of_ble_eq_true rfl) (Nat.le_of_ble_eq_true rfl) rfl (fun M_2 p_4 => ?_)
  obtain ⟨f_5, h_6, h_7, h_8, h_9⟩ := p_4
  refine g_aload_n (n := 8) hx 0 (dq tX3_reads 3 rfl) rfl rfl ?_
  refine g_iconst (n := 9) hx (dq tX3_reads 4 rfl) rfl ?_
  have e_10 : M_2 7 5 = M 7 5 := (f_5 7 5 (by omega))
  refine g_putZ (n := 12) hx plX3_25 (sX3_2 (by decide)) (dq tX3_reads 5 rfl) rfl (by omega) (by omega) (by omega) (fun M_11 m_12e m_12 => ?_)
  refine g_aload_n (n := 13) hx 0 (dq tX3_reads 6 rfl) rfl rfl ?_
  refine g_getR (n := 16) hx glX3_18 (sX3_1 (by decide)) (dq tX3_reads 7 rfl) rfl ?_
  have e_13 : M_11 10 1 = M_2 10 1 := (m_12 10 1 (by omega))
  have e_14 : M_11 10 3 = M_2 10 3 := (m_12 10 3 (by omega))
  have e_15 : M_11 7 5 = M_2 7 5 := (m_12 7 5 (by omega))
  have e_16 : M_11 10 2 = M_2 10 2 := (m_12 10 2 (by omega))
  refine g_callVv (n := 19) (As := []) (rest := []) hx (ctX7_rewind Γ M_11 ) mlX3_29 (obX7 (by decide)) (dq tX3_reads 8 rfl) rfl (Nat.le_of_ble_eq_true rfl) (Nat.le_of_ble_eq_true rfl) (Nat.le_of_ble_eq_true rfl) rfl (fun M_18 p_20 => ?_)
  obtain ⟨f_21, h_22⟩ := p_20
  have g_23 : RvI M_18 := fun _ => RvOk.none ((((f_21 10 1 (by omega)).trans (m_12 10 1 (by omega)))).trans h_7) ((((f_21 10 3 (by omega)).trans (m_12 10 3 (by omega)))).trans h_9)
  refine g_iconst (n := 20) hx (dq tX3_reads 9 rfl) rfl ?_
  refine g_istore_n (n := 21) (lv' := [(1, vI 0), (0, aR Γ 9)]) hx (dq tX3_reads 10 rfl) (by decide) rfl rfl ?_
  have L_26 : ∀ (n_ : Nat) (i_24 : Int) (M_25 : zM), (0 ≤ i_24) → (i_24 ≤ 40) → (∀ u_ v_, (u_ ≠ 7 ∨ v_ ≠ 2) ∧ (u_ ≠ 7 ∨ v_ ≠ 3) ∧ (u_ ≠ 7 ∨ v_ ≠ 4) ∧ (u_ ≠ 7 ∨ v_ ≠ 5) ∧ (u_ < 10 ∨ 10 + 8 ≤ u_) ∧ (u_ ≠ 9 ∨ v_ ≠ 2) → M_25 u_ v_ = M_18 u_ v_) → (RvI M_25) → ((40 - i_24).toNat = n_) → G Γ x 3 (QI Γ x (qctX3_reads M)) M_25 21 [(1, vI i_24), (0, aR Γ 9)] [] := by
    intro n_
    induction n_ using Nat.strongRecOn with
    | _ n_ ih_27 =>
      intro i_24 M_25 h_31 h_32 f_28 g_29 hm_30
      refine g_iload_n (n := 22) hx 0 (dq tX3_reads 11 rfl) rfl rfl ?_
      refine g_bipush (n := 24) hx (dq tX3_reads 12 rfl) rfl (by decide) ?_
      refine g_icmp_gt (n := 27) (t := 139) hx (dq tX3_reads 13 rfl) (by decide) rfl ⟨by omega, by omega⟩ ⟨by decide, by decide⟩ (fun c_33 => ?_) (fun c_33 => ?_)
      · omega
      · refine g_aload_n (n := 28) hx 1 (dq tX3_reads 14 rfl) rfl rfl ?_
        refine g_getR (n := 31) hx glX3_18 (sX3_1 (by decide)) (dq tX3_reads 15 rfl) rfl ?_
        refine g_ldcS (n := 33) (q := 25) hx rfl rfl rfl (dq tX3_reads 16 rfl) rfl ?_
        refine g_callVi (n := 36) (As := [sR Γ 25]) (rest := []) hx (ctX7_wordIn Γ M_25 25 _ rfl (by decide)) mlX3_36 (obX7 (by decide)) (dq tX3_reads 17 rfl) rfl (Nat.le_of_ble_eq_true rfl) (Nat.le_of_ble_eq_true rfl) (Nat.le_of_ble_eq_true rfl) rfl (fun z_34 M_35 h_36 p_37 => ?_)
        obtain rfl := p_37
        refine g_istore_n (n := 37) (lv' := [(2, vI z_34), (1, vI i_24), (0, aR Γ 9)]) hx (dq tX3_reads 18 rfl) (by decide) rfl rfl ?_
        refine g_iload_n (n := 38) hx 0 (dq tX3_reads 19 rfl) rfl rfl ?_
        refine g_iconst (n := 39) hx (dq tX3_reads 20 rfl) rfl ?_
        refine g_icmp_ne (n := 42) (t := 51) hx (dq tX3_reads 21 rfl) (by decide) rfl h_36 ⟨by decide, by decide⟩ (fun c_39 => ?_) (fun c_39 => ?_)
        · refine g_iload_n (n := 52) hx 1 (dq tX3_reads 27 rfl) rfl rfl ?_
          refine g_bipush (n := 54) hx (dq tX3_reads 28 rfl) rfl (by decide) ?_
          refine g_icmp_eq (n := 57) (t := 66) hx (dq tX3_reads 29 rfl) (by decide) rfl ⟨by omega, by omega⟩ ⟨by decide, by decide⟩ (fun c_40 => ?_) (fun c_40 => ?_)
          · refine g_aload_n (n := 67) hx 2 (dq tX3_reads 35 rfl) rfl rfl ?_
            refine g_getR (n := 70) hx glX3_18 (sX3_1 (by decide)) (dq tX3_reads 36 rfl) rfl ?_
            refine g_iconst (n := 71) hx (dq tX3_reads 37 rfl) rfl ?_
            refine g_callVi (n := 74) (As := [vI 4]) (rest := []) hx (ctX7_fails Γ M_25 4 (by decide) (by decide)) mlX3_40 (obX7 (by decide)) (dq tX3_reads 38 rfl) rfl (Nat.le_of_ble_eq_true rfl) (Nat.le_of_ble_eq_true rfl) (Nat.le_of_ble_eq_true rfl) rfl (fun z_41 M_42 h_43 p_44 => ?_)
            obtain ⟨f_45, h_46, h_47⟩ := p_44
            have g_48 : RvI M_42 := fun hf => RvOk.out (g_29 (absurd hf (by omega))) (fun u v h1 h2 => f_45 u v (by omega))
            have e_49 : M_42 10 1 = M_25 10 1 := (f_45 10 1 (by omega))
            have e_50 : M_42 10 3 = M_25 10 3 := (f_45 10 3 (by omega))
            have e_51 : M_42 10 2 = M_25 10 2 := (f_45 10 2 (by omega))
            exact g_zret hx hr (dq tX3_reads 39 rfl) (by omega) ⟨(fun u_ v_ huv_ => (((((f_45 u_ v_ (by omega)).trans (f_28 u_ v_ (by omega))).trans (f_21 u_ v_ (by omega))).trans (m_12 u_ v_ (by omega))).trans (f_5 u_ v_ (by omega)))), (by omega), (by omega), (fun hz0 => absurd hz0 (by omega))⟩
          · refine g_aload_n (n := 58) hx 2 (dq tX3_reads 30 rfl) rfl rfl ?_
            refine g_iload_n (n := 59) hx 0 (dq tX3_reads 31 rfl) rfl rfl ?_
            refine g_iload_n (n := 60) hx 1 (dq tX3_reads 32 rfl) rfl rfl ?_
            refine g_callVi (n := 63) (As := [vI z_34, vI i_24]) (rest := []) hx (ctX3_isTooMany Γ M_25 z_34 (by omega) (by omega) i_24 (by omega) (by omega)) mlX3_44 (obX3 (by decide)) (dq tX3_reads 33 rfl) rfl (Nat.le_of_ble_eq_true rfl) (Nat.le_of_ble_eq_true rfl) (Nat.le_of_ble_eq_true rfl) rfl (fun z_52 M_53 h_54 p_55 => ?_)
            obtain ⟨rfl, b_57, h_58⟩ := p_55
            refine g_if_eq (n := 66) (t := 75) hx (dq tX3_reads 34 rfl) (by decide) rfl h_54 (fun c_59 => ?_) (fun c_59 => ?_)
            · clear b_57
              refine g_aload_n (n := 76) hx 2 (dq tX3_reads 40 rfl) rfl rfl ?_
              refine g_getR (n := 79) hx glX3_18 (sX3_1 (by decide)) (dq tX3_reads 41 rfl) rfl ?_
              refine g_callVv (n := 82) (As := []) (rest := []) hx (ctX7_pass Γ M_25 ) mlX3_48 (obX7 (by decide)) (dq tX3_reads 42 rfl) rfl (Nat.le_of_ble_eq_true rfl) (Nat.le_of_ble_eq_true rfl) (Nat.le_of_ble_eq_true rfl) rfl (fun M_61 p_63 => ?_)
              have f_64 := p_63
              have g_65 : RvI M_61 := fun hf => RvOk.out (g_29 ((f_64 7 5 (by omega)).symm.trans hf)) (fun u v h1 h2 => f_64 u v (by omega))
              refine g_aload_n (n := 83) hx 2 (dq tX3_reads 43 rfl) rfl rfl ?_
              refine g_iload_n (n := 84) hx 0 (dq tX3_reads 44 rfl) rfl rfl ?_
              have e_66 : M_61 10 1 = M_25 10 1 := (f_64 10 1 (by omega))
              have e_67 : M_61 10 3 = M_25 10 3 := (f_64 10 3 (by omega))
              have e_68 : M_61 7 5 = M_25 7 5 := (f_64 7 5 (by omega))
              have e_69 : M_61 10 2 = M_25 10 2 := (f_64 10 2 (by omega))
              refine g_callVi (n := 87) (As := [vI z_34]) (rest := []) hx (ctX3_readsClause Γ M_61 z_34 (by omega) (by omega) (Fit.go (h_58 (by omega)) (f_64 10 1 (by omega)) (f_64 10 2 (by omega)) (f_64 10 3 (by omega))) g_65) mlX3_51 (obX3 (by decide)) (dq tX3_reads 45 rfl) rfl (Nat.le_of_ble_eq_true rfl) (Nat.le_of_ble_eq_true rfl) (Nat.le_of_ble_eq_true rfl) rfl (fun z_70 M_71 h_72 p_73 => ?_)
              obtain ⟨f_74, g_75, b_76, h_77⟩ := p_73
              refine g_if_ne (n := 90) (t := 92) hx (dq tX3_reads 46 rfl) (by decide) rfl h_72 (fun c_78 => ?_) (fun c_78 => ?_)
              · have b_76 := b_76.resolve_left c_78
                obtain ⟨-⟩ := b_76
                refine g_aload_n (n := 93) hx 2 (dq tX3_reads 49 rfl) rfl rfl ?_
                refine g_getR (n := 96) hx glX3_18 (sX3_1 (by decide)) (dq tX3_reads 50 rfl) rfl ?_
                refine g_getI (n := 99) hx glX3_54 (sX7_4 (by decide)) (dq tX3_reads 51 rfl) rfl (fun h_79l h_79u => ?_)
                refine g_iconst (n := 100) hx (dq tX3_reads 52 rfl) rfl ?_
                refine g_icmp_ne (n := 103) (t := 105) hx (dq tX3_reads 53 rfl) (by decide) rfl (zrI h_79l h_79u (by decide) (by decide)) ⟨by decide, by decide⟩ (fun c_80 => ?_) (fun c_80 => ?_)
                · refine g_aload_n (n := 106) hx 2 (dq tX3_reads 56 rfl) rfl rfl ?_
                  refine g_getR (n := 109) hx glX3_18 (sX3_1 (by decide)) (dq tX3_reads 57 rfl) rfl ?_
                  refine g_getI (n := 112) hx glX3_54 (sX7_4 (by decide)) (dq tX3_reads 58 rfl) rfl (fun h_81l h_81u => ?_)
                  refine g_bipush (n := 114) hx (dq tX3_reads 59 rfl) rfl (by decide) ?_
                  refine g_icmp_eq (n := 117) (t := 126) hx (dq tX3_reads 60 rfl) (by decide) rfl (zrI h_81l h_81u (by decide) (by decide)) ⟨by decide, by decide⟩ (fun c_82 => ?_) (fun c_82 => ?_)
                  · refine g_aload_n (n := 127) hx 2 (dq tX3_reads 66 rfl) rfl rfl ?_
                    refine g_getR (n := 130) hx glX3_18 (sX3_1 (by decide)) (dq tX3_reads 67 rfl) rfl ?_
                    refine g_callVv (n := 133) (As := []) (rest := []) hx (ctX7_pass Γ M_71 ) mlX3_48 (obX7 (by decide)) (dq tX3_reads 68 rfl) rfl (Nat.le_of_ble_eq_true rfl) (Nat.le_of_ble_eq_true rfl) (Nat.le_of_ble_eq_true rfl) rfl (fun M_84 p_86 => ?_)
                    have f_87 := p_86
                    have g_88 : RvI M_84 := fun hf => RvOk.out (g_75 ((f_87 7 5 (by omega)).symm.trans hf)) (fun u v h1 h2 => f_87 u v (by omega))
                    refine g_iinc (n := 136) (lv' := [(1, vI (i_24 + 1)), (2, vI z_34), (0, aR Γ 9)]) hx 1 (dq tX3_reads 69 rfl) rfl (by decide) rfl rfl ?_
                    refine g_goto (n := 21) hx (dq tX3_reads 70 rfl) (by decide) ?_
                    refine g_lv [0, 2] rfl ?_
                    exact ih_27 _ (by omega) (i_24 + 1) M_84 (by omega) (by omega) (fun u_ v_ huv_ => ((((f_87 u_ v_ (by omega)).trans (f_74 u_ v_ (by omega))).trans (f_64 u_ v_ (by omega))).trans (f_28 u_ v_ (by omega)))) g_88 rfl
                  · refine g_aload_n (n := 118) hx 2 (dq tX3_reads 61 rfl) rfl rfl ?_
                    refine g_getR (n := 121) hx glX3_18 (sX3_1 (by decide)) (dq tX3_reads 62 rfl) rfl ?_
                    refine g_iconst (n := 122) hx (dq tX3_reads 63 rfl) rfl ?_
                    refine g_callVi (n := 125) (As := [vI 0]) (rest := []) hx (ctX7_fails Γ M_71 0 (by decide) (by decide)) mlX3_40 (obX7 (by decide)) (dq tX3_reads 64 rfl) rfl (Nat.le_of_ble_eq_true rfl) (Nat.le_of_ble_eq_true rfl) (Nat.le_of_ble_eq_true rfl) rfl (fun z_89 M_90 h_91 p_92 => ?_)
                    obtain ⟨f_93, h_94, h_95⟩ := p_92
                    have g_96 : RvI M_90 := fun hf => RvOk.out (g_75 (absurd hf (by omega))) (fun u v h1 h2 => f_93 u v (by omega))
                    have e_97 : M_90 10 1 = M_71 10 1 := (f_93 10 1 (by omega))
                    have e_98 : M_90 10 3 = M_71 10 3 := (f_93 10 3 (by omega))
                    have e_99 : M_90 10 2 = M_71 10 2 := (f_93 10 2 (by omega))
                    exact g_zret hx hr (dq tX3_reads 65 rfl) (by omega) ⟨(fun u_ v_ huv_ => (((((((f_93 u_ v_ (by omega)).trans (f_74 u_ v_ (by omega))).trans (f_64 u_ v_ (by omega))).trans (f_28 u_ v_ (by omega))).trans (f_21 u_ v_ (by omega))).trans (m_12 u_ v_ (by omega))).trans (f_5 u_ v_ (by omega)))), (by omega), (by omega), (fun hz0 => absurd hz0 (by omega))⟩
                · refine g_iconst (n := 104) hx (dq tX3_reads 54 rfl) rfl ?_
                  exact g_zret hx hr (dq tX3_reads 55 rfl) (by omega) ⟨(fun u_ v_ huv_ => ((((((f_74 u_ v_ (by omega)).trans (f_64 u_ v_ (by omega))).trans (f_28 u_ v_ (by omega))).trans (f_21 u_ v_ (by omega))).trans (m_12 u_ v_ (by omega))).trans (f_5 u_ v_ (by omega)))), (by omega), (by omega), (fun _ => g_75 (by omega))⟩
              · clear b_76
                refine g_iconst (n := 91) hx (dq tX3_reads 47 rfl) rfl ?_
                exact g_zret hx hr (dq tX3_reads 48 rfl) (by omega) ⟨(fun u_ v_ huv_ => ((((((f_74 u_ v_ (by omega)).trans (f_64 u_ v_ (by omega))).trans (f_28 u_ v_ (by omega))).trans (f_21 u_ v_ (by omega))).trans (m_12 u_ v_ (by omega))).trans (f_5 u_ v_ (by omega)))), (by omega), (by omega), (fun hz0 => absurd hz0 (by omega))⟩
            · have b_57 := b_57.resolve_left c_59
              obtain ⟨-⟩ := b_57
              refine g_aload_n (n := 67) hx 2 (dq tX3_reads 35 rfl) rfl rfl ?_
              refine g_getR (n := 70) hx glX3_18 (sX3_1 (by decide)) (dq tX3_reads 36 rfl) rfl ?_
              refine g_iconst (n := 71) hx (dq tX3_reads 37 rfl) rfl ?_
              refine g_callVi (n := 74) (As := [vI 4]) (rest := []) hx (ctX7_fails Γ M_25 4 (by decide) (by decide)) mlX3_40 (obX7 (by decide)) (dq tX3_reads 38 rfl) rfl (Nat.le_of_ble_eq_true rfl) (Nat.le_of_ble_eq_true rfl) (Nat.le_of_ble_eq_true rfl) rfl (fun z_100 M_101 h_102 p_103 => ?_)
              obtain ⟨f_104, h_105, h_106⟩ := p_103
              have g_107 : RvI M_101 := fun hf => RvOk.out (g_29 (absurd hf (by omega))) (fun u v h1 h2 => f_104 u v (by omega))
              have e_108 : M_101 10 1 = M_25 10 1 := (f_104 10 1 (by omega))
              have e_109 : M_101 10 3 = M_25 10 3 := (f_104 10 3 (by omega))
              have e_110 : M_101 10 2 = M_25 10 2 := (f_104 10 2 (by omega))
              exact g_zret hx hr (dq tX3_reads 39 rfl) (by omega) ⟨(fun u_ v_ huv_ => (((((f_104 u_ v_ (by omega)).trans (f_28 u_ v_ (by omega))).trans (f_21 u_ v_ (by omega))).trans (m_12 u_ v_ (by omega))).trans (f_5 u_ v_ (by omega)))), (by omega), (by omega), (fun hz0 => absurd hz0 (by omega))⟩
        · refine g_aload_n (n := 43) hx 2 (dq tX3_reads 22 rfl) rfl rfl ?_
          refine g_getR (n := 46) hx glX3_18 (sX3_1 (by decide)) (dq tX3_reads 23 rfl) rfl ?_
          refine g_iconst (n := 47) hx (dq tX3_reads 24 rfl) rfl ?_
          refine g_callVi (n := 50) (As := [vI 0]) (rest := []) hx (ctX7_fails Γ M_25 0 (by decide) (by decide)) mlX3_40 (obX7 (by decide)) (dq tX3_reads 25 rfl) rfl (Nat.le_of_ble_eq_true rfl) (Nat.le_of_ble_eq_true rfl) (Nat.le_of_ble_eq_true rfl) rfl (fun z_111 M_112 h_113 p_114 => ?_)
          obtain ⟨f_115, h_116, h_117⟩ := p_114
          have g_118 : RvI M_112 := fun hf => RvOk.out (g_29 (absurd hf (by omega))) (fun u v h1 h2 => f_115 u v (by omega))
          have e_119 : M_112 10 1 = M_25 10 1 := (f_115 10 1 (by omega))
          have e_120 : M_112 10 3 = M_25 10 3 := (f_115 10 3 (by omega))
          have e_121 : M_112 10 2 = M_25 10 2 := (f_115 10 2 (by omega))
          exact g_zret hx hr (dq tX3_reads 26 rfl) (by omega) ⟨(fun u_ v_ huv_ => (((((f_115 u_ v_ (by omega)).trans (f_28 u_ v_ (by omega))).trans (f_21 u_ v_ (by omega))).trans (m_12 u_ v_ (by omega))).trans (f_5 u_ v_ (by omega)))), (by omega), (by omega), (fun hz0 => absurd hz0 (by omega))⟩
  exact L_26 _ 0 M_18 (by omega) (by omega) (fun _ _ _ => rfl) g_23 rfl

abbrev qctX9_feed (M : zM) (p : Int) (q : Int) (t : Int) (u : Int) (v : Int) (z : Int) (M' : zM) : Prop := (∀ u_ v_, (u_ ≠ 7 ∨ v_ ≠ 1) ∧ u_ ≠ 7 + 1 → M' u_ v_ = M u_ v_) ∧ Gd M' 37 (45 + 1)
set_option maxHeartbeats 4000000 in
set_option maxRecDepth 100000 in
theorem ctX9_feed (Γ : Gam) (M : zM) (p : Int) (hpl : (-2147483648) ≤ p) (hpu : p ≤ 2147483647) (q : Int) (hql : (-2147483648) ≤ q) (hqu : q ≤ 2147483647) (t : Int) (htl : (-2147483648) ≤ t) (htu : t ≤ 2147483647) (u : Int) (hul : (-2147483648) ≤ u) (huu : u ≤ 2147483647) (v : Int) (hvl : (-2147483648) ≤ v) (hvu : v ≤ 2147483647) (gd0 : Gd M 37 (45 + 1)) : CtI Γ yX9_feed cX9_feed 6 (some .int) 1 22 [aR Γ 0, vI p, vI q, vI t, vI u, vI v] M (qctX9_feed M p q t u v) := by
  refine met_i (by decide) (Nat.le_of_ble_eq_true rfl) (fun x hx hr => ?_)
  show G Γ x 6 (QI Γ x (qctX9_feed M p q t u v)) M 0 [(0, aR Γ 0), (1, vI p), (2, vI q), (3, vI t), (4, vI u), (5, vI v)] []
  refine g_aload_n (n := 1) hx 0 (dq tX9_feed 0 rfl) rfl rfl ?_
  refine g_getR (n := 4) hx glX9_10 (sX9_0 (by decide)) (dq tX9_feed 1 rfl) rfl ?_
  refine g_getI (n := 7) hx glX9_78 (sX7_1 (by decide)) (dq tX9_feed 2 rfl) rfl (fun h_1l h_1u => ?_)
  refine g_bipush (n := 9) hx (dq tX9_feed 3 rfl) rfl (by decide) ?_
  refine g_iadd (n := 10) hx (dq tX9_feed 4 rfl) rfl ?_
  refine g_sipush (n := 13) hx (dq tX9_feed 5 rfl) rfl (by decide) ?_
  refine g_icmp_le (n := 16) (t := 18) hx (dq tX9_feed 6 rfl) (by decide) rfl ⟨by omega, by omega⟩ ⟨by decide, by decide⟩ (fun c_2 => ?_) (fun c_2 => ?_)
  · refine g_aload_n (n := 19) hx 0 (dq tX9_feed 9 rfl) rfl rfl ?_
    refine g_getR (n := 22) hx glX9_10 (sX9_0 (by decide)) (dq tX9_feed 10 rfl) rfl ?_
    refine g_iload_n (n := 23) hx 1 (dq tX9_feed 11 rfl) rfl rfl ?_
    refine g_callVv (n := 26) (As := [vI p]) (rest := []) hx (ctX7_append Γ M p (by omega) (by omega)) mlX9_82 (obX7 (by decide)) (dq tX9_feed 12 rfl) rfl (Nat.le_of_ble_eq_true rfl) (Nat.le_of_ble_eq_true rfl) (Nat.le_of_ble_eq_true rfl) rfl (fun M_4 p_6 => ?_)
    have f_7 := p_6
    have g_8 : Gd M_4 37 (45 + 1) := Gd.frame gd0 (fun c j hcj => f_7 c j (by omega))
    refine g_aload_n (n := 27) hx 0 (dq tX9_feed 13 rfl) rfl rfl ?_
    refine g_getR (n := 30) hx glX9_10 (sX9_0 (by decide)) (dq tX9_feed 14 rfl) rfl ?_
    refine g_iload_n (n := 31) hx 2 (dq tX9_feed 15 rfl) rfl rfl ?_
    have e_9 : M_4 37 1 = M 37 1 := (f_7 37 1 (by omega))
    have e_10 : M_4 37 3 = M 37 3 := (f_7 37 3 (by omega))
    refine g_callVv (n := 34) (As := [vI q]) (rest := []) hx (ctX7_append Γ M_4 q (by omega) (by omega)) mlX9_82 (obX7 (by decide)) (dq tX9_feed 16 rfl) rfl (Nat.le_of_ble_eq_true rfl) (Nat.le_of_ble_eq_true rfl) (Nat.le_of_ble_eq_true rfl) rfl (fun M_12 p_14 => ?_)
    have f_15 := p_14
    have g_16 : Gd M_12 37 (45 + 1) := Gd.frame g_8 (fun c j hcj => f_15 c j (by omega))
    refine g_aload_n (n := 35) hx 0 (dq tX9_feed 17 rfl) rfl rfl ?_
    refine g_getR (n := 38) hx glX9_10 (sX9_0 (by decide)) (dq tX9_feed 18 rfl) rfl ?_
    refine g_iload_n (n := 39) hx 3 (dq tX9_feed 19 rfl) rfl rfl ?_
    have e_17 : M_12 37 1 = M_4 37 1 := (f_15 37 1 (by omega))
    have e_18 : M_12 37 3 = M_4 37 3 := (f_15 37 3 (by omega))
    refine g_callVv (n := 42) (As := [vI t]) (rest := []) hx (ctX7_append Γ M_12 t (by omega) (by omega)) mlX9_82 (obX7 (by decide)) (dq tX9_feed 20 rfl) rfl (Nat.le_of_ble_eq_true rfl) (Nat.le_of_ble_eq_true rfl) (Nat.le_of_ble_eq_true rfl) rfl (fun M_20 p_22 => ?_)
    have f_23 := p_22
    have g_24 : Gd M_20 37 (45 + 1) := Gd.frame g_16 (fun c j hcj => f_23 c j (by omega))
    refine g_aload_n (n := 43) hx 0 (dq tX9_feed 21 rfl) rfl rfl ?_
    refine g_getR (n := 46) hx glX9_10 (sX9_0 (by decide)) (dq tX9_feed 22 rfl) rfl ?_
    refine g_iload (n := 48) hx 4 (dq tX9_feed 23 rfl) rfl rfl ?_
    have e_25 : M_20 37 1 = M_12 37 1 := (f_23 37 1 (by omega))
    have e_26 : M_20 37 3 = M_12 37 3 := (f_23 37 3 (by omega))
    refine g_callVv (n := 51) (As := [vI u]) (rest := []) hx (ctX7_append Γ M_20 u (by omega) (by omega)) mlX9_82 (obX7 (by decide)) (dq tX9_feed 24 rfl) rfl (Nat.le_of_ble_eq_true rfl) (Nat.le_of_ble_eq_true rfl) (Nat.le_of_ble_eq_true rfl) rfl (fun M_28 p_30 => ?_)
    have f_31 := p_30
    have g_32 : Gd M_28 37 (45 + 1) := Gd.frame g_24 (fun c j hcj => f_31 c j (by omega))
    refine g_aload_n (n := 52) hx 0 (dq tX9_feed 25 rfl) rfl rfl ?_
    refine g_getR (n := 55) hx glX9_10 (sX9_0 (by decide)) (dq tX9_feed 26 rfl) rfl ?_
    refine g_iload (n := 57) hx 5 (dq tX9_feed 27 rfl) rfl rfl ?_
    have e_33 : M_28 37 1 = M_20 37 1 := (f_31 37 1 (by omega))
    have e_34 : M_28 37 3 = M_20 37 3 := (f_31 37 3 (by omega))
    refine g_callVv (n := 60) (As := [vI v]) (rest := []) hx (ctX7_append Γ M_28 v (by omega) (by omega)) mlX9_82 (obX7 (by decide)) (dq tX9_feed 28 rfl) rfl (Nat.le_of_ble_eq_true rfl) (Nat.le_of_ble_eq_true rfl) (Nat.le_of_ble_eq_true rfl) rfl (fun M_36 p_38 => ?_)
    have f_39 := p_38
    have g_40 : Gd M_36 37 (45 + 1) := Gd.frame g_32 (fun c j hcj => f_39 c j (by omega))
    refine g_aload_n (n := 61) hx 0 (dq tX9_feed 29 rfl) rfl rfl ?_
    refine g_getR (n := 64) hx glX9_10 (sX9_0 (by decide)) (dq tX9_feed 30 rfl) rfl ?_
    refine g_getI (n := 67) hx glX9_78 (sX7_1 (by decide)) (dq tX9_feed 31 rfl) rfl (fun h_41l h_41u => ?_)
    have e_42 : M_36 37 1 = M_28 37 1 := (f_39 37 1 (by omega))
    have e_43 : M_36 37 3 = M_28 37 3 := (f_39 37 3 (by omega))
    exact g_iret hx hr (dq tX9_feed 32 rfl) (zrI h_41l h_41u (by decide) (by decide)) ⟨(fun u_ v_ huv_ => (((((f_39 u_ v_ (by omega)).trans (f_31 u_ v_ (by omega))).trans (f_23 u_ v_ (by omega))).trans (f_15 u_ v_ (by omega))).trans (f_7 u_ v_ (by omega)))), g_40⟩
  · refine g_iconst (n := 17) hx (dq tX9_feed 7 rfl) rfl ?_
    exact g_iret hx hr (dq tX9_feed 8 rfl) ⟨by decide, by decide⟩ ⟨(fun _ _ _ => rfl), gd0⟩

abbrev qctX9_end (M : zM) (n : Int) (z : Int) (M' : zM) : Prop := (∀ u_ v_, (u_ ≠ 7 ∨ v_ ≠ 1) → M' u_ v_ = M u_ v_) ∧ Gd M' 37 (45 + 1)
set_option maxHeartbeats 4000000 in
set_option maxRecDepth 100000 in
theorem ctX9_end (Γ : Gam) (M : zM) (n : Int) (hnl : (-2147483648) ≤ n) (hnu : n ≤ 2147483647) (gd0 : Gd M 37 (45 + 1)) : CtI Γ yX9_end cX9_end 2 (some .int) 0 0 [aR Γ 0, vI n] M (qctX9_end M n) := by
  refine met_i (by decide) (Nat.le_of_ble_eq_true rfl) (fun x hx hr => ?_)
  show G Γ x 2 (QI Γ x (qctX9_end M n)) M 0 [(0, aR Γ 0), (1, vI n)] []
  refine g_iload_n (n := 1) hx 1 (dq tX9_end 0 rfl) rfl rfl ?_
  refine g_if_lt (n := 4) (t := 15) hx (dq tX9_end 1 rfl) (by decide) rfl (zrI hnl hnu (by decide) (by decide)) (fun c_1 => ?_) (fun c_1 => ?_)
  · refine g_iconst (n := 16) hx (dq tX9_end 7 rfl) rfl ?_
    exact g_iret hx hr (dq tX9_end 8 rfl) ⟨by decide, by decide⟩ ⟨(fun _ _ _ => rfl), gd0⟩
  · refine g_iload_n (n := 5) hx 1 (dq tX9_end 2 rfl) rfl rfl ?_
    refine g_aload_n (n := 6) hx 0 (dq tX9_end 3 rfl) rfl rfl ?_
    refine g_getR (n := 9) hx glX9_10 (sX9_0 (by decide)) (dq tX9_end 4 rfl) rfl ?_
    refine g_getI (n := 12) hx glX9_78 (sX7_1 (by decide)) (dq tX9_end 5 rfl) rfl (fun h_2l h_2u => ?_)
    refine g_icmp_le (n := 15) (t := 17) hx (dq tX9_end 6 rfl) (by decide) rfl (zrI hnl hnu (by decide) (by decide)) (zrI h_2l h_2u (by decide) (by decide)) (fun c_3 => ?_) (fun c_3 => ?_)
    · refine g_aload_n (n := 18) hx 0 (dq tX9_end 9 rfl) rfl rfl ?_
      refine g_getR (n := 21) hx glX9_10 (sX9_0 (by decide)) (dq tX9_end 10 rfl) rfl ?_
      refine g_iload_n (n := 22) hx 1 (dq tX9_end 11 rfl) rfl rfl ?_
      refine g_putI (n := 25) hx plX9_78 (sX7_1 (by decide)) (dq tX9_end 12 rfl) rfl (by omega) (by omega) (fun M_4 m_5e m_5 => ?_)
      have g_6 : Gd M_4 37 (45 + 1) := Gd.frame gd0 (fun c j hcj => m_5 c j (by omega))
      refine g_iload_n (n := 26) hx 1 (dq tX9_end 13 rfl) rfl rfl ?_
      have e_7 : M_4 37 1 = M 37 1 := (m_5 37 1 (by omega))
      have e_8 : M_4 37 3 = M 37 3 := (m_5 37 3 (by omega))
      exact g_iret hx hr (dq tX9_end 14 rfl) (zrI hnl hnu (by decide) (by decide)) ⟨(fun u_ v_ huv_ => (m_5 u_ v_ (by omega))), g_6⟩
    · refine g_iconst (n := 16) hx (dq tX9_end 7 rfl) rfl ?_
      exact g_iret hx hr (dq tX9_end 8 rfl) ⟨by decide, by decide⟩ ⟨(fun _ _ _ => rfl), gd0⟩

abbrev qctX9_river (M : zM)  (z : Int) (M' : zM) : Prop := (∀ u_ v_, (u_ < 0 ∨ 0 + 56 ≤ u_) ∧ (u_ ≠ 45 + 11 ∨ v_ ≠ 1) ∧ (u_ ≠ 45 + 11 ∨ v_ ≠ 4) ∧ (u_ ≠ 45 + 11 ∨ v_ ≠ 6) ∧ (u_ ≠ 45 + 11 ∨ v_ ≠ 11) ∧ (u_ < 0 + 57 ∨ 0 + 101 ≤ u_) → M' u_ v_ = M u_ v_) ∧ Gd M' 37 (45 + 1)
set_option maxHeartbeats 4000000 in
set_option maxRecDepth 100000 in
theorem ctX9_river (Γ : Gam) (M : zM)  (gd0 : Gd M 37 (45 + 1)) : CtI Γ yX9_river cX9_river 2 (some .int) 6 132 [aR Γ 0] M (qctX9_river M) := by
  refine met_i (by decide) (Nat.le_of_ble_eq_true rfl) (fun x hx hr => ?_)
  show G Γ x 2 (QI Γ x (qctX9_river M)) M 0 [(0, aR Γ 0)] []
  refine g_aload_n (n := 1) hx 0 (dq tX9_river 0 rfl) rfl rfl ?_
  refine g_getR (n := 4) hx glX9_21 (sX9_1 (by decide)) (dq tX9_river 1 rfl) rfl ?_
  refine g_callVi (n := 7) (As := []) (rest := []) hx (ctX3_reads Γ M ) mlX9_86 (obX3 (by decide)) (dq tX9_river 2 rfl) rfl (Nat.le_of_ble_eq_true rfl) (Nat.le_of_ble_eq_true rfl) (Nat.le_of_ble_eq_true rfl) rfl (fun z_1 M_2 h_3 p_4 => ?_)
  obtain ⟨f_5, b_6, h_7, h_8⟩ := p_4
  have g_9 : Gd M_2 37 (45 + 1) := Gd.frame gd0 (fun c j hcj => f_5 c j (by omega))
  refine g_istore_n (n := 8) (lv' := [(1, vI z_1), (0, aR Γ 0)]) hx (dq tX9_river 3 rfl) (by decide) rfl rfl ?_
  refine g_aload_n (n := 9) hx 1 (dq tX9_river 4 rfl) rfl rfl ?_
  refine g_getR (n := 12) hx glX9_10 (sX9_0 (by decide)) (dq tX9_river 5 rfl) rfl ?_
  refine g_iconst (n := 13) hx (dq tX9_river 6 rfl) rfl ?_
  have e_10 : M_2 37 1 = M 37 1 := (f_5 37 1 (by omega))
  have e_11 : M_2 37 3 = M 37 3 := (f_5 37 3 (by omega))
  refine g_putI (n := 16) hx plX9_78 (sX7_1 (by decide)) (dq tX9_river 7 rfl) rfl (by omega) (by omega) (fun M_12 m_13e m_13 => ?_)
  have g_14 : Gd M_12 37 (45 + 1) := Gd.frame g_9 (fun c j hcj => m_13 c j (by omega))
  refine g_iload_n (n := 17) hx 0 (dq tX9_river 8 rfl) rfl rfl ?_
  refine g_if_ne (n := 20) (t := 31) hx (dq tX9_river 9 rfl) (by decide) rfl h_3 (fun c_15 => ?_) (fun c_15 => ?_)
  · have b_6 := b_6.resolve_left c_15
    obtain ⟨-⟩ := b_6
    refine g_aload_n (n := 32) hx 1 (dq tX9_river 16 rfl) rfl rfl ?_
    refine g_getR (n := 35) hx glX9_47 (sX9_5 (by decide)) (dq tX9_river 17 rfl) rfl ?_
    refine g_getR (n := 38) hx glX9_51 (sX8_0 (by decide)) (dq tX9_river 18 rfl) rfl ?_
    refine g_aload_n (n := 39) hx 1 (dq tX9_river 19 rfl) rfl rfl ?_
    refine g_getR (n := 42) hx glX9_21 (sX9_1 (by decide)) (dq tX9_river 20 rfl) rfl ?_
    refine g_getR (n := 45) hx glX9_93 (sX3_0 (by decide)) (dq tX9_river 21 rfl) rfl ?_
    refine g_iv (fun hI0 => ?_)
    have hv1 : M_12 10 1 ≤ 6 := (ivI hI0 (sX2_1 (by decide))).2
    have hv3 : M_12 10 3 ≤ 12 := (ivI hI0 (sX2_3 (by decide))).2
    have e_16 : M_12 37 1 = M_2 37 1 := (m_13 37 1 (by omega))
    have e_17 : M_12 37 3 = M_2 37 3 := (m_13 37 3 (by omega))
    refine g_callVv (n := 48) (As := [aR Γ 10]) (rest := []) hx (ctX2_copy Γ M_12 37 (by decide) 10 (by decide) (by omega)) mlX9_96 (obX2 (by decide)) (dq tX9_river 22 rfl) rfl (Nat.le_of_ble_eq_true rfl) (Nat.le_of_ble_eq_true rfl) (Nat.le_of_ble_eq_true rfl) rfl (fun M_19 p_21 => ?_)
    obtain ⟨f_22, h_23, h_24, h_25, h_26, h_27, h_28, h_29, h_30, h_31, h_32, h_33, h_34⟩ := p_21
    refine g_aload_n (n := 49) hx 1 (dq tX9_river 23 rfl) rfl rfl ?_
    refine g_getR (n := 52) hx glX9_47 (sX9_5 (by decide)) (dq tX9_river 24 rfl) rfl ?_
    refine g_getR (n := 55) hx glX9_100 (sX8_1 (by decide)) (dq tX9_river 25 rfl) rfl ?_
    refine g_aload_n (n := 56) hx 1 (dq tX9_river 26 rfl) rfl rfl ?_
    refine g_getR (n := 59) hx glX9_47 (sX9_5 (by decide)) (dq tX9_river 27 rfl) rfl ?_
    refine g_getR (n := 62) hx glX9_51 (sX8_0 (by decide)) (dq tX9_river 28 rfl) rfl ?_
    refine g_callVv (n := 65) (As := [aR Γ 37]) (rest := []) hx (ctX6_start Γ M_19 (45 + 1) (iX8_1 (by decide)) 37 (by decide) (by omega) (RvOk.copy (RvOk.out (h_8 (by omega)) (fun u v h1 h2 => (m_13 u v (by omega)))) hv1 hv3 h_24 h_26 h_28 h_31 h_34)) mlX9_104 (obX6 (iX8_1 (by decide))) (dq tX9_river 29 rfl) rfl (Nat.le_of_ble_eq_true rfl) (Nat.le_of_ble_eq_true rfl) (Nat.le_of_ble_eq_true rfl) rfl (fun M_37 p_39 => ?_)
    obtain ⟨f_40, h_41⟩ := p_39
    refine g_aload_n (n := 66) hx 1 (dq tX9_river 30 rfl) rfl rfl ?_
    refine g_getR (n := 69) hx glX9_47 (sX9_5 (by decide)) (dq tX9_river 31 rfl) rfl ?_
    refine g_getR (n := 72) hx glX9_109 (sX8_2 (by decide)) (dq tX9_river 32 rfl) rfl ?_
    have e_42 : M_37 37 1 = M_19 37 1 := (f_40 37 1 (by omega))
    have e_43 : M_37 37 3 = M_19 37 3 := (f_40 37 3 (by omega))
    refine g_callVv (n := 75) (As := []) (rest := []) hx (ctX0_start Γ M_37 (45 + 11) (iX8_2 (by decide))) mlX9_113 (obX0 (iX8_2 (by decide))) (dq tX9_river 33 rfl) rfl (Nat.le_of_ble_eq_true rfl) (Nat.le_of_ble_eq_true rfl) (Nat.le_of_ble_eq_true rfl) rfl (fun M_45 p_47 => ?_)
    have f_48 := p_47
    have g_49 : Gd M_45 37 (45 + 1) := Gd.frame h_41 (fun c j hcj => f_48 c j (by omega))
    refine g_aload_n (n := 76) hx 1 (dq tX9_river 34 rfl) rfl rfl ?_
    refine g_getR (n := 79) hx glX9_47 (sX9_5 (by decide)) (dq tX9_river 35 rfl) rfl ?_
    refine g_getR (n := 82) hx glX9_51 (sX8_0 (by decide)) (dq tX9_river 36 rfl) rfl ?_
    refine g_getI (n := 85) hx glX9_117 (sX2_3 (by decide)) (dq tX9_river 37 rfl) rfl (fun h_50l h_50u => ?_)
    have e_51 : M_45 37 3 = M_37 37 3 := (f_48 37 3 (by omega))
    have e_52 : M_45 37 1 = M_37 37 1 := (f_48 37 1 (by omega))
    exact g_iret hx hr (dq tX9_river 38 rfl) (zrI h_50l h_50u (by decide) (by decide)) ⟨(fun u_ v_ huv_ => (((((f_48 u_ v_ (by omega)).trans (f_40 u_ v_ (by omega))).trans (f_22 u_ v_ (by omega))).trans (m_13 u_ v_ (by omega))).trans (f_5 u_ v_ (by omega)))), g_49⟩
  · clear b_6
    refine g_bipush (n := 22) hx (dq tX9_river 10 rfl) rfl (by decide) ?_
    refine g_aload_n (n := 23) hx 1 (dq tX9_river 11 rfl) rfl rfl ?_
    refine g_getR (n := 26) hx glX9_10 (sX9_0 (by decide)) (dq tX9_river 12 rfl) rfl ?_
    refine g_getI (n := 29) hx glX9_90 (sX7_5 (by decide)) (dq tX9_river 13 rfl) rfl (fun h_53l h_53u => ?_)
    refine g_isub (n := 30) hx (dq tX9_river 14 rfl) rfl ?_
    have e_54 : M_12 37 1 = M_2 37 1 := (m_13 37 1 (by omega))
    have e_55 : M_12 37 3 = M_2 37 3 := (m_13 37 3 (by omega))
    exact g_iret hx hr (dq tX9_river 15 rfl) ⟨by omega, by omega⟩ ⟨(fun u_ v_ huv_ => ((m_13 u_ v_ (by omega)).trans (f_5 u_ v_ (by omega)))), g_14⟩

abbrev qctX9_seed (M : zM) (v : Int) (z : Int) (M' : zM) : Prop := (∀ u_ v_, (u_ ≠ 45 + 11 ∨ v_ ≠ 0) → M' u_ v_ = M u_ v_) ∧ Gd M' 37 (45 + 1) ∧ (v < 0 → (z = -1 ∧ M' (45 + 11) 0 = M (45 + 11) 0)) ∧ (0 ≤ v → (z = M (45 + 11) 0 ∧ M' (45 + 11) 0 = v))
set_option maxHeartbeats 4000000 in
set_option maxRecDepth 100000 in
theorem ctX9_seed (Γ : Gam) (M : zM) (v : Int) (hvl : (-2147483648) ≤ v) (hvu : v ≤ 2147483647) (gd0 : Gd M 37 (45 + 1)) : CtI Γ yX9_seed cX9_seed 3 (some .int) 0 0 [aR Γ 0, vI v] M (qctX9_seed M v) := by
  refine met_i (by decide) (Nat.le_of_ble_eq_true rfl) (fun x hx hr => ?_)
  show G Γ x 3 (QI Γ x (qctX9_seed M v)) M 0 [(0, aR Γ 0), (1, vI v)] []
  refine g_iload_n (n := 1) hx 1 (dq tX9_seed 0 rfl) rfl rfl ?_
  refine g_if_ge (n := 4) (t := 6) hx (dq tX9_seed 1 rfl) (by decide) rfl (zrI hvl hvu (by decide) (by decide)) (fun c_1 => ?_) (fun c_1 => ?_)
  · refine g_aload_n (n := 7) hx 0 (dq tX9_seed 4 rfl) rfl rfl ?_
    refine g_getR (n := 10) hx glX9_47 (sX9_5 (by decide)) (dq tX9_seed 5 rfl) rfl ?_
    refine g_getR (n := 13) hx glX9_109 (sX8_2 (by decide)) (dq tX9_seed 6 rfl) rfl ?_
    refine g_getI (n := 16) hx glX9_387 (sX0_0 (iX8_2 (by decide))) (dq tX9_seed 7 rfl) rfl (fun h_2l h_2u => ?_)
    refine g_istore_n (n := 17) (lv' := [(2, vI (M (45 + 11) 0)), (0, aR Γ 0), (1, vI v)]) hx (dq tX9_seed 8 rfl) (by decide) rfl rfl ?_
    refine g_aload_n (n := 18) hx 1 (dq tX9_seed 9 rfl) rfl rfl ?_
    refine g_getR (n := 21) hx glX9_47 (sX9_5 (by decide)) (dq tX9_seed 10 rfl) rfl ?_
    refine g_getR (n := 24) hx glX9_109 (sX8_2 (by decide)) (dq tX9_seed 11 rfl) rfl ?_
    refine g_iload_n (n := 25) hx 2 (dq tX9_seed 12 rfl) rfl rfl ?_
    refine g_putI (n := 28) hx plX9_387 (sX0_0 (iX8_2 (by decide))) (dq tX9_seed 13 rfl) rfl (by omega) (by omega) (fun M_3 m_4e m_4 => ?_)
    have g_5 : Gd M_3 37 (45 + 1) := Gd.frame gd0 (fun c j hcj => m_4 c j (by omega))
    refine g_iload_n (n := 29) hx 0 (dq tX9_seed 14 rfl) rfl rfl ?_
    have e_6 : M_3 37 1 = M 37 1 := (m_4 37 1 (by omega))
    have e_7 : M_3 37 3 = M 37 3 := (m_4 37 3 (by omega))
    exact g_iret hx hr (dq tX9_seed 15 rfl) (zrI h_2l h_2u (by decide) (by decide)) ⟨(fun u_ v_ huv_ => (m_4 u_ v_ (by omega))), g_5, (by omega), (by omega)⟩
  · refine g_iconst (n := 5) hx (dq tX9_seed 2 rfl) rfl ?_
    exact g_iret hx hr (dq tX9_seed 3 rfl) ⟨by decide, by decide⟩ ⟨(fun _ _ _ => rfl), gd0, (by omega), (by omega)⟩

abbrev qctX9_image (M : zM) (k : Int) (z : Int) (M' : zM) : Prop := (∀ u_ v_, (u_ < 101 ∨ 101 + 128 ≤ u_) → M' u_ v_ = M u_ v_) ∧ Gd M' 37 (45 + 1) ∧ (∀ o : Nat, (o : Int) = 101 + 32 * k → 0 ≤ k → k < 4 → (M' o 0 = 1 ∧ M' (o + 19) 0 = M (45 + 11) 0 ∧ Gd M' (o + 1) (o + 9) ∧ ∀ u_ v_, (u_ < o ∨ o + 32 ≤ u_) → M' u_ v_ = M u_ v_)) ∧ ((k < 0 ∨ 4 ≤ k) → M = M')
set_option maxHeartbeats 4000000 in
set_option maxRecDepth 100000 in
theorem ctX9_image (Γ : Gam) (M : zM) (k : Int) (hkl : (-2147483648) ≤ k) (hku : k ≤ 2147483647) (gd0 : Gd M 37 (45 + 1)) : CtI Γ yX9_image cX9_image 2 (some .int) 4 123 [aR Γ 0, vI k] M (qctX9_image M k) := by
  refine met_i (by decide) (Nat.le_of_ble_eq_true rfl) (fun x hx hr => ?_)
  show G Γ x 2 (QI Γ x (qctX9_image M k)) M 0 [(0, aR Γ 0), (1, vI k)] []
  refine g_iload_n (n := 1) hx 1 (dq tX9_image 0 rfl) rfl rfl ?_
  refine g_if_lt (n := 4) (t := 9) hx (dq tX9_image 1 rfl) (by decide) rfl (zrI hkl hku (by decide) (by decide)) (fun c_1 => ?_) (fun c_1 => ?_)
  · refine g_iconst (n := 10) hx (dq tX9_image 5 rfl) rfl ?_
    exact g_iret hx hr (dq tX9_image 6 rfl) ⟨by decide, by decide⟩ ⟨(fun _ _ _ => rfl), gd0, (fun o ho hk0 hk4 => absurd hk4 (by omega)), (fun _ => rfl)⟩
  · refine g_iload_n (n := 5) hx 1 (dq tX9_image 2 rfl) rfl rfl ?_
    refine g_iconst (n := 6) hx (dq tX9_image 3 rfl) rfl ?_
    refine g_icmp_lt (n := 9) (t := 11) hx (dq tX9_image 4 rfl) (by decide) rfl (zrI hkl hku (by decide) (by decide)) ⟨by decide, by decide⟩ (fun c_2 => ?_) (fun c_2 => ?_)
    · refine g_aload_n (n := 12) hx 0 (dq tX9_image 7 rfl) rfl rfl ?_
      refine g_getR (n := 15) hx glX9_60 (sX9_7 (by decide)) (dq tX9_image 8 rfl) rfl ?_
      refine g_iload_n (n := 16) hx 1 (dq tX9_image 9 rfl) rfl rfl ?_
      refine g_aald (n := 17) (q := k.toNat) hx (aX9_7 (b := 0) (by decide)) (by decide) (dq tX9_image 10 rfl) rfl (by omega) (by omega) (by omega) rfl ?_
      refine g_named (c := zrf 2 k.toNat) (fun o_3 eo_3 => ?_)
      have o_4 : isX1 o_3 := by rw [eo_3]; exact zrfX1 k.toNat (by omega)
      have o_4n : (o_3 : Int) = 101 + 32 * k := by rw [eo_3]; exact zrfnX1 (by omega) (by omega)
      refine g_aload_n (n := 18) hx 0 (dq tX9_image 11 rfl) rfl rfl ?_
      refine g_getR (n := 21) hx glX9_47 (sX9_5 (by decide)) (dq tX9_image 12 rfl) rfl ?_
      refine g_callVv (n := 24) (As := [aR Γ 45]) (rest := []) hx (ctX1_take Γ M o_3 o_4 45 (by decide) gd0) mlX9_421 (obX1 o_4) (dq tX9_image 13 rfl) rfl (Nat.le_of_ble_eq_true rfl) (Nat.le_of_ble_eq_true rfl) (Nat.le_of_ble_eq_true rfl) rfl (fun M_6 p_8 => ?_)
      obtain ⟨f_9, g_10, h_11, h_12, h_13⟩ := p_8
      refine g_aload_n (n := 25) hx 0 (dq tX9_image 14 rfl) rfl rfl ?_
      refine g_getR (n := 28) hx glX9_47 (sX9_5 (by decide)) (dq tX9_image 15 rfl) rfl ?_
      refine g_getR (n := 31) hx glX9_100 (sX8_1 (by decide)) (dq tX9_image 16 rfl) rfl ?_
      refine g_getI (n := 34) hx glX9_297 (sX6_0 (iX8_1 (by decide))) (dq tX9_image 17 rfl) rfl (fun h_15l h_15u => ?_)
      have e_16 : M_6 37 1 = M 37 1 := (f_9 37 1 (by omega))
      have e_17 : M_6 37 3 = M 37 3 := (f_9 37 3 (by omega))
      exact g_iret hx hr (dq tX9_image 18 rfl) (zrI h_15l h_15u (by decide) (by decide)) ⟨(fun u_ v_ huv_ => (f_9 u_ v_ (by omega))), g_10, (fun o ho hk0 hk4 => by
      have e : o = o_3 := by omega
      rw [e]
      exact ⟨h_12, h_13, h_11, f_9⟩), (fun hk => absurd hk (by omega))⟩
    · refine g_iconst (n := 10) hx (dq tX9_image 5 rfl) rfl ?_
      exact g_iret hx hr (dq tX9_image 6 rfl) ⟨by decide, by decide⟩ ⟨(fun _ _ _ => rfl), gd0, (fun o ho hk0 hk4 => absurd hk4 (by omega)), (fun _ => rfl)⟩

abbrev qctX9_back (M : zM) (k : Int) (z : Int) (M' : zM) : Prop := (∀ u_ v_, (u_ < 37 ∨ 37 + 8 ≤ u_) ∧ (u_ < 45 + 1 ∨ 45 + 24 ≤ u_) → M' u_ v_ = M u_ v_) ∧ Gd M' 37 (45 + 1) ∧ (∀ o : Nat, (o : Int) = 101 + 32 * k → 0 ≤ k → k < 4 → M o 0 = 1 → M' (45 + 11) 0 = M (o + 19) 0) ∧ ((k < 0 ∨ 4 ≤ k) → M = M')
set_option maxHeartbeats 4000000 in
set_option maxRecDepth 100000 in
theorem ctX9_back (Γ : Gam) (M : zM) (k : Int) (hkl : (-2147483648) ≤ k) (hku : k ≤ 2147483647) (gd0 : Gd M 37 (45 + 1)) (ex0 : ImOk M) : CtI Γ yX9_back cX9_back 2 (some .int) 4 123 [aR Γ 0, vI k] M (qctX9_back M k) := by
  refine met_i (by decide) (Nat.le_of_ble_eq_true rfl) (fun x hx hr => ?_)
  show G Γ x 2 (QI Γ x (qctX9_back M k)) M 0 [(0, aR Γ 0), (1, vI k)] []
  refine g_iload_n (n := 1) hx 1 (dq tX9_back 0 rfl) rfl rfl ?_
  refine g_if_lt (n := 4) (t := 21) hx (dq tX9_back 1 rfl) (by decide) rfl (zrI hkl hku (by decide) (by decide)) (fun c_1 => ?_) (fun c_1 => ?_)
  · refine g_iconst (n := 22) hx (dq tX9_back 11 rfl) rfl ?_
    exact g_iret hx hr (dq tX9_back 12 rfl) ⟨by decide, by decide⟩ ⟨(fun _ _ _ => rfl), gd0, (fun o ho hk0 hk4 hm => by first | omega | (have e : o = o := (by omega); rw [e] at hm; omega)), (fun _ => rfl)⟩
  · refine g_iload_n (n := 5) hx 1 (dq tX9_back 2 rfl) rfl rfl ?_
    refine g_iconst (n := 6) hx (dq tX9_back 3 rfl) rfl ?_
    refine g_icmp_ge (n := 9) (t := 21) hx (dq tX9_back 4 rfl) (by decide) rfl (zrI hkl hku (by decide) (by decide)) ⟨by decide, by decide⟩ (fun c_2 => ?_) (fun c_2 => ?_)
    · refine g_iconst (n := 22) hx (dq tX9_back 11 rfl) rfl ?_
      exact g_iret hx hr (dq tX9_back 12 rfl) ⟨by decide, by decide⟩ ⟨(fun _ _ _ => rfl), gd0, (fun o ho hk0 hk4 hm => by first | omega | (have e : o = o := (by omega); rw [e] at hm; omega)), (fun _ => rfl)⟩
    · refine g_aload_n (n := 10) hx 0 (dq tX9_back 5 rfl) rfl rfl ?_
      refine g_getR (n := 13) hx glX9_60 (sX9_7 (by decide)) (dq tX9_back 6 rfl) rfl ?_
      refine g_iload_n (n := 14) hx 1 (dq tX9_back 7 rfl) rfl rfl ?_
      refine g_aald (n := 15) (q := k.toNat) hx (aX9_7 (b := 0) (by decide)) (by decide) (dq tX9_back 8 rfl) rfl (by omega) (by omega) (by omega) rfl ?_
      refine g_named (c := zrf 2 k.toNat) (fun o_3 eo_3 => ?_)
      have o_4 : isX1 o_3 := by rw [eo_3]; exact zrfX1 k.toNat (by omega)
      have o_4n : (o_3 : Int) = 101 + 32 * k := by rw [eo_3]; exact zrfnX1 (by omega) (by omega)
      refine g_getI (n := 18) hx glX9_424 (sX1_0 o_4) (dq tX9_back 9 rfl) rfl (fun h_5l h_5u => ?_)
      refine g_if_ne (n := 21) (t := 23) hx (dq tX9_back 10 rfl) (by decide) rfl (zrI h_5l h_5u (by decide) (by decide)) (fun c_6 => ?_) (fun c_6 => ?_)
      · refine g_aload_n (n := 24) hx 0 (dq tX9_back 13 rfl) rfl rfl ?_
        refine g_getR (n := 27) hx glX9_60 (sX9_7 (by decide)) (dq tX9_back 14 rfl) rfl ?_
        refine g_iload_n (n := 28) hx 1 (dq tX9_back 15 rfl) rfl rfl ?_
        refine g_aald (n := 29) (q := k.toNat) hx (aX9_7 (b := 0) (by decide)) (by decide) (dq tX9_back 16 rfl) rfl (by omega) (by omega) (by omega) rfl ?_
        refine g_named (c := zrf 2 k.toNat) (fun o_7 eo_7 => ?_)
        have o_8 : isX1 o_7 := by rw [eo_7]; exact zrfX1 k.toNat (by omega)
        have o_8n : (o_7 : Int) = 101 + 32 * k := by rw [eo_7]; exact zrfnX1 (by omega) (by omega)
        refine g_aload_n (n := 30) hx 0 (dq tX9_back 17 rfl) rfl rfl ?_
        refine g_getR (n := 33) hx glX9_47 (sX9_5 (by decide)) (dq tX9_back 18 rfl) rfl ?_
        have g_9e : o_7 = o_3 := by omega
        have g_9m : M o_7 0 = 1 := by rw [g_9e]; omega
        have g_9 := ex0 o_7 o_8 g_9m
        refine g_callVv (n := 36) (As := [aR Γ 45]) (rest := []) hx (ctX1_give Γ M o_7 o_8 45 (by decide) g_9) mlX9_428 (obX1 o_8) (dq tX9_back 19 rfl) rfl (Nat.le_of_ble_eq_true rfl) (Nat.le_of_ble_eq_true rfl) (Nat.le_of_ble_eq_true rfl) rfl (fun M_11 p_13 => ?_)
        obtain ⟨f_14, g_15, h_16, h_17⟩ := p_13
        refine g_aload_n (n := 37) hx 0 (dq tX9_back 20 rfl) rfl rfl ?_
        refine g_getR (n := 40) hx glX9_47 (sX9_5 (by decide)) (dq tX9_back 21 rfl) rfl ?_
        refine g_getR (n := 43) hx glX9_100 (sX8_1 (by decide)) (dq tX9_back 22 rfl) rfl ?_
        refine g_getI (n := 46) hx glX9_297 (sX6_0 (iX8_1 (by decide))) (dq tX9_back 23 rfl) rfl (fun h_20l h_20u => ?_)
        exact g_iret hx hr (dq tX9_back 24 rfl) (zrI h_20l h_20u (by decide) (by decide)) ⟨(fun u_ v_ huv_ => (f_14 u_ v_ (by omega))), h_16, (fun o ho hk0 hk4 hm => by
      have e : o = o_7 := by omega
      rw [e]
      exact h_17), (fun hk => absurd hk (by omega))⟩
      · refine g_iconst (n := 22) hx (dq tX9_back 11 rfl) rfl ?_
        exact g_iret hx hr (dq tX9_back 12 rfl) ⟨by decide, by decide⟩ ⟨(fun _ _ _ => rfl), gd0, (fun o ho hk0 hk4 hm => by first | omega | (have e : o = o_3 := (by omega); rw [e] at hm; omega)), (fun _ => rfl)⟩
