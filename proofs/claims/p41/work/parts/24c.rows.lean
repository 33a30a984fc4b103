abbrev qctfact_2 (M : zM) (g : Nat) (depth : Int) (z : Int) (M' : zM) : Prop := (∀ u_ v_, (u_ ≠ 7 ∨ v_ ≠ 2) ∧ (u_ ≠ 7 ∨ v_ ≠ 3) ∧ (u_ ≠ 7 ∨ v_ ≠ 4) ∧ (u_ ≠ 7 ∨ v_ ≠ 5) ∧ (u_ ≠ 18 ∨ v_ ≠ 1) ∧ (u_ ≠ g ∨ v_ ≠ 1) ∧ (u_ ≠ g ∨ v_ ≠ 2) ∧ (u_ ≠ g ∨ v_ ≠ 3) ∧ u_ ≠ g + 1 → M' u_ v_ = M u_ v_) ∧ (z = 0 ∨ (z = 1))
set_option maxHeartbeats 4000000 in
set_option maxRecDepth 100000 in
theorem ctfact_2 (Γ : Gam) (M : zM) (g : Nat) (hg : isX4 g) (depth : Int) (hdepthl : 2 ≤ depth) (hdepthu : depth ≤ 2)  : CtI Γ yX5_readsFact cX5_readsFact 6 (some .boolean) 23 557 [aR Γ 18, aR Γ g, vI depth] M (qctfact_2 M g depth) := by
  refine met_i (by decide) (Nat.le_of_ble_eq_true rfl) (fun x hx hr => ?_)
  show G Γ x 6 (QI Γ x (qctfact_2 M g depth)) M 0 [(0, aR Γ 18), (1, aR Γ g), (2, vI depth)] []
  refine g_aload_n (n := 1) hx 0 (dq tX5_readsFact 0 rfl) rfl rfl ?_
  refine g_getR (n := 4) hx glX5_9 (sX5_0 (by decide)) (dq tX5_readsFact 1 rfl) rfl ?_
  refine g_getI (n := 7) hx glX5_67 (sX7_4 (by decide)) (dq tX5_readsFact 2 rfl) rfl (fun h_1l h_1u => ?_)
  refine g_bipush (n := 9) hx (dq tX5_readsFact 3 rfl) rfl (by decide) ?_
  have J_4 : ∀ (j_3 : Int),  (0 ≤ j_3) → (j_3 ≤ 1) → G Γ x 6 (QI Γ x (qctfact_2 M g depth)) M 17 [(0, aR Γ 18), (1, aR Γ g), (2, vI depth)] [vI j_3] := by
    intro j_3 h_5 h_6
    refine g_istore_n (n := 18) (lv' := [(3, vI j_3), (0, aR Γ 18), (1, aR Γ g), (2, vI depth)]) hx (dq tX5_readsFact 8 rfl) (by decide) rfl rfl ?_
    refine g_aload_n (n := 19) hx 1 (dq tX5_readsFact 9 rfl) rfl rfl ?_
    refine g_getR (n := 22) hx glX5_9 (sX5_0 (by decide)) (dq tX5_readsFact 10 rfl) rfl ?_
    refine g_ldcS (n := 24) (q := 30) hx rfl rfl rfl (dq tX5_readsFact 11 rfl) rfl ?_
    refine g_callVi (n := 27) (As := [sR Γ 30]) (rest := []) hx (ctX7_wordIn Γ M 30 _ rfl (by decide)) mlX5_31 (obX7 (by decide)) (dq tX5_readsFact 12 rfl) rfl (Nat.le_of_ble_eq_true rfl) (Nat.le_of_ble_eq_true rfl) (Nat.le_of_ble_eq_true rfl) rfl (fun z_7 M_8 h_9 p_10 => ?_)
    obtain rfl := p_10
    have J_14 : ∀ (j_13 : Int),  (0 ≤ j_13) → (j_13 ≤ 1) → G Γ x 6 (QI Γ x (qctfact_2 M g depth)) M 35 [(3, vI j_3), (0, aR Γ 18), (1, aR Γ g), (2, vI depth)] [vI j_13] := by
      intro j_13 h_15 h_16
      refine g_istore (n := 37) (lv' := [(4, vI j_13), (3, vI j_3), (0, aR Γ 18), (1, aR Γ g), (2, vI depth)]) hx (dq tX5_readsFact 17 rfl) (by decide) rfl rfl ?_
      refine g_iload_n (n := 38) hx 1 (dq tX5_readsFact 18 rfl) rfl rfl ?_
      refine g_if_ne (n := 41) (t := 86) hx (dq tX5_readsFact 19 rfl) (by decide) rfl ⟨by omega, by omega⟩ (fun c_17 => ?_) (fun c_17 => ?_)
      · refine g_iload_n (n := 87) hx 4 (dq tX5_readsFact 45 rfl) rfl rfl ?_
        refine g_bipush (n := 89) hx (dq tX5_readsFact 46 rfl) rfl (by decide) ?_
        refine g_icmp_lt (n := 92) (t := 101) hx (dq tX5_readsFact 47 rfl) (by decide) rfl (zrI hdepthl hdepthu (by decide) (by decide)) ⟨by decide, by decide⟩ (fun c_18 => ?_) (fun c_18 => ?_)
        · refine g_aload_n (n := 102) hx 2 (dq tX5_readsFact 53 rfl) rfl rfl ?_
          refine g_getR (n := 105) hx glX5_9 (sX5_0 (by decide)) (dq tX5_readsFact 54 rfl) rfl ?_
          refine g_callVv (n := 108) (As := []) (rest := []) hx (ctX7_pass Γ M ) mlX5_39 (obX7 (by decide)) (dq tX5_readsFact 55 rfl) rfl (Nat.le_of_ble_eq_true rfl) (Nat.le_of_ble_eq_true rfl) (Nat.le_of_ble_eq_true rfl) rfl (fun M_20 p_22 => ?_)
          have f_23 := p_22
          refine g_iload (n := 110) hx 0 (dq tX5_readsFact 56 rfl) rfl rfl ?_
          refine g_if_eq (n := 113) (t := 134) hx (dq tX5_readsFact 57 rfl) (by decide) rfl ⟨by omega, by omega⟩ (fun c_24 => ?_) (fun c_24 => ?_)
          · refine g_aload_n (n := 135) hx 2 (dq tX5_readsFact 72 rfl) rfl rfl ?_
            refine g_aload_n (n := 136) hx 3 (dq tX5_readsFact 73 rfl) rfl rfl ?_
            refine g_iload_n (n := 137) hx 4 (dq tX5_readsFact 74 rfl) rfl rfl ?_
            refine g_iconst (n := 138) hx (dq tX5_readsFact 75 rfl) rfl ?_
            refine g_iadd (n := 139) hx (dq tX5_readsFact 76 rfl) rfl ?_
            refine g_callVi (n := 142) (As := [aR Γ g, vI (depth + 1)]) (rest := []) hx (cttest_3 Γ M_20 g hg (depth + 1) (by omega) (by omega)) mlX5_56 (obX5 (by decide)) (dq tX5_readsFact 77 rfl) rfl (Nat.le_of_ble_eq_true rfl) (Nat.le_of_ble_eq_true rfl) (Nat.le_of_ble_eq_true rfl) rfl (fun z_25 M_26 h_27 p_28 => ?_)
            obtain ⟨f_29, b_30⟩ := p_28
            refine g_if_ne (n := 145) (t := 147) hx (dq tX5_readsFact 78 rfl) (by decide) rfl h_27 (fun c_31 => ?_) (fun c_31 => ?_)
            · have b_30 := b_30.resolve_left c_31
              refine g_aload_n (n := 148) hx 2 (dq tX5_readsFact 81 rfl) rfl rfl ?_
              refine g_getR (n := 151) hx glX5_9 (sX5_0 (by decide)) (dq tX5_readsFact 82 rfl) rfl ?_
              refine g_getI (n := 154) hx glX5_67 (sX7_4 (by decide)) (dq tX5_readsFact 83 rfl) rfl (fun h_32l h_32u => ?_)
              refine g_bipush (n := 156) hx (dq tX5_readsFact 84 rfl) rfl (by decide) ?_
              refine g_icmp_eq (n := 159) (t := 168) hx (dq tX5_readsFact 85 rfl) (by decide) rfl (zrI h_32l h_32u (by decide) (by decide)) ⟨by decide, by decide⟩ (fun c_33 => ?_) (fun c_33 => ?_)
              · refine g_aload_n (n := 169) hx 2 (dq tX5_readsFact 91 rfl) rfl rfl ?_
                refine g_getR (n := 172) hx glX5_9 (sX5_0 (by decide)) (dq tX5_readsFact 92 rfl) rfl ?_
                refine g_callVv (n := 175) (As := []) (rest := []) hx (ctX7_pass Γ M_26 ) mlX5_39 (obX7 (by decide)) (dq tX5_readsFact 93 rfl) rfl (Nat.le_of_ble_eq_true rfl) (Nat.le_of_ble_eq_true rfl) (Nat.le_of_ble_eq_true rfl) rfl (fun M_35 p_37 => ?_)
                have f_38 := p_37
                refine g_iconst (n := 176) hx (dq tX5_readsFact 94 rfl) rfl ?_
                exact g_zret hx hr (dq tX5_readsFact 95 rfl) (by omega) ⟨(fun u_ v_ huv_ => (((f_38 u_ v_ (by omega)).trans (f_29 u_ v_ (by omega))).trans (f_23 u_ v_ (by omega)))), (by omega)⟩
              · refine g_aload_n (n := 160) hx 2 (dq tX5_readsFact 86 rfl) rfl rfl ?_
                refine g_getR (n := 163) hx glX5_9 (sX5_0 (by decide)) (dq tX5_readsFact 87 rfl) rfl ?_
                refine g_iconst (n := 164) hx (dq tX5_readsFact 88 rfl) rfl ?_
                refine g_callVi (n := 167) (As := [vI 0]) (rest := []) hx (ctX7_fails Γ M_26 0 (by decide) (by decide)) mlX5_35 (obX7 (by decide)) (dq tX5_readsFact 89 rfl) rfl (Nat.le_of_ble_eq_true rfl) (Nat.le_of_ble_eq_true rfl) (Nat.le_of_ble_eq_true rfl) rfl (fun z_39 M_40 h_41 p_42 => ?_)
                obtain ⟨f_43, h_44, h_45⟩ := p_42
                exact g_zret hx hr (dq tX5_readsFact 90 rfl) (by omega) ⟨(fun u_ v_ huv_ => (((f_43 u_ v_ (by omega)).trans (f_29 u_ v_ (by omega))).trans (f_23 u_ v_ (by omega)))), (by omega)⟩
            · clear b_30
              refine g_iconst (n := 146) hx (dq tX5_readsFact 79 rfl) rfl ?_
              exact g_zret hx hr (dq tX5_readsFact 80 rfl) (by omega) ⟨(fun u_ v_ huv_ => ((f_29 u_ v_ (by omega)).trans (f_23 u_ v_ (by omega)))), (by omega)⟩
          · refine g_aload_n (n := 114) hx 2 (dq tX5_readsFact 58 rfl) rfl rfl ?_
            refine g_aload_n (n := 115) hx 3 (dq tX5_readsFact 59 rfl) rfl rfl ?_
            refine g_iload_n (n := 116) hx 4 (dq tX5_readsFact 60 rfl) rfl rfl ?_
            refine g_iconst (n := 117) hx (dq tX5_readsFact 61 rfl) rfl ?_
            refine g_iadd (n := 118) hx (dq tX5_readsFact 62 rfl) rfl ?_
            refine g_callVi (n := 121) (As := [aR Γ g, vI (depth + 1)]) (rest := []) hx (ctfact_3 Γ M_20 g hg (depth + 1) (by omega) (by omega)) mlX5_70 (obX5 (by decide)) (dq tX5_readsFact 63 rfl) rfl (Nat.le_of_ble_eq_true rfl) (Nat.le_of_ble_eq_true rfl) (Nat.le_of_ble_eq_true rfl) rfl (fun z_46 M_47 h_48 p_49 => ?_)
            obtain ⟨f_50, b_51⟩ := p_49
            refine g_if_ne (n := 124) (t := 126) hx (dq tX5_readsFact 64 rfl) (by decide) rfl h_48 (fun c_52 => ?_) (fun c_52 => ?_)
            · have b_51 := b_51.resolve_left c_52
              refine g_aload_n (n := 127) hx 3 (dq tX5_readsFact 67 rfl) rfl rfl ?_
              refine g_bipush (n := 129) hx (dq tX5_readsFact 68 rfl) rfl (by decide) ?_
              refine g_callVv (n := 132) (As := [vI 28]) (rest := []) hx (ctX4_write Γ M_47 g hg 28 (by decide) (by decide)) mlX5_60 (obX4 hg) (dq tX5_readsFact 69 rfl) rfl (Nat.le_of_ble_eq_true rfl) (Nat.le_of_ble_eq_true rfl) (Nat.le_of_ble_eq_true rfl) rfl (fun M_54 p_56 => ?_)
              have f_57 := p_56
              refine g_iconst (n := 133) hx (dq tX5_readsFact 70 rfl) rfl ?_
              exact g_zret hx hr (dq tX5_readsFact 71 rfl) (by omega) ⟨(fun u_ v_ huv_ => (((f_57 u_ v_ (by omega)).trans (f_50 u_ v_ (by omega))).trans (f_23 u_ v_ (by omega)))), (by omega)⟩
            · clear b_51
              refine g_iconst (n := 125) hx (dq tX5_readsFact 65 rfl) rfl ?_
              exact g_zret hx hr (dq tX5_readsFact 66 rfl) (by omega) ⟨(fun u_ v_ huv_ => ((f_50 u_ v_ (by omega)).trans (f_23 u_ v_ (by omega)))), (by omega)⟩
        · omega
      · refine g_iload (n := 43) hx 0 (dq tX5_readsFact 20 rfl) rfl rfl ?_
        refine g_if_ne (n := 46) (t := 86) hx (dq tX5_readsFact 21 rfl) (by decide) rfl ⟨by omega, by omega⟩ (fun c_58 => ?_) (fun c_58 => ?_)
        · refine g_iload_n (n := 87) hx 4 (dq tX5_readsFact 45 rfl) rfl rfl ?_
          refine g_bipush (n := 89) hx (dq tX5_readsFact 46 rfl) rfl (by decide) ?_
          refine g_icmp_lt (n := 92) (t := 101) hx (dq tX5_readsFact 47 rfl) (by decide) rfl (zrI hdepthl hdepthu (by decide) (by decide)) ⟨by decide, by decide⟩ (fun c_59 => ?_) (fun c_59 => ?_)
          · refine g_aload_n (n := 102) hx 2 (dq tX5_readsFact 53 rfl) rfl rfl ?_
            refine g_getR (n := 105) hx glX5_9 (sX5_0 (by decide)) (dq tX5_readsFact 54 rfl) rfl ?_
            refine g_callVv (n := 108) (As := []) (rest := []) hx (ctX7_pass Γ M ) mlX5_39 (obX7 (by decide)) (dq tX5_readsFact 55 rfl) rfl (Nat.le_of_ble_eq_true rfl) (Nat.le_of_ble_eq_true rfl) (Nat.le_of_ble_eq_true rfl) rfl (fun M_61 p_63 => ?_)
            have f_64 := p_63
            refine g_iload (n := 110) hx 0 (dq tX5_readsFact 56 rfl) rfl rfl ?_
            refine g_if_eq (n := 113) (t := 134) hx (dq tX5_readsFact 57 rfl) (by decide) rfl ⟨by omega, by omega⟩ (fun c_65 => ?_) (fun c_65 => ?_)
            · omega
            · refine g_aload_n (n := 114) hx 2 (dq tX5_readsFact 58 rfl) rfl rfl ?_
              refine g_aload_n (n := 115) hx 3 (dq tX5_readsFact 59 rfl) rfl rfl ?_
              refine g_iload_n (n := 116) hx 4 (dq tX5_readsFact 60 rfl) rfl rfl ?_
              refine g_iconst (n := 117) hx (dq tX5_readsFact 61 rfl) rfl ?_
              refine g_iadd (n := 118) hx (dq tX5_readsFact 62 rfl) rfl ?_
              refine g_callVi (n := 121) (As := [aR Γ g, vI (depth + 1)]) (rest := []) hx (ctfact_3 Γ M_61 g hg (depth + 1) (by omega) (by omega)) mlX5_70 (obX5 (by decide)) (dq tX5_readsFact 63 rfl) rfl (Nat.le_of_ble_eq_true rfl) (Nat.le_of_ble_eq_true rfl) (Nat.le_of_ble_eq_true rfl) rfl (fun z_66 M_67 h_68 p_69 => ?_)
              obtain ⟨f_70, b_71⟩ := p_69
              refine g_if_ne (n := 124) (t := 126) hx (dq tX5_readsFact 64 rfl) (by decide) rfl h_68 (fun c_72 => ?_) (fun c_72 => ?_)
              · have b_71 := b_71.resolve_left c_72
                refine g_aload_n (n := 127) hx 3 (dq tX5_readsFact 67 rfl) rfl rfl ?_
                refine g_bipush (n := 129) hx (dq tX5_readsFact 68 rfl) rfl (by decide) ?_
                refine g_callVv (n := 132) (As := [vI 28]) (rest := []) hx (ctX4_write Γ M_67 g hg 28 (by decide) (by decide)) mlX5_60 (obX4 hg) (dq tX5_readsFact 69 rfl) rfl (Nat.le_of_ble_eq_true rfl) (Nat.le_of_ble_eq_true rfl) (Nat.le_of_ble_eq_true rfl) rfl (fun M_74 p_76 => ?_)
                have f_77 := p_76
                refine g_iconst (n := 133) hx (dq tX5_readsFact 70 rfl) rfl ?_
                exact g_zret hx hr (dq tX5_readsFact 71 rfl) (by omega) ⟨(fun u_ v_ huv_ => (((f_77 u_ v_ (by omega)).trans (f_70 u_ v_ (by omega))).trans (f_64 u_ v_ (by omega)))), (by omega)⟩
              · clear b_71
                refine g_iconst (n := 125) hx (dq tX5_readsFact 65 rfl) rfl ?_
                exact g_zret hx hr (dq tX5_readsFact 66 rfl) (by omega) ⟨(fun u_ v_ huv_ => ((f_70 u_ v_ (by omega)).trans (f_64 u_ v_ (by omega)))), (by omega)⟩
          · omega
        · refine g_aload_n (n := 47) hx 2 (dq tX5_readsFact 22 rfl) rfl rfl ?_
          refine g_aload_n (n := 48) hx 3 (dq tX5_readsFact 23 rfl) rfl rfl ?_
          refine g_callVi (n := 51) (As := [aR Γ g]) (rest := []) hx (ctX5_readsSum Γ M g hg) mlX5_46 (obX5 (by decide)) (dq tX5_readsFact 24 rfl) rfl (Nat.le_of_ble_eq_true rfl) (Nat.le_of_ble_eq_true rfl) (Nat.le_of_ble_eq_true rfl) rfl (fun z_78 M_79 h_80 p_81 => ?_)
          obtain ⟨f_82, b_83⟩ := p_81
          refine g_if_ne (n := 54) (t := 56) hx (dq tX5_readsFact 25 rfl) (by decide) rfl h_80 (fun c_84 => ?_) (fun c_84 => ?_)
          · have b_83 := b_83.resolve_left c_84
            refine g_aload_n (n := 57) hx 2 (dq tX5_readsFact 28 rfl) rfl rfl ?_
            refine g_callVi (n := 60) (As := []) (rest := []) hx (ctX5_readSign Γ M_79 ) mlX5_79 (obX5 (by decide)) (dq tX5_readsFact 29 rfl) rfl (Nat.le_of_ble_eq_true rfl) (Nat.le_of_ble_eq_true rfl) (Nat.le_of_ble_eq_true rfl) rfl (fun z_85 M_86 h_87 p_88 => ?_)
            have f_89 := p_88
            refine g_istore (n := 62) (lv' := [(5, vI z_85), (4, vI j_13), (3, vI j_3), (0, aR Γ 18), (1, aR Γ g), (2, vI depth)]) hx (dq tX5_readsFact 30 rfl) (by decide) rfl rfl ?_
            refine g_iload (n := 64) hx 0 (dq tX5_readsFact 31 rfl) rfl rfl ?_
            refine g_iconst (n := 65) hx (dq tX5_readsFact 32 rfl) rfl ?_
            refine g_icmp_eq (n := 68) (t := 76) hx (dq tX5_readsFact 33 rfl) (by decide) rfl h_87 ⟨by decide, by decide⟩ (fun c_90 => ?_) (fun c_90 => ?_)
            · refine g_iconst (n := 77) hx (dq tX5_readsFact 38 rfl) rfl ?_
              exact g_zret hx hr (dq tX5_readsFact 39 rfl) (by omega) ⟨(fun u_ v_ huv_ => ((f_89 u_ v_ (by omega)).trans (f_82 u_ v_ (by omega)))), (by omega)⟩
            · refine g_aload_n (n := 69) hx 3 (dq tX5_readsFact 34 rfl) rfl rfl ?_
              refine g_aload_n (n := 70) hx 4 (dq tX5_readsFact 35 rfl) rfl rfl ?_
              refine g_callVi (n := 73) (As := [aR Γ g]) (rest := []) hx (ctX5_readsSum Γ M_86 g hg) mlX5_46 (obX5 (by decide)) (dq tX5_readsFact 36 rfl) rfl (Nat.le_of_ble_eq_true rfl) (Nat.le_of_ble_eq_true rfl) (Nat.le_of_ble_eq_true rfl) rfl (fun z_91 M_92 h_93 p_94 => ?_)
              obtain ⟨f_95, b_96⟩ := p_94
              refine g_if_ne (n := 76) (t := 78) hx (dq tX5_readsFact 37 rfl) (by decide) rfl h_93 (fun c_97 => ?_) (fun c_97 => ?_)
              · have b_96 := b_96.resolve_left c_97
                refine g_aload_n (n := 79) hx 4 (dq tX5_readsFact 40 rfl) rfl rfl ?_
                refine g_iload (n := 81) hx 0 (dq tX5_readsFact 41 rfl) rfl rfl ?_
                refine g_callVv (n := 84) (As := [vI z_85]) (rest := []) hx (ctX4_write Γ M_92 g hg z_85 (by omega) (by omega)) mlX5_60 (obX4 hg) (dq tX5_readsFact 42 rfl) rfl (Nat.le_of_ble_eq_true rfl) (Nat.le_of_ble_eq_true rfl) (Nat.le_of_ble_eq_true rfl) rfl (fun M_99 p_101 => ?_)
                have f_102 := p_101
                refine g_iconst (n := 85) hx (dq tX5_readsFact 43 rfl) rfl ?_
                exact g_zret hx hr (dq tX5_readsFact 44 rfl) (by omega) ⟨(fun u_ v_ huv_ => ((((f_102 u_ v_ (by omega)).trans (f_95 u_ v_ (by omega))).trans (f_89 u_ v_ (by omega))).trans (f_82 u_ v_ (by omega)))), (by omega)⟩
              · clear b_96
                refine g_iconst (n := 77) hx (dq tX5_readsFact 38 rfl) rfl ?_
                exact g_zret hx hr (dq tX5_readsFact 39 rfl) (by omega) ⟨(fun u_ v_ huv_ => (((f_95 u_ v_ (by omega)).trans (f_89 u_ v_ (by omega))).trans (f_82 u_ v_ (by omega)))), (by omega)⟩
          · clear b_83
            refine g_iconst (n := 55) hx (dq tX5_readsFact 26 rfl) rfl ?_
            exact g_zret hx hr (dq tX5_readsFact 27 rfl) (by omega) ⟨(fun u_ v_ huv_ => (f_82 u_ v_ (by omega))), (by omega)⟩
    refine g_if_ne (n := 30) (t := 34) hx (dq tX5_readsFact 13 rfl) (by decide) rfl h_9 (fun c_12 => ?_) (fun c_12 => ?_)
    · refine g_iconst (n := 35) hx (dq tX5_readsFact 16 rfl) rfl ?_
      exact J_14 0 (by omega) (by omega)
    · refine g_iconst (n := 31) hx (dq tX5_readsFact 14 rfl) rfl ?_
      refine g_goto (n := 35) hx (dq tX5_readsFact 15 rfl) (by decide) ?_
      exact J_14 1 (by omega) (by omega)
  refine g_icmp_ne (n := 12) (t := 16) hx (dq tX5_readsFact 4 rfl) (by decide) rfl (zrI h_1l h_1u (by decide) (by decide)) ⟨by decide, by decide⟩ (fun c_2 => ?_) (fun c_2 => ?_)
  · refine g_iconst (n := 17) hx (dq tX5_readsFact 7 rfl) rfl ?_
    exact J_4 0 (by omega) (by omega)
  · refine g_iconst (n := 13) hx (dq tX5_readsFact 5 rfl) rfl ?_
    refine g_goto (n := 17) hx (dq tX5_readsFact 6 rfl) (by decide) ?_
    exact J_4 1 (by omega) (by omega)

abbrev qcttest_2 (M : zM) (g : Nat) (depth : Int) (z : Int) (M' : zM) : Prop := (∀ u_ v_, (u_ ≠ 7 ∨ v_ ≠ 2) ∧ (u_ ≠ 7 ∨ v_ ≠ 3) ∧ (u_ ≠ 7 ∨ v_ ≠ 4) ∧ (u_ ≠ 7 ∨ v_ ≠ 5) ∧ (u_ ≠ 18 ∨ v_ ≠ 1) ∧ (u_ ≠ g ∨ v_ ≠ 1) ∧ (u_ ≠ g ∨ v_ ≠ 2) ∧ (u_ ≠ g ∨ v_ ≠ 3) ∧ u_ ≠ g + 1 → M' u_ v_ = M u_ v_) ∧ (z = 0 ∨ (z = 1))
set_option maxHeartbeats 4000000 in
set_option maxRecDepth 100000 in
theorem cttest_2 (Γ : Gam) (M : zM) (g : Nat) (hg : isX4 g) (depth : Int) (hdepthl : 2 ≤ depth) (hdepthu : depth ≤ 2)  : CtI Γ yX5_readsTest cX5_readsTest 6 (some .boolean) 24 582 [aR Γ 18, aR Γ g, vI depth] M (qcttest_2 M g depth) := by
  refine met_i (by decide) (Nat.le_of_ble_eq_true rfl) (fun x hx hr => ?_)
  show G Γ x 6 (QI Γ x (qcttest_2 M g depth)) M 0 [(0, aR Γ 18), (1, aR Γ g), (2, vI depth)] []
  refine g_iconst (n := 1) hx (dq tX5_readsTest 0 rfl) rfl ?_
  refine g_istore_n (n := 2) (lv' := [(3, vI 0), (0, aR Γ 18), (1, aR Γ g), (2, vI depth)]) hx (dq tX5_readsTest 1 rfl) (by decide) rfl rfl ?_
  refine g_iconst (n := 3) hx (dq tX5_readsTest 2 rfl) rfl ?_
  refine g_istore (n := 5) (lv' := [(4, vI 0), (3, vI 0), (0, aR Γ 18), (1, aR Γ g), (2, vI depth)]) hx (dq tX5_readsTest 3 rfl) (by decide) rfl rfl ?_
  refine g_iconst (n := 6) hx (dq tX5_readsTest 4 rfl) rfl ?_
  refine g_istore (n := 8) (lv' := [(5, vI 0), (4, vI 0), (3, vI 0), (0, aR Γ 18), (1, aR Γ g), (2, vI depth)]) hx (dq tX5_readsTest 5 rfl) (by decide) rfl rfl ?_
  have L_5 : ∀ (n_ : Nat) (i_1 : Int) (i_2 : Int) (i_3 : Int) (M_4 : zM), (0 ≤ i_1) → (i_1 ≤ 60) → (0 ≤ i_2) → (i_2 ≤ 1) → (0 ≤ i_3) → (i_3 ≤ 1) → (∀ u_ v_, (u_ ≠ 7 ∨ v_ ≠ 2) ∧ (u_ ≠ 7 ∨ v_ ≠ 3) ∧ (u_ ≠ 7 ∨ v_ ≠ 4) ∧ (u_ ≠ g ∨ v_ ≠ 1) ∧ (u_ ≠ g ∨ v_ ≠ 2) ∧ (u_ ≠ g ∨ v_ ≠ 3) ∧ u_ ≠ g + 1 ∧ (u_ ≠ 7 ∨ v_ ≠ 5) ∧ (u_ ≠ 18 ∨ v_ ≠ 1) → M_4 u_ v_ = M u_ v_) → ((60 - i_1).toNat = n_) → G Γ x 6 (QI Γ x (qcttest_2 M g depth)) M_4 8 [(5, vI i_1), (4, vI i_2), (3, vI i_3), (0, aR Γ 18), (1, aR Γ g), (2, vI depth)] [] := by
    intro n_
    induction n_ using Nat.strongRecOn with
    | _ n_ ih_6 =>
      intro i_1 i_2 i_3 M_4 h_9 h_10 h_11 h_12 h_13 h_14 f_7 hm_8
      refine g_iload (n := 10) hx 0 (dq tX5_readsTest 6 rfl) rfl rfl ?_
      refine g_bipush (n := 12) hx (dq tX5_readsTest 7 rfl) rfl (by decide) ?_
      refine g_icmp_ge (n := 15) (t := 88) hx (dq tX5_readsTest 8 rfl) (by decide) rfl ⟨by omega, by omega⟩ ⟨by decide, by decide⟩ (fun c_15 => ?_) (fun c_15 => ?_)
      · refine g_aload_n (n := 89) hx 3 (dq tX5_readsTest 45 rfl) rfl rfl ?_
        refine g_getR (n := 92) hx glX5_9 (sX5_0 (by decide)) (dq tX5_readsTest 46 rfl) rfl ?_
        refine g_iconst (n := 93) hx (dq tX5_readsTest 47 rfl) rfl ?_
        refine g_callVi (n := 96) (As := [vI 0]) (rest := []) hx (ctX7_fails Γ M_4 0 (by decide) (by decide)) mlX5_35 (obX7 (by decide)) (dq tX5_readsTest 48 rfl) rfl (Nat.le_of_ble_eq_true rfl) (Nat.le_of_ble_eq_true rfl) (Nat.le_of_ble_eq_true rfl) rfl (fun z_16 M_17 h_18 p_19 => ?_)
        obtain ⟨f_20, h_21, h_22⟩ := p_19
        exact g_zret hx hr (dq tX5_readsTest 49 rfl) (by omega) ⟨(fun u_ v_ huv_ => ((f_20 u_ v_ (by omega)).trans (f_7 u_ v_ (by omega)))), (by omega)⟩
      · refine g_aload_n (n := 16) hx 3 (dq tX5_readsTest 9 rfl) rfl rfl ?_
        refine g_aload_n (n := 17) hx 4 (dq tX5_readsTest 10 rfl) rfl rfl ?_
        refine g_iload_n (n := 18) hx 5 (dq tX5_readsTest 11 rfl) rfl rfl ?_
        refine g_callVi (n := 21) (As := [aR Γ g, vI depth]) (rest := []) hx (ctfact_2 Γ M_4 g hg depth (by omega) (by omega)) mlX5_70 (obX5 (by decide)) (dq tX5_readsTest 12 rfl) rfl (Nat.le_of_ble_eq_true rfl) (Nat.le_of_ble_eq_true rfl) (Nat.le_of_ble_eq_true rfl) rfl (fun z_23 M_24 h_25 p_26 => ?_)
        obtain ⟨f_27, b_28⟩ := p_26
        refine g_if_ne (n := 24) (t := 26) hx (dq tX5_readsTest 13 rfl) (by decide) rfl h_25 (fun c_29 => ?_) (fun c_29 => ?_)
        · have b_28 := b_28.resolve_left c_29
          refine g_iload_n (n := 27) hx 2 (dq tX5_readsTest 16 rfl) rfl rfl ?_
          have J_33 : ∀ (M_31 : zM),  (∀ u_ v_, (u_ ≠ g ∨ v_ ≠ 1) ∧ (u_ ≠ g ∨ v_ ≠ 2) ∧ (u_ ≠ g ∨ v_ ≠ 3) ∧ u_ ≠ g + 1 → M_31 u_ v_ = M_24 u_ v_) → G Γ x 6 (QI Γ x (qcttest_2 M g depth)) M_31 36 [(5, vI i_1), (4, vI i_2), (3, vI i_3), (0, aR Γ 18), (1, aR Γ g), (2, vI depth)] [] := by
            intro M_31 f_32
            refine g_aload_n (n := 37) hx 3 (dq tX5_readsTest 21 rfl) rfl rfl ?_
            refine g_getR (n := 40) hx glX5_9 (sX5_0 (by decide)) (dq tX5_readsTest 22 rfl) rfl ?_
            refine g_ldcS (n := 42) (q := 28) hx rfl rfl rfl (dq tX5_readsTest 23 rfl) rfl ?_
            refine g_callVi (n := 45) (As := [sR Γ 28]) (rest := []) hx (ctX7_takesWord Γ M_31 28 _ rfl (by decide)) mlX5_52 (obX7 (by decide)) (dq tX5_readsTest 24 rfl) rfl (Nat.le_of_ble_eq_true rfl) (Nat.le_of_ble_eq_true rfl) (Nat.le_of_ble_eq_true rfl) rfl (fun z_34 M_35 h_36 p_37 => ?_)
            obtain ⟨f_38, b_39⟩ := p_37
            refine g_istore_n (n := 46) (lv' := [(3, vI z_34), (5, vI i_1), (4, vI i_2), (0, aR Γ 18), (1, aR Γ g), (2, vI depth)]) hx (dq tX5_readsTest 25 rfl) (by decide) rfl rfl ?_
            refine g_iload_n (n := 47) hx 0 (dq tX5_readsTest 26 rfl) rfl rfl ?_
            refine g_if_eq (n := 50) (t := 53) hx (dq tX5_readsTest 27 rfl) (by decide) rfl h_36 (fun c_40 => ?_) (fun c_40 => ?_)
            · clear b_39
              refine g_iload (n := 55) hx 2 (dq tX5_readsTest 29 rfl) rfl rfl ?_
              refine g_if_eq (n := 58) (t := 64) hx (dq tX5_readsTest 30 rfl) (by decide) rfl ⟨by omega, by omega⟩ (fun c_41 => ?_) (fun c_41 => ?_)
              · refine g_aload_n (n := 65) hx 3 (dq tX5_readsTest 34 rfl) rfl rfl ?_
                refine g_getR (n := 68) hx glX5_9 (sX5_0 (by decide)) (dq tX5_readsTest 35 rfl) rfl ?_
                refine g_ldcS (n := 70) (q := 29) hx rfl rfl rfl (dq tX5_readsTest 36 rfl) rfl ?_
                refine g_callVi (n := 73) (As := [sR Γ 29]) (rest := []) hx (ctX7_takesWord Γ M_35 29 _ rfl (by decide)) mlX5_52 (obX7 (by decide)) (dq tX5_readsTest 37 rfl) rfl (Nat.le_of_ble_eq_true rfl) (Nat.le_of_ble_eq_true rfl) (Nat.le_of_ble_eq_true rfl) rfl (fun z_42 M_43 h_44 p_45 => ?_)
                obtain ⟨f_46, b_47⟩ := p_45
                refine g_istore (n := 75) (lv' := [(4, vI z_42), (3, vI z_34), (5, vI i_1), (0, aR Γ 18), (1, aR Γ g), (2, vI depth)]) hx (dq tX5_readsTest 38 rfl) (by decide) rfl rfl ?_
                refine g_iload (n := 77) hx 0 (dq tX5_readsTest 39 rfl) rfl rfl ?_
                refine g_if_ne (n := 80) (t := 82) hx (dq tX5_readsTest 40 rfl) (by decide) rfl h_44 (fun c_48 => ?_) (fun c_48 => ?_)
                · have b_47 := b_47.resolve_left c_48
                  refine g_iinc (n := 85) (lv' := [(5, vI (i_1 + 1)), (4, vI z_42), (3, vI z_34), (0, aR Γ 18), (1, aR Γ g), (2, vI depth)]) hx 2 (dq tX5_readsTest 43 rfl) rfl (by decide) rfl rfl ?_
                  refine g_goto (n := 8) hx (dq tX5_readsTest 44 rfl) (by decide) ?_
                  exact ih_6 _ (by omega) (i_1 + 1) z_42 z_34 M_43 (by omega) (by omega) (by omega) (by omega) (by omega) (by omega) (fun u_ v_ huv_ => (((((f_46 u_ v_ (by omega)).trans (f_38 u_ v_ (by omega))).trans (f_32 u_ v_ (by omega))).trans (f_27 u_ v_ (by omega))).trans (f_7 u_ v_ (by omega)))) rfl
                · clear b_47
                  refine g_iconst (n := 81) hx (dq tX5_readsTest 41 rfl) rfl ?_
                  exact g_zret hx hr (dq tX5_readsTest 42 rfl) (by omega) ⟨(fun u_ v_ huv_ => (((((f_46 u_ v_ (by omega)).trans (f_38 u_ v_ (by omega))).trans (f_32 u_ v_ (by omega))).trans (f_27 u_ v_ (by omega))).trans (f_7 u_ v_ (by omega)))), (by omega)⟩
              · refine g_aload_n (n := 59) hx 4 (dq tX5_readsTest 31 rfl) rfl rfl ?_
                refine g_bipush (n := 61) hx (dq tX5_readsTest 32 rfl) rfl (by decide) ?_
                refine g_callVv (n := 64) (As := [vI 27]) (rest := []) hx (ctX4_write Γ M_35 g hg 27 (by decide) (by decide)) mlX5_60 (obX4 hg) (dq tX5_readsTest 33 rfl) rfl (Nat.le_of_ble_eq_true rfl) (Nat.le_of_ble_eq_true rfl) (Nat.le_of_ble_eq_true rfl) rfl (fun M_50 p_52 => ?_)
                have f_53 := p_52
                refine g_aload_n (n := 65) hx 3 (dq tX5_readsTest 34 rfl) rfl rfl ?_
                refine g_getR (n := 68) hx glX5_9 (sX5_0 (by decide)) (dq tX5_readsTest 35 rfl) rfl ?_
                refine g_ldcS (n := 70) (q := 29) hx rfl rfl rfl (dq tX5_readsTest 36 rfl) rfl ?_
                refine g_callVi (n := 73) (As := [sR Γ 29]) (rest := []) hx (ctX7_takesWord Γ M_50 29 _ rfl (by decide)) mlX5_52 (obX7 (by decide)) (dq tX5_readsTest 37 rfl) rfl (Nat.le_of_ble_eq_true rfl) (Nat.le_of_ble_eq_true rfl) (Nat.le_of_ble_eq_true rfl) rfl (fun z_54 M_55 h_56 p_57 => ?_)
                obtain ⟨f_58, b_59⟩ := p_57
                refine g_istore (n := 75) (lv' := [(4, vI z_54), (3, vI z_34), (5, vI i_1), (0, aR Γ 18), (1, aR Γ g), (2, vI depth)]) hx (dq tX5_readsTest 38 rfl) (by decide) rfl rfl ?_
                refine g_iload (n := 77) hx 0 (dq tX5_readsTest 39 rfl) rfl rfl ?_
                refine g_if_ne (n := 80) (t := 82) hx (dq tX5_readsTest 40 rfl) (by decide) rfl h_56 (fun c_60 => ?_) (fun c_60 => ?_)
                · have b_59 := b_59.resolve_left c_60
                  refine g_iinc (n := 85) (lv' := [(5, vI (i_1 + 1)), (4, vI z_54), (3, vI z_34), (0, aR Γ 18), (1, aR Γ g), (2, vI depth)]) hx 2 (dq tX5_readsTest 43 rfl) rfl (by decide) rfl rfl ?_
                  refine g_goto (n := 8) hx (dq tX5_readsTest 44 rfl) (by decide) ?_
                  exact ih_6 _ (by omega) (i_1 + 1) z_54 z_34 M_55 (by omega) (by omega) (by omega) (by omega) (by omega) (by omega) (fun u_ v_ huv_ => ((((((f_58 u_ v_ (by omega)).trans (f_53 u_ v_ (by omega))).trans (f_38 u_ v_ (by omega))).trans (f_32 u_ v_ (by omega))).trans (f_27 u_ v_ (by omega))).trans (f_7 u_ v_ (by omega)))) rfl
                · clear b_59
                  refine g_iconst (n := 81) hx (dq tX5_readsTest 41 rfl) rfl ?_
                  exact g_zret hx hr (dq tX5_readsTest 42 rfl) (by omega) ⟨(fun u_ v_ huv_ => ((((((f_58 u_ v_ (by omega)).trans (f_53 u_ v_ (by omega))).trans (f_38 u_ v_ (by omega))).trans (f_32 u_ v_ (by omega))).trans (f_27 u_ v_ (by omega))).trans (f_7 u_ v_ (by omega)))), (by omega)⟩
            · have b_39 := b_39.resolve_left c_40
              refine g_goto (n := 82) hx (dq tX5_readsTest 28 rfl) (by decide) ?_
              refine g_iinc (n := 85) (lv' := [(5, vI (i_1 + 1)), (3, vI z_34), (4, vI i_2), (0, aR Γ 18), (1, aR Γ g), (2, vI depth)]) hx 1 (dq tX5_readsTest 43 rfl) rfl (by decide) rfl rfl ?_
              refine g_goto (n := 8) hx (dq tX5_readsTest 44 rfl) (by decide) ?_
              refine g_lv [0, 2, 1, 3, 4, 5] rfl ?_
              exact ih_6 _ (by omega) (i_1 + 1) i_2 z_34 M_35 (by omega) (by omega) (by omega) (by omega) (by omega) (by omega) (fun u_ v_ huv_ => ((((f_38 u_ v_ (by omega)).trans (f_32 u_ v_ (by omega))).trans (f_27 u_ v_ (by omega))).trans (f_7 u_ v_ (by omega)))) rfl
          refine g_if_eq (n := 30) (t := 36) hx (dq tX5_readsTest 17 rfl) (by decide) rfl ⟨by omega, by omega⟩ (fun c_30 => ?_) (fun c_30 => ?_)
          · exact J_33 M_24 (fun _ _ _ => rfl)
          · refine g_aload_n (n := 31) hx 4 (dq tX5_readsTest 18 rfl) rfl rfl ?_
            refine g_bipush (n := 33) hx (dq tX5_readsTest 19 rfl) rfl (by decide) ?_
            refine g_callVv (n := 36) (As := [vI 26]) (rest := []) hx (ctX4_write Γ M_24 g hg 26 (by decide) (by decide)) mlX5_60 (obX4 hg) (dq tX5_readsTest 20 rfl) rfl (Nat.le_of_ble_eq_true rfl) (Nat.le_of_ble_eq_true rfl) (Nat.le_of_ble_eq_true rfl) rfl (fun M_62 p_64 => ?_)
            have f_65 := p_64
            exact J_33 M_62 (fun u_ v_ huv_ => (f_65 u_ v_ (by omega)))
        · clear b_28
          refine g_iconst (n := 25) hx (dq tX5_readsTest 14 rfl) rfl ?_
          exact g_zret hx hr (dq tX5_readsTest 15 rfl) (by omega) ⟨(fun u_ v_ huv_ => ((f_27 u_ v_ (by omega)).trans (f_7 u_ v_ (by omega)))), (by omega)⟩
  exact L_5 _ 0 0 0 M (by omega) (by omega) (by omega) (by omega) (by omega) (by omega) (fun _ _ _ => rfl) rfl

abbrev qctfact_1 (M : zM) (g : Nat) (depth : Int) (z : Int) (M' : zM) : Prop := (∀ u_ v_, (u_ ≠ 7 ∨ v_ ≠ 2) ∧ (u_ ≠ 7 ∨ v_ ≠ 3) ∧ (u_ ≠ 7 ∨ v_ ≠ 4) ∧ (u_ ≠ 7 ∨ v_ ≠ 5) ∧ (u_ ≠ 18 ∨ v_ ≠ 1) ∧ (u_ ≠ g ∨ v_ ≠ 1) ∧ (u_ ≠ g ∨ v_ ≠ 2) ∧ (u_ ≠ g ∨ v_ ≠ 3) ∧ u_ ≠ g + 1 → M' u_ v_ = M u_ v_) ∧ (z = 0 ∨ (z = 1))
set_option maxHeartbeats 4000000 in
set_option maxRecDepth 100000 in
theorem ctfact_1 (Γ : Gam) (M : zM) (g : Nat) (hg : isX4 g) (depth : Int) (hdepthl : 1 ≤ depth) (hdepthu : depth ≤ 1)  : CtI Γ yX5_readsFact cX5_readsFact 6 (some .boolean) 25 607 [aR Γ 18, aR Γ g, vI depth] M (qctfact_1 M g depth) := by
  refine met_i (by decide) (Nat.le_of_ble_eq_true rfl) (fun x hx hr => ?_)
  show G Γ x 6 (QI Γ x (qctfact_1 M g depth)) M 0 [(0, aR Γ 18), (1, aR Γ g), (2, vI depth)] []
  refine g_aload_n (n := 1) hx 0 (dq tX5_readsFact 0 rfl) rfl rfl ?_
  refine g_getR (n := 4) hx glX5_9 (sX5_0 (by decide)) (dq tX5_readsFact 1 rfl) rfl ?_
  refine g_getI (n := 7) hx glX5_67 (sX7_4 (by decide)) (dq tX5_readsFact 2 rfl) rfl (fun h_1l h_1u => ?_)
  refine g_bipush (n := 9) hx (dq tX5_readsFact 3 rfl) rfl (by decide) ?_
  have J_4 : ∀ (j_3 : Int),  (0 ≤ j_3) → (j_3 ≤ 1) → G Γ x 6 (QI Γ x (qctfact_1 M g depth)) M 17 [(0, aR Γ 18), (1, aR Γ g), (2, vI depth)] [vI j_3] := by
    intro j_3 h_5 h_6
    refine g_istore_n (n := 18) (lv' := [(3, vI j_3), (0, aR Γ 18), (1, aR Γ g), (2, vI depth)]) hx (dq tX5_readsFact 8 rfl) (by decide) rfl rfl ?_
    refine g_aload_n (n := 19) hx 1 (dq tX5_readsFact 9 rfl) rfl rfl ?_
    refine g_getR (n := 22) hx glX5_9 (sX5_0 (by decide)) (dq tX5_readsFact 10 rfl) rfl ?_
    refine g_ldcS (n := 24) (q := 30) hx rfl rfl rfl (dq tX5_readsFact 11 rfl) rfl ?_
    refine g_callVi (n := 27) (As := [sR Γ 30]) (rest := []) hx (ctX7_wordIn Γ M 30 _ rfl (by decide)) mlX5_31 (obX7 (by decide)) (dq tX5_readsFact 12 rfl) rfl (Nat.le_of_ble_eq_true rfl) (Nat.le_of_ble_eq_true rfl) (Nat.le_of_ble_eq_true rfl) rfl (fun z_7 M_8 h_9 p_10 => ?_)
    obtain rfl := p_10
    have J_14 : ∀ (j_13 : Int),  (0 ≤ j_13) → (j_13 ≤ 1) → G Γ x 6 (QI Γ x (qctfact_1 M g depth)) M 35 [(3, vI j_3), (0, aR Γ 18), (1, aR Γ g), (2, vI depth)] [vI j_13] := by
      intro j_13 h_15 h_16
      refine g_istore (n := 37) (lv' := [(4, vI j_13), (3, vI j_3), (0, aR Γ 18), (1, aR Γ g), (2, vI depth)]) hx (dq tX5_readsFact 17 rfl) (by decide) rfl rfl ?_
      refine g_iload_n (n := 38) hx 1 (dq tX5_readsFact 18 rfl) rfl rfl ?_
      refine g_if_ne (n := 41) (t := 86) hx (dq tX5_readsFact 19 rfl) (by decide) rfl ⟨by omega, by omega⟩ (fun c_17 => ?_) (fun c_17 => ?_)
      · refine g_iload_n (n := 87) hx 4 (dq tX5_readsFact 45 rfl) rfl rfl ?_
        refine g_bipush (n := 89) hx (dq tX5_readsFact 46 rfl) rfl (by decide) ?_
        refine g_icmp_lt (n := 92) (t := 101) hx (dq tX5_readsFact 47 rfl) (by decide) rfl (zrI hdepthl hdepthu (by decide) (by decide)) ⟨by decide, by decide⟩ (fun c_18 => ?_) (fun c_18 => ?_)
        · refine g_aload_n (n := 102) hx 2 (dq tX5_readsFact 53 rfl) rfl rfl ?_
          refine g_getR (n := 105) hx glX5_9 (sX5_0 (by decide)) (dq tX5_readsFact 54 rfl) rfl ?_
          refine g_callVv (n := 108) (As := []) (rest := []) hx (ctX7_pass Γ M ) mlX5_39 (obX7 (by decide)) (dq tX5_readsFact 55 rfl) rfl (Nat.le_of_ble_eq_true rfl) (Nat.le_of_ble_eq_true rfl) (Nat.le_of_ble_eq_true rfl) rfl (fun M_20 p_22 => ?_)
          have f_23 := p_22
          refine g_iload (n := 110) hx 0 (dq tX5_readsFact 56 rfl) rfl rfl ?_
          refine g_if_eq (n := 113) (t := 134) hx (dq tX5_readsFact 57 rfl) (by decide) rfl ⟨by omega, by omega⟩ (fun c_24 => ?_) (fun c_24 => ?_)
          · refine g_aload_n (n := 135) hx 2 (dq tX5_readsFact 72 rfl) rfl rfl ?_
            refine g_aload_n (n := 136) hx 3 (dq tX5_readsFact 73 rfl) rfl rfl ?_
            refine g_iload_n (n := 137) hx 4 (dq tX5_readsFact 74 rfl) rfl rfl ?_
            refine g_iconst (n := 138) hx (dq tX5_readsFact 75 rfl) rfl ?_
            refine g_iadd (n := 139) hx (dq tX5_readsFact 76 rfl) rfl ?_
            refine g_callVi (n := 142) (As := [aR Γ g, vI (depth + 1)]) (rest := []) hx (cttest_2 Γ M_20 g hg (depth + 1) (by omega) (by omega)) mlX5_56 (obX5 (by decide)) (dq tX5_readsFact 77 rfl) rfl (Nat.le_of_ble_eq_true rfl) (Nat.le_of_ble_eq_true rfl) (Nat.le_of_ble_eq_true rfl) rfl (fun z_25 M_26 h_27 p_28 => ?_)
            obtain ⟨f_29, b_30⟩ := p_28
            refine g_if_ne (n := 145) (t := 147) hx (dq tX5_readsFact 78 rfl) (by decide) rfl h_27 (fun c_31 => ?_) (fun c_31 => ?_)
            · have b_30 := b_30.resolve_left c_31
              refine g_aload_n (n := 148) hx 2 (dq tX5_readsFact 81 rfl) rfl rfl ?_
              refine g_getR (n := 151) hx glX5_9 (sX5_0 (by decide)) (dq tX5_readsFact 82 rfl) rfl ?_
              refine g_getI (n := 154) hx glX5_67 (sX7_4 (by decide)) (dq tX5_readsFact 83 rfl) rfl (fun h_32l h_32u => ?_)
              refine g_bipush (n := 156) hx (dq tX5_readsFact 84 rfl) rfl (by decide) ?_
              refine g_icmp_eq (n := 159) (t := 168) hx (dq tX5_readsFact 85 rfl) (by decide) rfl (zrI h_32l h_32u (by decide) (by decide)) ⟨by decide, by decide⟩ (fun c_33 => ?_) (fun c_33 => ?_)
              · refine g_aload_n (n := 169) hx 2 (dq tX5_readsFact 91 rfl) rfl rfl ?_
                refine g_getR (n := 172) hx glX5_9 (sX5_0 (by decide)) (dq tX5_readsFact 92 rfl) rfl ?_
                refine g_callVv (n := 175) (As := []) (rest := []) hx (ctX7_pass Γ M_26 ) mlX5_39 (obX7 (by decide)) (dq tX5_readsFact 93 rfl) rfl (Nat.le_of_ble_eq_true rfl) (Nat.le_of_ble_eq_true rfl) (Nat.le_of_ble_eq_true rfl) rfl (fun M_35 p_37 => ?_)
                have f_38 := p_37
                refine g_iconst (n := 176) hx (dq tX5_readsFact 94 rfl) rfl ?_
                exact g_zret hx hr (dq tX5_readsFact 95 rfl) (by omega) ⟨(fun u_ v_ huv_ => (((f_38 u_ v_ (by omega)).trans (f_29 u_ v_ (by omega))).trans (f_23 u_ v_ (by omega)))), (by omega)⟩
              · refine g_aload_n (n := 160) hx 2 (dq tX5_readsFact 86 rfl) rfl rfl ?_
                refine g_getR (n := 163) hx glX5_9 (sX5_0 (by decide)) (dq tX5_readsFact 87 rfl) rfl ?_
                refine g_iconst (n := 164) hx (dq tX5_readsFact 88 rfl) rfl ?_
                refine g_callVi (n := 167) (As := [vI 0]) (rest := []) hx (ctX7_fails Γ M_26 0 (by decide) (by decide)) mlX5_35 (obX7 (by decide)) (dq tX5_readsFact 89 rfl) rfl (Nat.le_of_ble_eq_true rfl) (Nat.le_of_ble_eq_true rfl) (Nat.le_of_ble_eq_true rfl) rfl (fun z_39 M_40 h_41 p_42 => ?_)
                obtain ⟨f_43, h_44, h_45⟩ := p_42
                exact g_zret hx hr (dq tX5_readsFact 90 rfl) (by omega) ⟨(fun u_ v_ huv_ => (((f_43 u_ v_ (by omega)).trans (f_29 u_ v_ (by omega))).trans (f_23 u_ v_ (by omega)))), (by omega)⟩
            · clear b_30
              refine g_iconst (n := 146) hx (dq tX5_readsFact 79 rfl) rfl ?_
              exact g_zret hx hr (dq tX5_readsFact 80 rfl) (by omega) ⟨(fun u_ v_ huv_ => ((f_29 u_ v_ (by omega)).trans (f_23 u_ v_ (by omega)))), (by omega)⟩
          · refine g_aload_n (n := 114) hx 2 (dq tX5_readsFact 58 rfl) rfl rfl ?_
            refine g_aload_n (n := 115) hx 3 (dq tX5_readsFact 59 rfl) rfl rfl ?_
            refine g_iload_n (n := 116) hx 4 (dq tX5_readsFact 60 rfl) rfl rfl ?_
            refine g_iconst (n := 117) hx (dq tX5_readsFact 61 rfl) rfl ?_
            refine g_iadd (n := 118) hx (dq tX5_readsFact 62 rfl) rfl ?_
            refine g_callVi (n := 121) (As := [aR Γ g, vI (depth + 1)]) (rest := []) hx (ctfact_2 Γ M_20 g hg (depth + 1) (by omega) (by omega)) mlX5_70 (obX5 (by decide)) (dq tX5_readsFact 63 rfl) rfl (Nat.le_of_ble_eq_true rfl) (Nat.le_of_ble_eq_true rfl) (Nat.le_of_ble_eq_true rfl) rfl (fun z_46 M_47 h_48 p_49 => ?_)
            obtain ⟨f_50, b_51⟩ := p_49
            refine g_if_ne (n := 124) (t := 126) hx (dq tX5_readsFact 64 rfl) (by decide) rfl h_48 (fun c_52 => ?_) (fun c_52 => ?_)
            · have b_51 := b_51.resolve_left c_52
              refine g_aload_n (n := 127) hx 3 (dq tX5_readsFact 67 rfl) rfl rfl ?_
              refine g_bipush (n := 129) hx (dq tX5_readsFact 68 rfl) rfl (by decide) ?_
              refine g_callVv (n := 132) (As := [vI 28]) (rest := []) hx (ctX4_write Γ M_47 g hg 28 (by decide) (by decide)) mlX5_60 (obX4 hg) (dq tX5_readsFact 69 rfl) rfl (Nat.le_of_ble_eq_true rfl) (Nat.le_of_ble_eq_true rfl) (Nat.le_of_ble_eq_true rfl) rfl (fun M_54 p_56 => ?_)
              have f_57 := p_56
              refine g_iconst (n := 133) hx (dq tX5_readsFact 70 rfl) rfl ?_
              exact g_zret hx hr (dq tX5_readsFact 71 rfl) (by omega) ⟨(fun u_ v_ huv_ => (((f_57 u_ v_ (by omega)).trans (f_50 u_ v_ (by omega))).trans (f_23 u_ v_ (by omega)))), (by omega)⟩
            · clear b_51
              refine g_iconst (n := 125) hx (dq tX5_readsFact 65 rfl) rfl ?_
              exact g_zret hx hr (dq tX5_readsFact 66 rfl) (by omega) ⟨(fun u_ v_ huv_ => ((f_50 u_ v_ (by omega)).trans (f_23 u_ v_ (by omega)))), (by omega)⟩
        · omega
      · refine g_iload (n := 43) hx 0 (dq tX5_readsFact 20 rfl) rfl rfl ?_
        refine g_if_ne (n := 46) (t := 86) hx (dq tX5_readsFact 21 rfl) (by decide) rfl ⟨by omega, by omega⟩ (fun c_58 => ?_) (fun c_58 => ?_)
        · refine g_iload_n (n := 87) hx 4 (dq tX5_readsFact 45 rfl) rfl rfl ?_
          refine g_bipush (n := 89) hx (dq tX5_readsFact 46 rfl) rfl (by decide) ?_
          refine g_icmp_lt (n := 92) (t := 101) hx (dq tX5_readsFact 47 rfl) (by decide) rfl (zrI hdepthl hdepthu (by decide) (by decide)) ⟨by decide, by decide⟩ (fun c_59 => ?_) (fun c_59 => ?_)
          · refine g_aload_n (n := 102) hx 2 (dq tX5_readsFact 53 rfl) rfl rfl ?_
            refine g_getR (n := 105) hx glX5_9 (sX5_0 (by decide)) (dq tX5_readsFact 54 rfl) rfl ?_
            refine g_callVv (n := 108) (As := []) (rest := []) hx (ctX7_pass Γ M ) mlX5_39 (obX7 (by decide)) (dq tX5_readsFact 55 rfl) rfl (Nat.le_of_ble_eq_true rfl) (Nat.le_of_ble_eq_true rfl) (Nat.le_of_ble_eq_true rfl) rfl (fun M_61 p_63 => ?_)
            have f_64 := p_63
            refine g_iload (n := 110) hx 0 (dq tX5_readsFact 56 rfl) rfl rfl ?_
            refine g_if_eq (n := 113) (t := 134) hx (dq tX5_readsFact 57 rfl) (by decide) rfl ⟨by omega, by omega⟩ (fun c_65 => ?_) (fun c_65 => ?_)
            · omega
            · refine g_aload_n (n := 114) hx 2 (dq tX5_readsFact 58 rfl) rfl rfl ?_
              refine g_aload_n (n := 115) hx 3 (dq tX5_readsFact 59 rfl) rfl rfl ?_
              refine g_iload_n (n := 116) hx 4 (dq tX5_readsFact 60 rfl) rfl rfl ?_
              refine g_iconst (n := 117) hx (dq tX5_readsFact 61 rfl) rfl ?_
              refine g_iadd (n := 118) hx (dq tX5_readsFact 62 rfl) rfl ?_
              refine g_callVi (n := 121) (As := [aR Γ g, vI (depth + 1)]) (rest := []) hx (ctfact_2 Γ M_61 g hg (depth + 1) (by omega) (by omega)) mlX5_70 (obX5 (by decide)) (dq tX5_readsFact 63 rfl) rfl (Nat.le_of_ble_eq_true rfl) (Nat.le_of_ble_eq_true rfl) (Nat.le_of_ble_eq_true rfl) rfl (fun z_66 M_67 h_68 p_69 => ?_)
              obtain ⟨f_70, b_71⟩ := p_69
              refine g_if_ne (n := 124) (t := 126) hx (dq tX5_readsFact 64 rfl) (by decide) rfl h_68 (fun c_72 => ?_) (fun c_72 => ?_)
              · have b_71 := b_71.resolve_left c_72
                refine g_aload_n (n := 127) hx 3 (dq tX5_readsFact 67 rfl) rfl rfl ?_
                refine g_bipush (n := 129) hx (dq tX5_readsFact 68 rfl) rfl (by decide) ?_
                refine g_callVv (n := 132) (As := [vI 28]) (rest := []) hx (ctX4_write Γ M_67 g hg 28 (by decide) (by decide)) mlX5_60 (obX4 hg) (dq tX5_readsFact 69 rfl) rfl (Nat.le_of_ble_eq_true rfl) (Nat.le_of_ble_eq_true rfl) (Nat.le_of_ble_eq_true rfl) rfl (fun M_74 p_76 => ?_)
                have f_77 := p_76
                refine g_iconst (n := 133) hx (dq tX5_readsFact 70 rfl) rfl ?_
                exact g_zret hx hr (dq tX5_readsFact 71 rfl) (by omega) ⟨(fun u_ v_ huv_ => (((f_77 u_ v_ (by omega)).trans (f_70 u_ v_ (by omega))).trans (f_64 u_ v_ (by omega)))), (by omega)⟩
              · clear b_71
                refine g_iconst (n := 125) hx (dq tX5_readsFact 65 rfl) rfl ?_
                exact g_zret hx hr (dq tX5_readsFact 66 rfl) (by omega) ⟨(fun u_ v_ huv_ => ((f_70 u_ v_ (by omega)).trans (f_64 u_ v_ (by omega)))), (by omega)⟩
          · omega
        · refine g_aload_n (n := 47) hx 2 (dq tX5_readsFact 22 rfl) rfl rfl ?_
          refine g_aload_n (n := 48) hx 3 (dq tX5_readsFact 23 rfl) rfl rfl ?_
          refine g_callVi (n := 51) (As := [aR Γ g]) (rest := []) hx (ctX5_readsSum Γ M g hg) mlX5_46 (obX5 (by decide)) (dq tX5_readsFact 24 rfl) rfl (Nat.le_of_ble_eq_true rfl) (Nat.le_of_ble_eq_true rfl) (Nat.le_of_ble_eq_true rfl) rfl (fun z_78 M_79 h_80 p_81 => ?_)
          obtain ⟨f_82, b_83⟩ := p_81
          refine g_if_ne (n := 54) (t := 56) hx (dq tX5_readsFact 25 rfl) (by decide) rfl h_80 (fun c_84 => ?_) (fun c_84 => ?_)
          · have b_83 := b_83.resolve_left c_84
            refine g_aload_n (n := 57) hx 2 (dq tX5_readsFact 28 rfl) rfl rfl ?_
            refine g_callVi (n := 60) (As := []) (rest := []) hx (ctX5_readSign Γ M_79 ) mlX5_79 (obX5 (by decide)) (dq tX5_readsFact 29 rfl) rfl (Nat.le_of_ble_eq_true rfl) (Nat.le_of_ble_eq_true rfl) (Nat.le_of_ble_eq_true rfl) rfl (fun z_85 M_86 h_87 p_88 => ?_)
            have f_89 := p_88
            refine g_istore (n := 62) (lv' := [(5, vI z_85), (4, vI j_13), (3, vI j_3), (0, aR Γ 18), (1, aR Γ g), (2, vI depth)]) hx (dq tX5_readsFact 30 rfl) (by decide) rfl rfl ?_
            refine g_iload (n := 64) hx 0 (dq tX5_readsFact 31 rfl) rfl rfl ?_
            refine g_iconst (n := 65) hx (dq tX5_readsFact 32 rfl) rfl ?_
            refine g_icmp_eq (n := 68) (t := 76) hx (dq tX5_readsFact 33 rfl) (by decide) rfl h_87 ⟨by decide, by decide⟩ (fun c_90 => ?_) (fun c_90 => ?_)
            · refine g_iconst (n := 77) hx (dq tX5_readsFact 38 rfl) rfl ?_
              exact g_zret hx hr (dq tX5_readsFact 39 rfl) (by omega) ⟨(fun u_ v_ huv_ => ((f_89 u_ v_ (by omega)).trans (f_82 u_ v_ (by omega)))), (by omega)⟩
            · refine g_aload_n (n := 69) hx 3 (dq tX5_readsFact 34 rfl) rfl rfl ?_
              refine g_aload_n (n := 70) hx 4 (dq tX5_readsFact 35 rfl) rfl rfl ?_
              refine g_callVi (n := 73) (As := [aR Γ g]) (rest := []) hx (ctX5_readsSum Γ M_86 g hg) mlX5_46 (obX5 (by decide)) (dq tX5_readsFact 36 rfl) rfl (Nat.le_of_ble_eq_true rfl) (Nat.le_of_ble_eq_true rfl) (Nat.le_of_ble_eq_true rfl) rfl (fun z_91 M_92 h_93 p_94 => ?_)
              obtain ⟨f_95, b_96⟩ := p_94
              refine g_if_ne (n := 76) (t := 78) hx (dq tX5_readsFact 37 rfl) (by decide) rfl h_93 (fun c_97 => ?_) (fun c_97 => ?_)
              · have b_96 := b_96.resolve_left c_97
                refine g_aload_n (n := 79) hx 4 (dq tX5_readsFact 40 rfl) rfl rfl ?_
                refine g_iload (n := 81) hx 0 (dq tX5_readsFact 41 rfl) rfl rfl ?_
                refine g_callVv (n := 84) (As := [vI z_85]) (rest := []) hx (ctX4_write Γ M_92 g hg z_85 (by omega) (by omega)) mlX5_60 (obX4 hg) (dq tX5_readsFact 42 rfl) rfl (Nat.le_of_ble_eq_true rfl) (Nat.le_of_ble_eq_true rfl) (Nat.le_of_ble_eq_true rfl) rfl (fun M_99 p_101 => ?_)
                have f_102 := p_101
                refine g_iconst (n := 85) hx (dq tX5_readsFact 43 rfl) rfl ?_
                exact g_zret hx hr (dq tX5_readsFact 44 rfl) (by omega) ⟨(fun u_ v_ huv_ => ((((f_102 u_ v_ (by omega)).trans (f_95 u_ v_ (by omega))).trans (f_89 u_ v_ (by omega))).trans (f_82 u_ v_ (by omega)))), (by omega)⟩
              · clear b_96
                refine g_iconst (n := 77) hx (dq tX5_readsFact 38 rfl) rfl ?_
                exact g_zret hx hr (dq tX5_readsFact 39 rfl) (by omega) ⟨(fun u_ v_ huv_ => (((f_95 u_ v_ (by omega)).trans (f_89 u_ v_ (by omega))).trans (f_82 u_ v_ (by omega)))), (by omega)⟩
          · clear b_83
            refine g_iconst (n := 55) hx (dq tX5_readsFact 26 rfl) rfl ?_
            exact g_zret hx hr (dq tX5_readsFact 27 rfl) (by omega) ⟨(fun u_ v_ huv_ => (f_82 u_ v_ (by omega))), (by omega)⟩
    refine g_if_ne (n := 30) (t := 34) hx (dq tX5_readsFact 13 rfl) (by decide) rfl h_9 (fun c_12 => ?_) (fun c_12 => ?_)
    · refine g_iconst (n := 35) hx (dq tX5_readsFact 16 rfl) rfl ?_
      exact J_14 0 (by omega) (by omega)
    · refine g_iconst (n := 31) hx (dq tX5_readsFact 14 rfl) rfl ?_
      refine g_goto (n := 35) hx (dq tX5_readsFact 15 rfl) (by decide) ?_
      exact J_14 1 (by omega) (by omega)
  refine g_icmp_ne (n := 12) (t := 16) hx (dq tX5_readsFact 4 rfl) (by decide) rfl (zrI h_1l h_1u (by decide) (by decide)) ⟨by decide, by decide⟩ (fun c_2 => ?_) (fun c_2 => ?_)
  · refine g_iconst (n := 17) hx (dq tX5_readsFact 7 rfl) rfl ?_
    exact J_4 0 (by omega) (by omega)
  · refine g_iconst (n := 13) hx (dq tX5_readsFact 5 rfl) rfl ?_
    refine g_goto (n := 17) hx (dq tX5_readsFact 6 rfl) (by decide) ?_
    exact J_4 1 (by omega) (by omega)

abbrev qcttest_1 (M : zM) (g : Nat) (depth : Int) (z : Int) (M' : zM) : Prop := (∀ u_ v_, (u_ ≠ 7 ∨ v_ ≠ 2) ∧ (u_ ≠ 7 ∨ v_ ≠ 3) ∧ (u_ ≠ 7 ∨ v_ ≠ 4) ∧ (u_ ≠ 7 ∨ v_ ≠ 5) ∧ (u_ ≠ 18 ∨ v_ ≠ 1) ∧ (u_ ≠ g ∨ v_ ≠ 1) ∧ (u_ ≠ g ∨ v_ ≠ 2) ∧ (u_ ≠ g ∨ v_ ≠ 3) ∧ u_ ≠ g + 1 → M' u_ v_ = M u_ v_) ∧ (z = 0 ∨ (z = 1))
set_option maxHeartbeats 4000000 in
set_option maxRecDepth 100000 in
theorem cttest_1 (Γ : Gam) (M : zM) (g : Nat) (hg : isX4 g) (depth : Int) (hdepthl : 1 ≤ depth) (hdepthu : depth ≤ 1)  : CtI Γ yX5_readsTest cX5_readsTest 6 (some .boolean) 26 632 [aR Γ 18, aR Γ g, vI depth] M (qcttest_1 M g depth) := by
  refine met_i (by decide) (Nat.le_of_ble_eq_true rfl) (fun x hx hr => ?_)
  show G Γ x 6 (QI Γ x (qcttest_1 M g depth)) M 0 [(0, aR Γ 18), (1, aR Γ g), (2, vI depth)] []
  refine g_iconst (n := 1) hx (dq tX5_readsTest 0 rfl) rfl ?_
  refine g_istore_n (n := 2) (lv' := [(3, vI 0), (0, aR Γ 18), (1, aR Γ g), (2, vI depth)]) hx (dq tX5_readsTest 1 rfl) (by decide) rfl rfl ?_
  refine g_iconst (n := 3) hx (dq tX5_readsTest 2 rfl) rfl ?_
  refine g_istore (n := 5) (lv' := [(4, vI 0), (3, vI 0), (0, aR Γ 18), (1, aR Γ g), (2, vI depth)]) hx (dq tX5_readsTest 3 rfl) (by decide) rfl rfl ?_
  refine g_iconst (n := 6) hx (dq tX5_readsTest 4 rfl) rfl ?_
  refine g_istore (n := 8) (lv' := [(5, vI 0), (4, vI 0), (3, vI 0), (0, aR Γ 18), (1, aR Γ g), (2, vI depth)]) hx (dq tX5_readsTest 5 rfl) (by decide) rfl rfl ?_
  have L_5 : ∀ (n_ : Nat) (i_1 : Int) (i_2 : Int) (i_3 : Int) (M_4 : zM), (0 ≤ i_1) → (i_1 ≤ 60) → (0 ≤ i_2) → (i_2 ≤ 1) → (0 ≤ i_3) → (i_3 ≤ 1) → (∀ u_ v_, (u_ ≠ 7 ∨ v_ ≠ 2) ∧ (u_ ≠ 7 ∨ v_ ≠ 3) ∧ (u_ ≠ 7 ∨ v_ ≠ 4) ∧ (u_ ≠ g ∨ v_ ≠ 1) ∧ (u_ ≠ g ∨ v_ ≠ 2) ∧ (u_ ≠ g ∨ v_ ≠ 3) ∧ u_ ≠ g + 1 ∧ (u_ ≠ 7 ∨ v_ ≠ 5) ∧ (u_ ≠ 18 ∨ v_ ≠ 1) → M_4 u_ v_ = M u_ v_) → ((60 - i_1).toNat = n_) → G Γ x 6 (QI Γ x (qcttest_1 M g depth)) M_4 8 [(5, vI i_1), (4, vI i_2), (3, vI i_3), (0, aR Γ 18), (1, aR Γ g), (2, vI depth)] [] := by
    intro n_
    induction n_ using Nat.strongRecOn with
    | _ n_ ih_6 =>
      intro i_1 i_2 i_3 M_4 h_9 h_10 h_11 h_12 h_13 h_14 f_7 hm_8
      refine g_iload (n := 10) hx 0 (dq tX5_readsTest 6 rfl) rfl rfl ?_
      refine g_bipush (n := 12) hx (dq tX5_readsTest 7 rfl) rfl (by decide) ?_
      refine g_icmp_ge (n := 15) (t := 88) hx (dq tX5_readsTest 8 rfl) (by decide) rfl ⟨by omega, by omega⟩ ⟨by decide, by decide⟩ (fun c_15 => ?_) (fun c_15 => ?_)
      · refine g_aload_n (n := 89) hx 3 (dq tX5_readsTest 45 rfl) rfl rfl ?_
        refine g_getR (n := 92) hx glX5_9 (sX5_0 (by decide)) (dq tX5_readsTest 46 rfl) rfl ?_
        refine g_iconst (n := 93) hx (dq tX5_readsTest 47 rfl) rfl ?_
        refine g_callVi (n := 96) (As := [vI 0]) (rest := []) hx (ctX7_fails Γ M_4 0 (by decide) (by decide)) mlX5_35 (obX7 (by decide)) (dq tX5_readsTest 48 rfl) rfl (Nat.le_of_ble_eq_true rfl) (Nat.le_of_ble_eq_true rfl) (Nat.le_of_ble_eq_true rfl) rfl (fun z_16 M_17 h_18 p_19 => ?_)
        obtain ⟨f_20, h_21, h_22⟩ := p_19
        exact g_zret hx hr (dq tX5_readsTest 49 rfl) (by omega) ⟨(fun u_ v_ huv_ => ((f_20 u_ v_ (by omega)).trans (f_7 u_ v_ (by omega)))), (by omega)⟩
      · refine g_aload_n (n := 16) hx 3 (dq tX5_readsTest 9 rfl) rfl rfl ?_
        refine g_aload_n (n := 17) hx 4 (dq tX5_readsTest 10 rfl) rfl rfl ?_
        refine g_iload_n (n := 18) hx 5 (dq tX5_readsTest 11 rfl) rfl rfl ?_
        refine g_callVi (n := 21) (As := [aR Γ g, vI depth]) (rest := []) hx (ctfact_1 Γ M_4 g hg depth (by omega) (by omega)) mlX5_70 (obX5 (by decide)) (dq tX5_readsTest 12 rfl) rfl (Nat.le_of_ble_eq_true rfl) (Nat.le_of_ble_eq_true rfl) (Nat.le_of_ble_eq_true rfl) rfl (fun z_23 M_24 h_25 p_26 => ?_)
        obtain ⟨f_27, b_28⟩ := p_26
        refine g_if_ne (n := 24) (t := 26) hx (dq tX5_readsTest 13 rfl) (by decide) rfl h_25 (fun c_29 => ?_) (fun c_29 => ?_)
        · have b_28 := b_28.resolve_left c_29
          refine g_iload_n (n := 27) hx 2 (dq tX5_readsTest 16 rfl) rfl rfl ?_
          have J_33 : ∀ (M_31 : zM),  (∀ u_ v_, (u_ ≠ g ∨ v_ ≠ 1) ∧ (u_ ≠ g ∨ v_ ≠ 2) ∧ (u_ ≠ g ∨ v_ ≠ 3) ∧ u_ ≠ g + 1 → M_31 u_ v_ = M_24 u_ v_) → G Γ x 6 (QI Γ x (qcttest_1 M g depth)) M_31 36 [(5, vI i_1), (4, vI i_2), (3, vI i_3), (0, aR Γ 18), (1, aR Γ g), (2, vI depth)] [] := by
            intro M_31 f_32
            refine g_aload_n (n := 37) hx 3 (dq tX5_readsTest 21 rfl) rfl rfl ?_
            refine g_getR (n := 40) hx glX5_9 (sX5_0 (by decide)) (dq tX5_readsTest 22 rfl) rfl ?_
            refine g_ldcS (n := 42) (q := 28) hx rfl rfl rfl (dq tX5_readsTest 23 rfl) rfl ?_
            refine g_callVi (n := 45) (As := [sR Γ 28]) (rest := []) hx (ctX7_takesWord Γ M_31 28 _ rfl (by decide)) mlX5_52 (obX7 (by decide)) (dq tX5_readsTest 24 rfl) rfl (Nat.le_of_ble_eq_true rfl) (Nat.le_of_ble_eq_true rfl) (Nat.le_of_ble_eq_true rfl) rfl (fun z_34 M_35 h_36 p_37 => ?_)
            obtain ⟨f_38, b_39⟩ := p_37
            refine g_istore_n (n := 46) (lv' := [(3, vI z_34), (5, vI i_1), (4, vI i_2), (0, aR Γ 18), (1, aR Γ g), (2, vI depth)]) hx (dq tX5_readsTest 25 rfl) (by decide) rfl rfl ?_
            refine g_iload_n (n := 47) hx 0 (dq tX5_readsTest 26 rfl) rfl rfl ?_
            refine g_if_eq (n := 50) (t := 53) hx (dq tX5_readsTest 27 rfl) (by decide) rfl h_36 (fun c_40 => ?_) (fun c_40 => ?_)
            · clear b_39
              refine g_iload (n := 55) hx 2 (dq tX5_readsTest 29 rfl) rfl rfl ?_
              refine g_if_eq (n := 58) (t := 64) hx (dq tX5_readsTest 30 rfl) (by decide) rfl ⟨by omega, by omega⟩ (fun c_41 => ?_) (fun c_41 => ?_)
              · refine g_aload_n (n := 65) hx 3 (dq tX5_readsTest 34 rfl) rfl rfl ?_
                refine g_getR (n := 68) hx glX5_9 (sX5_0 (by decide)) (dq tX5_readsTest 35 rfl) rfl ?_
                refine g_ldcS (n := 70) (q := 29) hx rfl rfl rfl (dq tX5_readsTest 36 rfl) rfl ?_
                refine g_callVi (n := 73) (As := [sR Γ 29]) (rest := []) hx (ctX7_takesWord Γ M_35 29 _ rfl (by decide)) mlX5_52 (obX7 (by decide)) (dq tX5_readsTest 37 rfl) rfl (Nat.le_of_ble_eq_true rfl) (Nat.le_of_ble_eq_true rfl) (Nat.le_of_ble_eq_true rfl) rfl (fun z_42 M_43 h_44 p_45 => ?_)
                obtain ⟨f_46, b_47⟩ := p_45
                refine g_istore (n := 75) (lv' := [(4, vI z_42), (3, vI z_34), (5, vI i_1), (0, aR Γ 18), (1, aR Γ g), (2, vI depth)]) hx (dq tX5_readsTest 38 rfl) (by decide) rfl rfl ?_
                refine g_iload (n := 77) hx 0 (dq tX5_readsTest 39 rfl) rfl rfl ?_
                refine g_if_ne (n := 80) (t := 82) hx (dq tX5_readsTest 40 rfl) (by decide) rfl h_44 (fun c_48 => ?_) (fun c_48 => ?_)
                · have b_47 := b_47.resolve_left c_48
                  refine g_iinc (n := 85) (lv' := [(5, vI (i_1 + 1)), (4, vI z_42), (3, vI z_34), (0, aR Γ 18), (1, aR Γ g), (2, vI depth)]) hx 2 (dq tX5_readsTest 43 rfl) rfl (by decide) rfl rfl ?_
                  refine g_goto (n := 8) hx (dq tX5_readsTest 44 rfl) (by decide) ?_
                  exact ih_6 _ (by omega) (i_1 + 1) z_42 z_34 M_43 (by omega) (by omega) (by omega) (by omega) (by omega) (by omega) (fun u_ v_ huv_ => (((((f_46 u_ v_ (by omega)).trans (f_38 u_ v_ (by omega))).trans (f_32 u_ v_ (by omega))).trans (f_27 u_ v_ (by omega))).trans (f_7 u_ v_ (by omega)))) rfl
                · clear b_47
                  refine g_iconst (n := 81) hx (dq tX5_readsTest 41 rfl) rfl ?_
                  exact g_zret hx hr (dq tX5_readsTest 42 rfl) (by omega) ⟨(fun u_ v_ huv_ => (((((f_46 u_ v_ (by omega)).trans (f_38 u_ v_ (by omega))).trans (f_32 u_ v_ (by omega))).trans (f_27 u_ v_ (by omega))).trans (f_7 u_ v_ (by omega)))), (by omega)⟩
              · refine g_aload_n (n := 59) hx 4 (dq tX5_readsTest 31 rfl) rfl rfl ?_
                refine g_bipush (n := 61) hx (dq tX5_readsTest 32 rfl) rfl (by decide) ?_
                refine g_callVv (n := 64) (As := [vI 27]) (rest := []) hx (ctX4_write Γ M_35 g hg 27 (by decide) (by decide)) mlX5_60 (obX4 hg) (dq tX5_readsTest 33 rfl) rfl (Nat.le_of_ble_eq_true rfl) (Nat.le_of_ble_eq_true rfl) (Nat.le_of_ble_eq_true rfl) rfl (fun M_50 p_52 => ?_)
                have f_53 := p_52
                refine g_aload_n (n := 65) hx 3 (dq tX5_readsTest 34 rfl) rfl rfl ?_
                refine g_getR (n := 68) hx glX5_9 (sX5_0 (by decide)) (dq tX5_readsTest 35 rfl) rfl ?_
                refine g_ldcS (n := 70) (q := 29) hx rfl rfl rfl (dq tX5_readsTest 36 rfl) rfl ?_
                refine g_callVi (n := 73) (As := [sR Γ 29]) (rest := []) hx (ctX7_takesWord Γ M_50 29 _ rfl (by decide)) mlX5_52 (obX7 (by decide)) (dq tX5_readsTest 37 rfl) rfl (Nat.le_of_ble_eq_true rfl) (Nat.le_of_ble_eq_true rfl) (Nat.le_of_ble_eq_true rfl) rfl (fun z_54 M_55 h_56 p_57 => ?_)
                obtain ⟨f_58, b_59⟩ := p_57
                refine g_istore (n := 75) (lv' := [(4, vI z_54), (3, vI z_34), (5, vI i_1), (0, aR Γ 18), (1, aR Γ g), (2, vI depth)]) hx (dq tX5_readsTest 38 rfl) (by decide) rfl rfl ?_
                refine g_iload (n := 77) hx 0 (dq tX5_readsTest 39 rfl) rfl rfl ?_
                refine g_if_ne (n := 80) (t := 82) hx (dq tX5_readsTest 40 rfl) (by decide) rfl h_56 (fun c_60 => ?_) (fun c_60 => ?_)
                · have b_59 := b_59.resolve_left c_60
                  refine g_iinc (n := 85) (lv' := [(5, vI (i_1 + 1)), (4, vI z_54), (3, vI z_34), (0, aR Γ 18), (1, aR Γ g), (2, vI depth)]) hx 2 (dq tX5_readsTest 43 rfl) rfl (by decide) rfl rfl ?_
                  refine g_goto (n := 8) hx (dq tX5_readsTest 44 rfl) (by decide) ?_
                  exact ih_6 _ (by omega) (i_1 + 1) z_54 z_34 M_55 (by omega) (by omega) (by omega) (by omega) (by omega) (by omega) (fun u_ v_ huv_ => ((((((f_58 u_ v_ (by omega)).trans (f_53 u_ v_ (by omega))).trans (f_38 u_ v_ (by omega))).trans (f_32 u_ v_ (by omega))).trans (f_27 u_ v_ (by omega))).trans (f_7 u_ v_ (by omega)))) rfl
                · clear b_59
                  refine g_iconst (n := 81) hx (dq tX5_readsTest 41 rfl) rfl ?_
                  exact g_zret hx hr (dq tX5_readsTest 42 rfl) (by omega) ⟨(fun u_ v_ huv_ => ((((((f_58 u_ v_ (by omega)).trans (f_53 u_ v_ (by omega))).trans (f_38 u_ v_ (by omega))).trans (f_32 u_ v_ (by omega))).trans (f_27 u_ v_ (by omega))).trans (f_7 u_ v_ (by omega)))), (by omega)⟩
            · have b_39 := b_39.resolve_left c_40
              refine g_goto (n := 82) hx (dq tX5_readsTest 28 rfl) (by decide) ?_
              refine g_iinc (n := 85) (lv' := [(5, vI (i_1 + 1)), (3, vI z_34), (4, vI i_2), (0, aR Γ 18), (1, aR Γ g), (2, vI depth)]) hx 1 (dq tX5_readsTest 43 rfl) rfl (by decide) rfl rfl ?_
              refine g_goto (n := 8) hx (dq tX5_readsTest 44 rfl) (by decide) ?_
              refine g_lv [0, 2, 1, 3, 4, 5] rfl ?_
              exact ih_6 _ (by omega) (i_1 + 1) i_2 z_34 M_35 (by omega) (by omega) (by omega) (by omega) (by omega) (by omega) (fun u_ v_ huv_ => ((((f_38 u_ v_ (by omega)).trans (f_32 u_ v_ (by omega))).trans (f_27 u_ v_ (by omega))).trans (f_7 u_ v_ (by omega)))) rfl
          refine g_if_eq (n := 30) (t := 36) hx (dq tX5_readsTest 17 rfl) (by decide) rfl ⟨by omega, by omega⟩ (fun c_30 => ?_) (fun c_30 => ?_)
          · exact J_33 M_24 (fun _ _ _ => rfl)
          · refine g_aload_n (n := 31) hx 4 (dq tX5_readsTest 18 rfl) rfl rfl ?_
            refine g_bipush (n := 33) hx (dq tX5_readsTest 19 rfl) rfl (by decide) ?_
            refine g_callVv (n := 36) (As := [vI 26]) (rest := []) hx (ctX4_write Γ M_24 g hg 26 (by decide) (by decide)) mlX5_60 (obX4 hg) (dq tX5_readsTest 20 rfl) rfl (Nat.le_of_ble_eq_true rfl) (Nat.le_of_ble_eq_true rfl) (Nat.le_of_ble_eq_true rfl) rfl (fun M_62 p_64 => ?_)
            have f_65 := p_64
            exact J_33 M_62 (fun u_ v_ huv_ => (f_65 u_ v_ (by omega)))
        · clear b_28
          refine g_iconst (n := 25) hx (dq tX5_readsTest 14 rfl) rfl ?_
          exact g_zret hx hr (dq tX5_readsTest 15 rfl) (by omega) ⟨(fun u_ v_ huv_ => ((f_27 u_ v_ (by omega)).trans (f_7 u_ v_ (by omega)))), (by omega)⟩
  exact L_5 _ 0 0 0 M (by omega) (by omega) (by omega) (by omega) (by omega) (by omega) (fun _ _ _ => rfl) rfl

abbrev qctfact_0 (M : zM) (g : Nat) (depth : Int) (z : Int) (M' : zM) : Prop := (∀ u_ v_, (u_ ≠ 7 ∨ v_ ≠ 2) ∧ (u_ ≠ 7 ∨ v_ ≠ 3) ∧ (u_ ≠ 7 ∨ v_ ≠ 4) ∧ (u_ ≠ 7 ∨ v_ ≠ 5) ∧ (u_ ≠ 18 ∨ v_ ≠ 1) ∧ (u_ ≠ g ∨ v_ ≠ 1) ∧ (u_ ≠ g ∨ v_ ≠ 2) ∧ (u_ ≠ g ∨ v_ ≠ 3) ∧ u_ ≠ g + 1 → M' u_ v_ = M u_ v_) ∧ (z = 0 ∨ (z = 1))
set_option maxHeartbeats 4000000 in
set_option maxRecDepth 100000 in
theorem ctfact_0 (Γ : Gam) (M : zM) (g : Nat) (hg : isX4 g) (depth : Int) (hdepthl : 0 ≤ depth) (hdepthu : depth ≤ 0)  : CtI Γ yX5_readsFact cX5_readsFact 6 (some .boolean) 27 657 [aR Γ 18, aR Γ g, vI depth] M (qctfact_0 M g depth) := by
  refine met_i (by decide) (Nat.le_of_ble_eq_true rfl) (fun x hx hr => ?_)
  show G Γ x 6 (QI Γ x (qctfact_0 M g depth)) M 0 [(0, aR Γ 18), (1, aR Γ g), (2, vI depth)] []
  refine g_aload_n (n := 1) hx 0 (dq tX5_readsFact 0 rfl) rfl rfl ?_
  refine g_getR (n := 4) hx glX5_9 (sX5_0 (by decide)) (dq tX5_readsFact 1 rfl) rfl ?_
  refine g_getI (n := 7) hx glX5_67 (sX7_4 (by decide)) (dq tX5_readsFact 2 rfl) rfl (fun h_1l h_1u => ?_)
  refine g_bipush (n := 9) hx (dq tX5_readsFact 3 rfl) rfl (by decide) ?_
  have J_4 : ∀ (j_3 : Int),  (0 ≤ j_3) → (j_3 ≤ 1) → G Γ x 6 (QI Γ x (qctfact_0 M g depth)) M 17 [(0, aR Γ 18), (1, aR Γ g), (2, vI depth)] [vI j_3] := by
    intro j_3 h_5 h_6
    refine g_istore_n (n := 18) (lv' := [(3, vI j_3), (0, aR Γ 18), (1, aR Γ g), (2, vI depth)]) hx (dq tX5_readsFact 8 rfl) (by decide) rfl rfl ?_
    refine g_aload_n (n := 19) hx 1 (dq tX5_readsFact 9 rfl) rfl rfl ?_
    refine g_getR (n := 22) hx glX5_9 (sX5_0 (by decide)) (dq tX5_readsFact 10 rfl) rfl ?_
    refine g_ldcS (n := 24) (q := 30) hx rfl rfl rfl (dq tX5_readsFact 11 rfl) rfl ?_
    refine g_callVi (n := 27) (As := [sR Γ 30]) (rest := []) hx (ctX7_wordIn Γ M 30 _ rfl (by decide)) mlX5_31 (obX7 (by decide)) (dq tX5_readsFact 12 rfl) rfl (Nat.le_of_ble_eq_true rfl) (Nat.le_of_ble_eq_true rfl) (Nat.le_of_ble_eq_true rfl) rfl (fun z_7 M_8 h_9 p_10 => ?_)
    obtain rfl := p_10
    have J_14 : ∀ (j_13 : Int),  (0 ≤ j_13) → (j_13 ≤ 1) → G Γ x 6 (QI Γ x (qctfact_0 M g depth)) M 35 [(3, vI j_3), (0, aR Γ 18), (1, aR Γ g), (2, vI depth)] [vI j_13] := by
      intro j_13 h_15 h_16
      refine g_istore (n := 37) (lv' := [(4, vI j_13), (3, vI j_3), (0, aR Γ 18), (1, aR Γ g), (2, vI depth)]) hx (dq tX5_readsFact 17 rfl) (by decide) rfl rfl ?_
      refine g_iload_n (n := 38) hx 1 (dq tX5_readsFact 18 rfl) rfl rfl ?_
      refine g_if_ne (n := 41) (t := 86) hx (dq tX5_readsFact 19 rfl) (by decide) rfl ⟨by omega, by omega⟩ (fun c_17 => ?_) (fun c_17 => ?_)
      · refine g_iload_n (n := 87) hx 4 (dq tX5_readsFact 45 rfl) rfl rfl ?_
        refine g_bipush (n := 89) hx (dq tX5_readsFact 46 rfl) rfl (by decide) ?_
        refine g_icmp_lt (n := 92) (t := 101) hx (dq tX5_readsFact 47 rfl) (by decide) rfl (zrI hdepthl hdepthu (by decide) (by decide)) ⟨by decide, by decide⟩ (fun c_18 => ?_) (fun c_18 => ?_)
        · refine g_aload_n (n := 102) hx 2 (dq tX5_readsFact 53 rfl) rfl rfl ?_
          refine g_getR (n := 105) hx glX5_9 (sX5_0 (by decide)) (dq tX5_readsFact 54 rfl) rfl ?_
          refine g_callVv (n := 108) (As := []) (rest := []) hx (ctX7_pass Γ M ) mlX5_39 (obX7 (by decide)) (dq tX5_readsFact 55 rfl) rfl (Nat.le_of_ble_eq_true rfl) (Nat.le_of_ble_eq_true rfl) (Nat.le_of_ble_eq_true rfl) rfl (fun M_20 p_22 => ?_)
          have f_23 := p_22
          refine g_iload (n := 110) hx 0 (dq tX5_readsFact 56 rfl) rfl rfl ?_
          refine g_if_eq (n := 113) (t := 134) hx (dq tX5_readsFact 57 rfl) (by decide) rfl ⟨by omega, by omega⟩ (fun c_24 => ?_) (fun c_24 => ?_)
          · refine g_aload_n (n := 135) hx 2 (dq tX5_readsFact 72 rfl) rfl rfl ?_
            refine g_aload_n (n := 136) hx 3 (dq tX5_readsFact 73 rfl) rfl rfl ?_
            refine g_iload_n (n := 137) hx 4 (dq tX5_readsFact 74 rfl) rfl rfl ?_
            refine g_iconst (n := 138) hx (dq tX5_readsFact 75 rfl) rfl ?_
            refine g_iadd (n := 139) hx (dq tX5_readsFact 76 rfl) rfl ?_
            refine g_callVi (n := 142) (As := [aR Γ g, vI (depth + 1)]) (rest := []) hx (cttest_1 Γ M_20 g hg (depth + 1) (by omega) (by omega)) mlX5_56 (obX5 (by decide)) (dq tX5_readsFact 77 rfl) rfl (Nat.le_of_ble_eq_true rfl) (Nat.le_of_ble_eq_true rfl) (Nat.le_of_ble_eq_true rfl) rfl (fun z_25 M_26 h_27 p_28 => ?_)
            obtain ⟨f_29, b_30⟩ := p_28
            refine g_if_ne (n := 145) (t := 147) hx (dq tX5_readsFact 78 rfl) (by decide) rfl h_27 (fun c_31 => ?_) (fun c_31 => ?_)
            · have b_30 := b_30.resolve_left c_31
              refine g_aload_n (n := 148) hx 2 (dq tX5_readsFact 81 rfl) rfl rfl ?_
              refine g_getR (n := 151) hx glX5_9 (sX5_0 (by decide)) (dq tX5_readsFact 82 rfl) rfl ?_
              refine g_getI (n := 154) hx glX5_67 (sX7_4 (by decide)) (dq tX5_readsFact 83 rfl) rfl (fun h_32l h_32u => ?_)
              refine g_bipush (n := 156) hx (dq tX5_readsFact 84 rfl) rfl (by decide) ?_
              refine g_icmp_eq (n := 159) (t := 168) hx (dq tX5_readsFact 85 rfl) (by decide) rfl (zrI h_32l h_32u (by decide) (by decide)) ⟨by decide, by decide⟩ (fun c_33 => ?_) (fun c_33 => ?_)
              · refine g_aload_n (n := 169) hx 2 (dq tX5_readsFact 91 rfl) rfl rfl ?_
                refine g_getR (n := 172) hx glX5_9 (sX5_0 (by decide)) (dq tX5_readsFact 92 rfl) rfl ?_
                refine g_callVv (n := 175) (As := []) (rest := []) hx (ctX7_pass Γ M_26 ) mlX5_39 (obX7 (by decide)) (dq tX5_readsFact 93 rfl) rfl (Nat.le_of_ble_eq_true rfl) (Nat.le_of_ble_eq_true rfl) (Nat.le_of_ble_eq_true rfl) rfl (fun M_35 p_37 => ?_)
                have f_38 := p_37
                refine g_iconst (n := 176) hx (dq tX5_readsFact 94 rfl) rfl ?_
                exact g_zret hx hr (dq tX5_readsFact 95 rfl) (by omega) ⟨(fun u_ v_ huv_ => (((f_38 u_ v_ (by omega)).trans (f_29 u_ v_ (by omega))).trans (f_23 u_ v_ (by omega)))), (by omega)⟩
              · refine g_aload_n (n := 160) hx 2 (dq tX5_readsFact 86 rfl) rfl rfl ?_
                refine g_getR (n := 163) hx glX5_9 (sX5_0 (by decide)) (dq tX5_readsFact 87 rfl) rfl ?_
                refine g_iconst (n := 164) hx (dq tX5_readsFact 88 rfl) rfl ?_
                refine g_callVi (n := 167) (As := [vI 0]) (rest := []) hx (ctX7_fails Γ M_26 0 (by decide) (by decide)) mlX5_35 (obX7 (by decide)) (dq tX5_readsFact 89 rfl) rfl (Nat.le_of_ble_eq_true rfl) (Nat.le_of_ble_eq_true rfl) (Nat.le_of_ble_eq_true rfl) rfl (fun z_39 M_40 h_41 p_42 => ?_)
                obtain ⟨f_43, h_44, h_45⟩ := p_42
                exact g_zret hx hr (dq tX5_readsFact 90 rfl) (by omega) ⟨(fun u_ v_ huv_ => (((f_43 u_ v_ (by omega)).trans (f_29 u_ v_ (by omega))).trans (f_23 u_ v_ (by omega)))), (by omega)⟩
            · clear b_30
              refine g_iconst (n := 146) hx (dq tX5_readsFact 79 rfl) rfl ?_
              exact g_zret hx hr (dq tX5_readsFact 80 rfl) (by omega) ⟨(fun u_ v_ huv_ => ((f_29 u_ v_ (by omega)).trans (f_23 u_ v_ (by omega)))), (by omega)⟩
          · refine g_aload_n (n := 114) hx 2 (dq tX5_readsFact 58 rfl) rfl rfl ?_
            refine g_aload_n (n := 115) hx 3 (dq tX5_readsFact 59 rfl) rfl rfl ?_
            refine g_iload_n (n := 116) hx 4 (dq tX5_readsFact 60 rfl) rfl rfl ?_
            refine g_iconst (n := 117) hx (dq tX5_readsFact 61 rfl) rfl ?_
            refine g_iadd (n := 118) hx (dq tX5_readsFact 62 rfl) rfl ?_
            refine g_callVi (n := 121) (As := [aR Γ g, vI (depth + 1)]) (rest := []) hx (ctfact_1 Γ M_20 g hg (depth + 1) (by omega) (by omega)) mlX5_70 (obX5 (by decide)) (dq tX5_readsFact 63 rfl) rfl (Nat.le_of_ble_eq_true rfl) (Nat.le_of_ble_eq_true rfl) (Nat.le_of_ble_eq_true rfl) rfl (fun z_46 M_47 h_48 p_49 => ?_)
            obtain ⟨f_50, b_51⟩ := p_49
            refine g_if_ne (n := 124) (t := 126) hx (dq tX5_readsFact 64 rfl) (by decide) rfl h_48 (fun c_52 => ?_) (fun c_52 => ?_)
            · have b_51 := b_51.resolve_left c_52
              refine g_aload_n (n := 127) hx 3 (dq tX5_readsFact 67 rfl) rfl rfl ?_
              refine g_bipush (n := 129) hx (dq tX5_readsFact 68 rfl) rfl (by decide) ?_
              refine g_callVv (n := 132) (As := [vI 28]) (rest := []) hx (ctX4_write Γ M_47 g hg 28 (by decide) (by decide)) mlX5_60 (obX4 hg) (dq tX5_readsFact 69 rfl) rfl (Nat.le_of_ble_eq_true rfl) (Nat.le_of_ble_eq_true rfl) (Nat.le_of_ble_eq_true rfl) rfl (fun M_54 p_56 => ?_)
              have f_57 := p_56
              refine g_iconst (n := 133) hx (dq tX5_readsFact 70 rfl) rfl ?_
              exact g_zret hx hr (dq tX5_readsFact 71 rfl) (by omega) ⟨(fun u_ v_ huv_ => (((f_57 u_ v_ (by omega)).trans (f_50 u_ v_ (by omega))).trans (f_23 u_ v_ (by omega)))), (by omega)⟩
            · clear b_51
              refine g_iconst (n := 125) hx (dq tX5_readsFact 65 rfl) rfl ?_
              exact g_zret hx hr (dq tX5_readsFact 66 rfl) (by omega) ⟨(fun u_ v_ huv_ => ((f_50 u_ v_ (by omega)).trans (f_23 u_ v_ (by omega)))), (by omega)⟩
        · omega
      · refine g_iload (n := 43) hx 0 (dq tX5_readsFact 20 rfl) rfl rfl ?_
        refine g_if_ne (n := 46) (t := 86) hx (dq tX5_readsFact 21 rfl) (by decide) rfl ⟨by omega, by omega⟩ (fun c_58 => ?_) (fun c_58 => ?_)
        · refine g_iload_n (n := 87) hx 4 (dq tX5_readsFact 45 rfl) rfl rfl ?_
          refine g_bipush (n := 89) hx (dq tX5_readsFact 46 rfl) rfl (by decide) ?_
          refine g_icmp_lt (n := 92) (t := 101) hx (dq tX5_readsFact 47 rfl) (by decide) rfl (zrI hdepthl hdepthu (by decide) (by decide)) ⟨by decide, by decide⟩ (fun c_59 => ?_) (fun c_59 => ?_)
          · refine g_aload_n (n := 102) hx 2 (dq tX5_readsFact 53 rfl) rfl rfl ?_
            refine g_getR (n := 105) hx glX5_9 (sX5_0 (by decide)) (dq tX5_readsFact 54 rfl) rfl ?_
            refine g_callVv (n := 108) (As := []) (rest := []) hx (ctX7_pass Γ M ) mlX5_39 (obX7 (by decide)) (dq tX5_readsFact 55 rfl) rfl (Nat.le_of_ble_eq_true rfl) (Nat.le_of_ble_eq_true rfl) (Nat.le_of_ble_eq_true rfl) rfl (fun M_61 p_63 => ?_)
            have f_64 := p_63
            refine g_iload (n := 110) hx 0 (dq tX5_readsFact 56 rfl) rfl rfl ?_
            refine g_if_eq (n := 113) (t := 134) hx (dq tX5_readsFact 57 rfl) (by decide) rfl ⟨by omega, by omega⟩ (fun c_65 => ?_) (fun c_65 => ?_)
            · omega
            · refine g_aload_n (n := 114) hx 2 (dq tX5_readsFact 58 rfl) rfl rfl ?_
              refine g_aload_n (n := 115) hx 3 (dq tX5_readsFact 59 rfl) rfl rfl ?_
              refine g_iload_n (n := 116) hx 4 (dq tX5_readsFact 60 rfl) rfl rfl ?_
              refine g_iconst (n := 117) hx (dq tX5_readsFact 61 rfl) rfl ?_
              refine g_iadd (n := 118) hx (dq tX5_readsFact 62 rfl) rfl ?_
              refine g_callVi (n := 121) (As := [aR Γ g, vI (depth + 1)]) (rest := []) hx (ctfact_1 Γ M_61 g hg (depth + 1) (by omega) (by omega)) mlX5_70 (obX5 (by decide)) (dq tX5_readsFact 63 rfl) rfl (Nat.le_of_ble_eq_true rfl) (Nat.le_of_ble_eq_true rfl) (Nat.le_of_ble_eq_true rfl) rfl (fun z_66 M_67 h_68 p_69 => ?_)
              obtain ⟨f_70, b_71⟩ := p_69
              refine g_if_ne (n := 124) (t := 126) hx (dq tX5_readsFact 64 rfl) (by decide) rfl h_68 (fun c_72 => ?_) (fun c_72 => ?_)
              · have b_71 := b_71.resolve_left c_72
                refine g_aload_n (n := 127) hx 3 (dq tX5_readsFact 67 rfl) rfl rfl ?_
                refine g_bipush (n := 129) hx (dq tX5_readsFact 68 rfl) rfl (by decide) ?_
                refine g_callVv (n := 132) (As := [vI 28]) (rest := []) hx (ctX4_write Γ M_67 g hg 28 (by decide) (by decide)) mlX5_60 (obX4 hg) (dq tX5_readsFact 69 rfl) rfl (Nat.le_of_ble_eq_true rfl) (Nat.le_of_ble_eq_true rfl) (Nat.le_of_ble_eq_true rfl) rfl (fun M_74 p_76 => ?_)
                have f_77 := p_76
                refine g_iconst (n := 133) hx (dq tX5_readsFact 70 rfl) rfl ?_
                exact g_zret hx hr (dq tX5_readsFact 71 rfl) (by omega) ⟨(fun u_ v_ huv_ => (((f_77 u_ v_ (by omega)).trans (f_70 u_ v_ (by omega))).trans (f_64 u_ v_ (by omega)))), (by omega)⟩
              · clear b_71
                refine g_iconst (n := 125) hx (dq tX5_readsFact 65 rfl) rfl ?_
                exact g_zret hx hr (dq tX5_readsFact 66 rfl) (by omega) ⟨(fun u_ v_ huv_ => ((f_70 u_ v_ (by omega)).trans (f_64 u_ v_ (by omega)))), (by omega)⟩
          · omega
        · refine g_aload_n (n := 47) hx 2 (dq tX5_readsFact 22 rfl) rfl rfl ?_
          refine g_aload_n (n := 48) hx 3 (dq tX5_readsFact 23 rfl) rfl rfl ?_
          refine g_callVi (n := 51) (As := [aR Γ g]) (rest := []) hx (ctX5_readsSum Γ M g hg) mlX5_46 (obX5 (by decide)) (dq tX5_readsFact 24 rfl) rfl (Nat.le_of_ble_eq_true rfl) (Nat.le_of_ble_eq_true rfl) (Nat.le_of_ble_eq_true rfl) rfl (fun z_78 M_79 h_80 p_81 => ?_)
          obtain ⟨f_82, b_83⟩ := p_81
          refine g_if_ne (n := 54) (t := 56) hx (dq tX5_readsFact 25 rfl) (by decide) rfl h_80 (fun c_84 => ?_) (fun c_84 => ?_)
          · have b_83 := b_83.resolve_left c_84
            refine g_aload_n (n := 57) hx 2 (dq tX5_readsFact 28 rfl) rfl rfl ?_
            refine g_callVi (n := 60) (As := []) (rest := []) hx (ctX5_readSign Γ M_79 ) mlX5_79 (obX5 (by decide)) (dq tX5_readsFact 29 rfl) rfl (Nat.le_of_ble_eq_true rfl) (Nat.le_of_ble_eq_true rfl) (Nat.le_of_ble_eq_true rfl) rfl (fun z_85 M_86 h_87 p_88 => ?_)
            have f_89 := p_88
            refine g_istore (n := 62) (lv' := [(5, vI z_85), (4, vI j_13), (3, vI j_3), (0, aR Γ 18), (1, aR Γ g), (2, vI depth)]) hx (dq tX5_readsFact 30 rfl) (by decide) rfl rfl ?_
            refine g_iload (n := 64) hx 0 (dq tX5_readsFact 31 rfl) rfl rfl ?_
            refine g_iconst (n := 65) hx (dq tX5_readsFact 32 rfl) rfl ?_
            refine g_icmp_eq (n := 68) (t := 76) hx (dq tX5_readsFact 33 rfl) (by decide) rfl h_87 ⟨by decide, by decide⟩ (fun c_90 => ?_) (fun c_90 => ?_)
            · refine g_iconst (n := 77) hx (dq tX5_readsFact 38 rfl) rfl ?_
              exact g_zret hx hr (dq tX5_readsFact 39 rfl) (by omega) ⟨(fun u_ v_ huv_ => ((f_89 u_ v_ (by omega)).trans (f_82 u_ v_ (by omega)))), (by omega)⟩
            · refine g_aload_n (n := 69) hx 3 (dq tX5_readsFact 34 rfl) rfl rfl ?_
              refine g_aload_n (n := 70) hx 4 (dq tX5_readsFact 35 rfl) rfl rfl ?_
              refine g_callVi (n := 73) (As := [aR Γ g]) (rest := []) hx (ctX5_readsSum Γ M_86 g hg) mlX5_46 (obX5 (by decide)) (dq tX5_readsFact 36 rfl) rfl (Nat.le_of_ble_eq_true rfl) (Nat.le_of_ble_eq_true rfl) (Nat.le_of_ble_eq_true rfl) rfl (fun z_91 M_92 h_93 p_94 => ?_)
              obtain ⟨f_95, b_96⟩ := p_94
              refine g_if_ne (n := 76) (t := 78) hx (dq tX5_readsFact 37 rfl) (by decide) rfl h_93 (fun c_97 => ?_) (fun c_97 => ?_)
              · have b_96 := b_96.resolve_left c_97
                refine g_aload_n (n := 79) hx 4 (dq tX5_readsFact 40 rfl) rfl rfl ?_
                refine g_iload (n := 81) hx 0 (dq tX5_readsFact 41 rfl) rfl rfl ?_
                refine g_callVv (n := 84) (As := [vI z_85]) (rest := []) hx (ctX4_write Γ M_92 g hg z_85 (by omega) (by omega)) mlX5_60 (obX4 hg) (dq tX5_readsFact 42 rfl) rfl (Nat.le_of_ble_eq_true rfl) (Nat.le_of_ble_eq_true rfl) (Nat.le_of_ble_eq_true rfl) rfl (fun M_99 p_101 => ?_)
                have f_102 := p_101
                refine g_iconst (n := 85) hx (dq tX5_readsFact 43 rfl) rfl ?_
                exact g_zret hx hr (dq tX5_readsFact 44 rfl) (by omega) ⟨(fun u_ v_ huv_ => ((((f_102 u_ v_ (by omega)).trans (f_95 u_ v_ (by omega))).trans (f_89 u_ v_ (by omega))).trans (f_82 u_ v_ (by omega)))), (by omega)⟩
              · clear b_96
                refine g_iconst (n := 77) hx (dq tX5_readsFact 38 rfl) rfl ?_
                exact g_zret hx hr (dq tX5_readsFact 39 rfl) (by omega) ⟨(fun u_ v_ huv_ => (((f_95 u_ v_ (by omega)).trans (f_89 u_ v_ (by omega))).trans (f_82 u_ v_ (by omega)))), (by omega)⟩
          · clear b_83
            refine g_iconst (n := 55) hx (dq tX5_readsFact 26 rfl) rfl ?_
            exact g_zret hx hr (dq tX5_readsFact 27 rfl) (by omega) ⟨(fun u_ v_ huv_ => (f_82 u_ v_ (by omega))), (by omega)⟩
    refine g_if_ne (n := 30) (t := 34) hx (dq tX5_readsFact 13 rfl) (by decide) rfl h_9 (fun c_12 => ?_) (fun c_12 => ?_)
    · refine g_iconst (n := 35) hx (dq tX5_readsFact 16 rfl) rfl ?_
      exact J_14 0 (by omega) (by omega)
    · refine g_iconst (n := 31) hx (dq tX5_readsFact 14 rfl) rfl ?_
      refine g_goto (n := 35) hx (dq tX5_readsFact 15 rfl) (by decide) ?_
      exact J_14 1 (by omega) (by omega)
  refine g_icmp_ne (n := 12) (t := 16) hx (dq tX5_readsFact 4 rfl) (by decide) rfl (zrI h_1l h_1u (by decide) (by decide)) ⟨by decide, by decide⟩ (fun c_2 => ?_) (fun c_2 => ?_)
  · refine g_iconst (n := 17) hx (dq tX5_readsFact 7 rfl) rfl ?_
    exact J_4 0 (by omega) (by omega)
  · refine g_iconst (n := 13) hx (dq tX5_readsFact 5 rfl) rfl ?_
    refine g_goto (n := 17) hx (dq tX5_readsFact 6 rfl) (by decide) ?_
    exact J_4 1 (by omega) (by omega)

abbrev qcttest_0 (M : zM) (g : Nat) (depth : Int) (z : Int) (M' : zM) : Prop := (∀ u_ v_, (u_ ≠ 7 ∨ v_ ≠ 2) ∧ (u_ ≠ 7 ∨ v_ ≠ 3) ∧ (u_ ≠ 7 ∨ v_ ≠ 4) ∧ (u_ ≠ 7 ∨ v_ ≠ 5) ∧ (u_ ≠ 18 ∨ v_ ≠ 1) ∧ (u_ ≠ g ∨ v_ ≠ 1) ∧ (u_ ≠ g ∨ v_ ≠ 2) ∧ (u_ ≠ g ∨ v_ ≠ 3) ∧ u_ ≠ g + 1 → M' u_ v_ = M u_ v_) ∧ (z = 0 ∨ (z = 1))
set_option maxHeartbeats 4000000 in
set_option maxRecDepth 100000 in
theorem cttest_0 (Γ : Gam) (M : zM) (g : Nat) (hg : isX4 g) (depth : Int) (hdepthl : 0 ≤ depth) (hdepthu : depth ≤ 0)  : CtI Γ yX5_readsTest cX5_readsTest 6 (some .boolean) 28 682 [aR Γ 18, aR Γ g, vI depth] M (qcttest_0 M g depth) := by
  refine met_i (by decide) (Nat.le_of_ble_eq_true rfl) (fun x hx hr => ?_)
  show G Γ x 6 (QI Γ x (qcttest_0 M g depth)) M 0 [(0, aR Γ 18), (1, aR Γ g), (2, vI depth)] []
  refine g_iconst (n := 1) hx (dq tX5_readsTest 0 rfl) rfl ?_
  refine g_istore_n (n := 2) (lv' := [(3, vI 0), (0, aR Γ 18), (1, aR Γ g), (2, vI depth)]) hx (dq tX5_readsTest 1 rfl) (by decide) rfl rfl ?_
  refine g_iconst (n := 3) hx (dq tX5_readsTest 2 rfl) rfl ?_
  refine g_istore (n := 5) (lv' := [(4, vI 0), (3, vI 0), (0, aR Γ 18), (1, aR Γ g), (2, vI depth)]) hx (dq tX5_readsTest 3 rfl) (by decide) rfl rfl ?_
  refine g_iconst (n := 6) hx (dq tX5_readsTest 4 rfl) rfl ?_
  refine g_istore (n := 8) (lv' := [(5, vI 0), (4, vI 0), (3, vI 0), (0, aR Γ 18), (1, aR Γ g), (2, vI depth)]) hx (dq tX5_readsTest 5 rfl) (by decide) rfl rfl ?_
  have L_5 : ∀ (n_ : Nat) (i_1 : Int) (i_2 : Int) (i_3 : Int) (M_4 : zM), (0 ≤ i_1) → (i_1 ≤ 60) → (0 ≤ i_2) → (i_2 ≤ 1) → (0 ≤ i_3) → (i_3 ≤ 1) → (∀ u_ v_, (u_ ≠ 7 ∨ v_ ≠ 2) ∧ (u_ ≠ 7 ∨ v_ ≠ 3) ∧ (u_ ≠ 7 ∨ v_ ≠ 4) ∧ (u_ ≠ g ∨ v_ ≠ 1) ∧ (u_ ≠ g ∨ v_ ≠ 2) ∧ (u_ ≠ g ∨ v_ ≠ 3) ∧ u_ ≠ g + 1 ∧ (u_ ≠ 7 ∨ v_ ≠ 5) ∧ (u_ ≠ 18 ∨ v_ ≠ 1) → M_4 u_ v_ = M u_ v_) → ((60 - i_1).toNat = n_) → G Γ x 6 (QI Γ x (qcttest_0 M g depth)) M_4 8 [(5, vI i_1), (4, vI i_2), (3, vI i_3), (0, aR Γ 18), (1, aR Γ g), (2, vI depth)] [] := by
    intro n_
    induction n_ using Nat.strongRecOn with
    | _ n_ ih_6 =>
      intro i_1 i_2 i_3 M_4 h_9 h_10 h_11 h_12 h_13 h_14 f_7 hm_8
      refine g_iload (n := 10) hx 0 (dq tX5_readsTest 6 rfl) rfl rfl ?_
      refine g_bipush (n := 12) hx (dq tX5_readsTest 7 rfl) rfl (by decide) ?_
      refine g_icmp_ge (n := 15) (t := 88) hx (dq tX5_readsTest 8 rfl) (by decide) rfl ⟨by omega, by omega⟩ ⟨by decide, by decide⟩ (fun c_15 => ?_) (fun c_15 => ?_)
      · refine g_aload_n (n := 89) hx 3 (dq tX5_readsTest 45 rfl) rfl rfl ?_
        refine g_getR (n := 92) hx glX5_9 (sX5_0 (by decide)) (dq tX5_readsTest 46 rfl) rfl ?_
        refine g_iconst (n := 93) hx (dq tX5_readsTest 47 rfl) rfl ?_
        refine g_callVi (n := 96) (As := [vI 0]) (rest := []) hx (ctX7_fails Γ M_4 0 (by decide) (by decide)) mlX5_35 (obX7 (by decide)) (dq tX5_readsTest 48 rfl) rfl (Nat.le_of_ble_eq_true rfl) (Nat.le_of_ble_eq_true rfl) (Nat.le_of_ble_eq_true rfl) rfl (fun z_16 M_17 h_18 p_19 => ?_)
        obtain ⟨f_20, h_21, h_22⟩ := p_19
        exact g_zret hx hr (dq tX5_readsTest 49 rfl) (by omega) ⟨(fun u_ v_ huv_ => ((f_20 u_ v_ (by omega)).trans (f_7 u_ v_ (by omega)))), (by omega)⟩
      · refine g_aload_n (n := 16) hx 3 (dq tX5_readsTest 9 rfl) rfl rfl ?_
        refine g_aload_n (n := 17) hx 4 (dq tX5_readsTest 10 rfl) rfl rfl ?_
        refine g_iload_n (n := 18) hx 5 (dq tX5_readsTest 11 rfl) rfl rfl ?_
        refine g_callVi (n := 21) (As := [aR Γ g, vI depth]) (rest := []) hx (ctfact_0 Γ M_4 g hg depth (by omega) (by omega)) mlX5_70 (obX5 (by decide)) (dq tX5_readsTest 12 rfl) rfl (Nat.le_of_ble_eq_true rfl) (Nat.le_of_ble_eq_true rfl) (Nat.le_of_ble_eq_true rfl) rfl (fun z_23 M_24 h_25 p_26 => ?_)
        obtain ⟨f_27, b_28⟩ := p_26
        refine g_if_ne (n := 24) (t := 26) hx (dq tX5_readsTest 13 rfl) (by decide) rfl h_25 (fun c_29 => ?_) (fun c_29 => ?_)
        · have b_28 := b_28.resolve_left c_29
          refine g_iload_n (n := 27) hx 2 (dq tX5_readsTest 16 rfl) rfl rfl ?_
          have J_33 : ∀ (M_31 : zM),  (∀ u_ v_, (u_ ≠ g ∨ v_ ≠ 1) ∧ (u_ ≠ g ∨ v_ ≠ 2) ∧ (u_ ≠ g ∨ v_ ≠ 3) ∧ u_ ≠ g + 1 → M_31 u_ v_ = M_24 u_ v_) → G Γ x 6 (QI Γ x (qcttest_0 M g depth)) M_31 36 [(5, vI i_1), (4, vI i_2), (3, vI i_3), (0, aR Γ 18), (1, aR Γ g), (2, vI depth)] [] := by
            intro M_31 f_32
            refine g_aload_n (n := 37) hx 3 (dq tX5_readsTest 21 rfl) rfl rfl ?_
            refine g_getR (n := 40) hx glX5_9 (sX5_0 (by decide)) (dq tX5_readsTest 22 rfl) rfl ?_
            refine g_ldcS (n := 42) (q := 28) hx rfl rfl rfl (dq tX5_readsTest 23 rfl) rfl ?_
            refine g_callVi (n := 45) (As := [sR Γ 28]) (rest := []) hx (ctX7_takesWord Γ M_31 28 _ rfl (by decide)) mlX5_52 (obX7 (by decide)) (dq tX5_readsTest 24 rfl) rfl (Nat.le_of_ble_eq_true rfl) (Nat.le_of_ble_eq_true rfl) (Nat.le_of_ble_eq_true rfl) rfl (fun z_34 M_35 h_36 p_37 => ?_)
            obtain ⟨f_38, b_39⟩ := p_37
            refine g_istore_n (n := 46) (lv' := [(3, vI z_34), (5, vI i_1), (4, vI i_2), (0, aR Γ 18), (1, aR Γ g), (2, vI depth)]) hx (dq tX5_readsTest 25 rfl) (by decide) rfl rfl ?_
            refine g_iload_n (n := 47) hx 0 (dq tX5_readsTest 26 rfl) rfl rfl ?_
            refine g_if_eq (n := 50) (t := 53) hx (dq tX5_readsTest 27 rfl) (by decide) rfl h_36 (fun c_40 => ?_) (fun c_40 => ?_)
            · clear b_39
              refine g_iload (n := 55) hx 2 (dq tX5_readsTest 29 rfl) rfl rfl ?_
              refine g_if_eq (n := 58) (t := 64) hx (dq tX5_readsTest 30 rfl) (by decide) rfl ⟨by omega, by omega⟩ (fun c_41 => ?_) (fun c_41 => ?_)
              · refine g_aload_n (n := 65) hx 3 (dq tX5_readsTest 34 rfl) rfl rfl ?_
                refine g_getR (n := 68) hx glX5_9 (sX5_0 (by decide)) (dq tX5_readsTest 35 rfl) rfl ?_
                refine g_ldcS (n := 70) (q := 29) hx rfl rfl rfl (dq tX5_readsTest 36 rfl) rfl ?_
                refine g_callVi (n := 73) (As := [sR Γ 29]) (rest := []) hx (ctX7_takesWord Γ M_35 29 _ rfl (by decide)) mlX5_52 (obX7 (by decide)) (dq tX5_readsTest 37 rfl) rfl (Nat.le_of_ble_eq_true rfl) (Nat.le_of_ble_eq_true rfl) (Nat.le_of_ble_eq_true rfl) rfl (fun z_42 M_43 h_44 p_45 => ?_)
                obtain ⟨f_46, b_47⟩ := p_45
                refine g_istore (n := 75) (lv' := [(4, vI z_42), (3, vI z_34), (5, vI i_1), (0, aR Γ 18), (1, aR Γ g), (2, vI depth)]) hx (dq tX5_readsTest 38 rfl) (by decide) rfl rfl ?_
                refine g_iload (n := 77) hx 0 (dq tX5_readsTest 39 rfl) rfl rfl ?_
                refine g_if_ne (n := 80) (t := 82) hx (dq tX5_readsTest 40 rfl) (by decide) rfl h_44 (fun c_48 => ?_) (fun c_48 => ?_)
                · have b_47 := b_47.resolve_left c_48
                  refine g_iinc (n := 85) (lv' := [(5, vI (i_1 + 1)), (4, vI z_42), (3, vI z_34), (0, aR Γ 18), (1, aR Γ g), (2, vI depth)]) hx 2 (dq tX5_readsTest 43 rfl) rfl (by decide) rfl rfl ?_
                  refine g_goto (n := 8) hx (dq tX5_readsTest 44 rfl) (by decide) ?_
                  exact ih_6 _ (by omega) (i_1 + 1) z_42 z_34 M_43 (by omega) (by omega) (by omega) (by omega) (by omega) (by omega) (fun u_ v_ huv_ => (((((f_46 u_ v_ (by omega)).trans (f_38 u_ v_ (by omega))).trans (f_32 u_ v_ (by omega))).trans (f_27 u_ v_ (by omega))).trans (f_7 u_ v_ (by omega)))) rfl
                · clear b_47
                  refine g_iconst (n := 81) hx (dq tX5_readsTest 41 rfl) rfl ?_
                  exact g_zret hx hr (dq tX5_readsTest 42 rfl) (by omega) ⟨(fun u_ v_ huv_ => (((((f_46 u_ v_ (by omega)).trans (f_38 u_ v_ (by omega))).trans (f_32 u_ v_ (by omega))).trans (f_27 u_ v_ (by omega))).trans (f_7 u_ v_ (by omega)))), (by omega)⟩
              · refine g_aload_n (n := 59) hx 4 (dq tX5_readsTest 31 rfl) rfl rfl ?_
                refine g_bipush (n := 61) hx (dq tX5_readsTest 32 rfl) rfl (by decide) ?_
                refine g_callVv (n := 64) (As := [vI 27]) (rest := []) hx (ctX4_write Γ M_35 g hg 27 (by decide) (by decide)) mlX5_60 (obX4 hg) (dq tX5_readsTest 33 rfl) rfl (Nat.le_of_ble_eq_true rfl) (Nat.le_of_ble_eq_true rfl) (Nat.le_of_ble_eq_true rfl) rfl (fun M_50 p_52 => ?_)
                have f_53 := p_52
                refine g_aload_n (n := 65) hx 3 (dq tX5_readsTest 34 rfl) rfl rfl ?_
                refine g_getR (n := 68) hx glX5_9 (sX5_0 (by decide)) (dq tX5_readsTest 35 rfl) rfl ?_
                refine g_ldcS (n := 70) (q := 29) hx rfl rfl rfl (dq tX5_readsTest 36 rfl) rfl ?_
                refine g_callVi (n := 73) (As := [sR Γ 29]) (rest := []) hx (ctX7_takesWord Γ M_50 29 _ rfl (by decide)) mlX5_52 (obX7 (by decide)) (dq tX5_readsTest 37 rfl) rfl (Nat.le_of_ble_eq_true rfl) (Nat.le_of_ble_eq_true rfl) (Nat.le_of_ble_eq_true rfl) rfl (fun z_54 M_55 h_56 p_57 => ?_)
                obtain ⟨f_58, b_59⟩ := p_57
                refine g_istore (n := 75) (lv' := [(4, vI z_54), (3, vI z_34), (5, vI i_1), (0, aR Γ 18), (1, aR Γ g), (2, vI depth)]) hx (dq tX5_readsTest 38 rfl) (by decide) rfl rfl ?_
                refine g_iload (n := 77) hx 0 (dq tX5_readsTest 39 rfl) rfl rfl ?_
                refine g_if_ne (n := 80) (t := 82) hx (dq tX5_readsTest 40 rfl) (by decide) rfl h_56 (fun c_60 => ?_) (fun c_60 => ?_)
                · have b_59 := b_59.resolve_left c_60
                  refine g_iinc (n := 85) (lv' := [(5, vI (i_1 + 1)), (4, vI z_54), (3, vI z_34), (0, aR Γ 18), (1, aR Γ g), (2, vI depth)]) hx 2 (dq tX5_readsTest 43 rfl) rfl (by decide) rfl rfl ?_
                  refine g_goto (n := 8) hx (dq tX5_readsTest 44 rfl) (by decide) ?_
                  exact ih_6 _ (by omega) (i_1 + 1) z_54 z_34 M_55 (by omega) (by omega) (by omega) (by omega) (by omega) (by omega) (fun u_ v_ huv_ => ((((((f_58 u_ v_ (by omega)).trans (f_53 u_ v_ (by omega))).trans (f_38 u_ v_ (by omega))).trans (f_32 u_ v_ (by omega))).trans (f_27 u_ v_ (by omega))).trans (f_7 u_ v_ (by omega)))) rfl
                · clear b_59
                  refine g_iconst (n := 81) hx (dq tX5_readsTest 41 rfl) rfl ?_
                  exact g_zret hx hr (dq tX5_readsTest 42 rfl) (by omega) ⟨(fun u_ v_ huv_ => ((((((f_58 u_ v_ (by omega)).trans (f_53 u_ v_ (by omega))).trans (f_38 u_ v_ (by omega))).trans (f_32 u_ v_ (by omega))).trans (f_27 u_ v_ (by omega))).trans (f_7 u_ v_ (by omega)))), (by omega)⟩
            · have b_39 := b_39.resolve_left c_40
              refine g_goto (n := 82) hx (dq tX5_readsTest 28 rfl) (by decide) ?_
              refine g_iinc (n := 85) (lv' := [(5, vI (i_1 + 1)), (3, vI z_34), (4, vI i_2), (0, aR Γ 18), (1, aR Γ g), (2, vI depth)]) hx 1 (dq tX5_readsTest 43 rfl) rfl (by decide) rfl rfl ?_
              refine g_goto (n := 8) hx (dq tX5_readsTest 44 rfl) (by decide) ?_
              refine g_lv [0, 2, 1, 3, 4, 5] rfl ?_
              exact ih_6 _ (by omega) (i_1 + 1) i_2 z_34 M_35 (by omega) (by omega) (by omega) (by omega) (by omega) (by omega) (fun u_ v_ huv_ => ((((f_38 u_ v_ (by omega)).trans (f_32 u_ v_ (by omega))).trans (f_27 u_ v_ (by omega))).trans (f_7 u_ v_ (by omega)))) rfl
          refine g_if_eq (n := 30) (t := 36) hx (dq tX5_readsTest 17 rfl) (by decide) rfl ⟨by omega, by omega⟩ (fun c_30 => ?_) (fun c_30 => ?_)
          · exact J_33 M_24 (fun _ _ _ => rfl)
          · refine g_aload_n (n := 31) hx 4 (dq tX5_readsTest 18 rfl) rfl rfl ?_
            refine g_bipush (n := 33) hx (dq tX5_readsTest 19 rfl) rfl (by decide) ?_
            refine g_callVv (n := 36) (As := [vI 26]) (rest := []) hx (ctX4_write Γ M_24 g hg 26 (by decide) (by decide)) mlX5_60 (obX4 hg) (dq tX5_readsTest 20 rfl) rfl (Nat.le_of_ble_eq_true rfl) (Nat.le_of_ble_eq_true rfl) (Nat.le_of_ble_eq_true rfl) rfl (fun M_62 p_64 => ?_)
            have f_65 := p_64
            exact J_33 M_62 (fun u_ v_ huv_ => (f_65 u_ v_ (by omega)))
        · clear b_28
          refine g_iconst (n := 25) hx (dq tX5_readsTest 14 rfl) rfl ?_
          exact g_zret hx hr (dq tX5_readsTest 15 rfl) (by omega) ⟨(fun u_ v_ huv_ => ((f_27 u_ v_ (by omega)).trans (f_7 u_ v_ (by omega)))), (by omega)⟩
  exact L_5 _ 0 0 0 M (by omega) (by omega) (by omega) (by omega) (by omega) (by omega) (fun _ _ _ => rfl) rfl
