abbrev qfactS (M : zM) (g : Nat) (depth : Int) (t9 : Nat → Int) (n9 : Nat) (a9 : Nat) (k9 : Nat) (z : Int) (M' : zM) : Prop := (∀ u_ v_, (u_ ≠ 7 ∨ v_ ≠ 2) ∧ (u_ ≠ 7 ∨ v_ ≠ 3) ∧ (u_ ≠ 7 ∨ v_ ≠ 4) ∧ (u_ ≠ 7 ∨ v_ ≠ 5) ∧ (u_ ≠ 18 ∨ v_ ≠ 1) ∧ (u_ ≠ g ∨ v_ ≠ 1) ∧ (u_ ≠ g ∨ v_ ≠ 2) ∧ (u_ ≠ g ∨ v_ ≠ 3) ∧ u_ ≠ g + 1 → M' u_ v_ = M u_ v_) ∧ 0 ≤ z ∧ z ≤ 1 ∧ (Rz M' t9 n9 z (Ff t9 n9 (k9 + 1) a9 (M 18 1)))
set_option maxHeartbeats 4000000 in
set_option maxRecDepth 100000 in
theorem factS (Γ : Gam) (M : zM) (g : Nat) (hg : isX4 g) (depth : Int) (hdepthl : 0 ≤ depth) (hdepthu : depth ≤ 9) (t9 : Nat → Int) (n9 : Nat) (a9 : Nat) (k9 : Nat) (pre0 : depth + k9 = 9) (ex0 : Tc M t9 n9 a9) (fr9 lo9 : Nat) (hfr9 : 12 ≤ fr9) (hlo9 : 300 ≤ lo9) (hF9 : FactC k9 fr9 lo9) (hT9 : TestC k9 (fr9 + 1) (lo9 + 40)) : CtI Γ yX5_readsFact cX5_readsFact 6 (some .boolean) (fr9 + 2) (lo9 + 80) [aR Γ 18, aR Γ g, vI depth] M (qfactS M g depth t9 n9 a9 k9) := by
  refine met_i (by decide) (Nat.le_of_ble_eq_true rfl) (fun x hx hr => ?_)
  show G Γ x 6 (QI Γ x (qfactS M g depth t9 n9 a9 k9)) M 0 [(0, aR Γ 18), (1, aR Γ g), (2, vI depth)] []
  have ht_at := Tc.at ex0
  have ht_fst := Tc.fst ex0
  have ht_le := Tc.le ex0
  have ht_stop := Tc.stop ex0
  have ht_sle := Tc.sle ex0
  have ht_n := (Tc.tx ex0).1
  have ht_r := stp_le t9 n9 a9 ht_le
  have hw31 : wiR t9 a9 ((stp t9 n9 a9 : Int) - a9) 31 = wix t9 n9 a9 wVal 0 := wR31 ht_le
  refine g_iv (fun hI0 => ?_)
  have hI_c : (0 : Int) ≤ M 18 1 ∧ M 18 1 ≤ 60 := hI0 18 1
  clear hI0
  refine g_aload_n (n := 1) hx 0 (dq tX5_readsFact 0 rfl) rfl rfl ?_
  refine g_getR (n := 4) hx glX5_9 (sX5_0 (by decide)) (dq tX5_readsFact 1 rfl) rfl ?_
  refine g_getI (n := 7) hx glX5_67 (sX7_4 (by decide)) (dq tX5_readsFact 2 rfl) rfl (fun h_1l h_1u => ?_)
  refine g_bipush (n := 9) hx (dq tX5_readsFact 3 rfl) rfl (by decide) ?_
  refine g_icmp_ne (n := 12) (t := 16) hx (dq tX5_readsFact 4 rfl) (by decide) rfl (zrI h_1l h_1u (by decide) (by decide)) ⟨by decide, by decide⟩ (fun c_2 => ?_) (fun c_2 => ?_)
  · refine g_iconst (n := 17) hx (dq tX5_readsFact 7 rfl) rfl ?_
    refine g_istore_n (n := 18) (lv' := [(3, vI 0), (0, aR Γ 18), (1, aR Γ g), (2, vI depth)]) hx (dq tX5_readsFact 8 rfl) (by decide) rfl rfl ?_
    refine g_aload_n (n := 19) hx 1 (dq tX5_readsFact 9 rfl) rfl rfl ?_
    refine g_getR (n := 22) hx glX5_9 (sX5_0 (by decide)) (dq tX5_readsFact 10 rfl) rfl ?_
    refine g_ldcS (n := 24) (q := 30) hx rfl rfl rfl (dq tX5_readsFact 11 rfl) rfl ?_
    refine g_callVi (n := 27) (As := [sR Γ 30]) (rest := []) hx (ctX7_wordIn2 Γ M 30 _ rfl (by decide) t9 n9 a9 ex0) mlX5_31 (obX7 (by decide)) (dq tX5_readsFact 12 rfl) rfl (by omega) (by omega) (Nat.le_of_ble_eq_true rfl) rfl (fun z_3 M_4 h_5 p_6 => ?_)
    obtain ⟨rfl, h_8⟩ := p_6
    refine g_if_ne (n := 30) (t := 34) hx (dq tX5_readsFact 13 rfl) (by decide) rfl h_5 (fun c_9 => ?_) (fun c_9 => ?_)
    · refine g_iconst (n := 35) hx (dq tX5_readsFact 16 rfl) rfl ?_
      refine g_istore (n := 37) (lv' := [(4, vI 0), (3, vI 0), (0, aR Γ 18), (1, aR Γ g), (2, vI depth)]) hx (dq tX5_readsFact 17 rfl) (by decide) rfl rfl ?_
      refine g_iload_n (n := 38) hx 1 (dq tX5_readsFact 18 rfl) rfl rfl ?_
      refine g_if_ne (n := 41) (t := 86) hx (dq tX5_readsFact 19 rfl) (by decide) rfl ⟨by decide, by decide⟩ (fun c_10 => ?_) (fun c_10 => ?_)
      · omega
      · refine g_iload (n := 43) hx 0 (dq tX5_readsFact 20 rfl) rfl rfl ?_
        refine g_if_ne (n := 46) (t := 86) hx (dq tX5_readsFact 21 rfl) (by decide) rfl ⟨by decide, by decide⟩ (fun c_11 => ?_) (fun c_11 => ?_)
        · omega
        · refine g_aload_n (n := 47) hx 2 (dq tX5_readsFact 22 rfl) rfl rfl ?_
          refine g_aload_n (n := 48) hx 3 (dq tX5_readsFact 23 rfl) rfl rfl ?_
          refine g_callVi (n := 51) (As := [aR Γ g]) (rest := []) hx (ctX5_readsSum2 Γ M g hg t9 n9 a9 ex0) mlX5_46 (obX5 (by decide)) (dq tX5_readsFact 24 rfl) rfl (by omega) (by omega) (Nat.le_of_ble_eq_true rfl) rfl (fun z_12 M_13 h_14 p_15 => ?_)
          obtain ⟨f_16, h_17, h_18, h_19⟩ := p_15
          refine g_if_ne (n := 54) (t := 56) hx (dq tX5_readsFact 25 rfl) (by decide) rfl h_14 (fun c_20 => ?_) (fun c_20 => ?_)
          · obtain ⟨y_21a, y_21c, y_21e, y_21t, y_21k⟩ := Rz.yes h_19 (by omega)
            have e_22 : M_13 7 1 = M 7 1 := (f_16 7 1 (by omega))
            have h_23 := Tc.fst y_21t
            have h_24 := Tc.le y_21t
            have h_25 := Tc.stop y_21t
            have h_26 := Tc.sle y_21t
            have h_27 := Tc.at y_21t
            have h_28 := (Tc.tx y_21t).1
            refine g_aload_n (n := 57) hx 2 (dq tX5_readsFact 28 rfl) rfl rfl ?_
            refine g_callVi (n := 60) (As := []) (rest := []) hx (ctX5_readSign2 Γ M_13 t9 n9 y_21a y_21t) mlX5_79 (obX5 (by decide)) (dq tX5_readsFact 29 rfl) rfl (by omega) (by omega) (Nat.le_of_ble_eq_true rfl) rfl (fun z_29 M_30 h_31 p_32 => ?_)
            obtain ⟨f_33, h_34, h_35⟩ := p_32
            refine g_istore (n := 62) (lv' := [(5, vI z_29), (4, vI 0), (3, vI 0), (0, aR Γ 18), (1, aR Γ g), (2, vI depth)]) hx (dq tX5_readsFact 30 rfl) (by decide) rfl rfl ?_
            refine g_iload (n := 64) hx 0 (dq tX5_readsFact 31 rfl) rfl rfl ?_
            refine g_iconst (n := 65) hx (dq tX5_readsFact 32 rfl) rfl ?_
            refine g_icmp_eq (n := 68) (t := 76) hx (dq tX5_readsFact 33 rfl) (by decide) rfl h_31 ⟨by decide, by decide⟩ (fun c_36 => ?_) (fun c_36 => ?_)
            · refine g_iconst (n := 77) hx (dq tX5_readsFact 38 rfl) rfl ?_
              have e_37 : M_30 7 1 = M_13 7 1 := (f_33 7 1 (by omega))
              exact g_zret hx hr (dq tX5_readsFact 39 rfl) (by omega) ⟨(fun u_ v_ huv_ => ((f_33 u_ v_ (by omega)).trans (f_16 u_ v_ (by omega)))), (by omega), (by omega), (Or.inl ⟨rfl, ((Ff_cmp (by omega) (wR30n ht_le (by omega))).trans (Cf_2 y_21e (by omega)))⟩)⟩
            · have g_38 : Tc M_30 t9 n9 (nx t9 n9 y_21a) := h_35 (by omega)
              have e_39 : M_30 7 1 = M_13 7 1 := (f_33 7 1 (by omega))
              have h_40 := Tc.fst g_38
              have h_41 := Tc.le g_38
              have h_42 := Tc.stop g_38
              have h_43 := Tc.sle g_38
              have h_44 := Tc.at g_38
              have h_45 := (Tc.tx g_38).1
              refine g_aload_n (n := 69) hx 3 (dq tX5_readsFact 34 rfl) rfl rfl ?_
              refine g_aload_n (n := 70) hx 4 (dq tX5_readsFact 35 rfl) rfl rfl ?_
              refine g_callVi (n := 73) (As := [aR Γ g]) (rest := []) hx (ctX5_readsSum2 Γ M_30 g hg t9 n9 (nx t9 n9 y_21a) g_38) mlX5_46 (obX5 (by decide)) (dq tX5_readsFact 36 rfl) rfl (by omega) (by omega) (Nat.le_of_ble_eq_true rfl) rfl (fun z_46 M_47 h_48 p_49 => ?_)
              obtain ⟨f_50, h_51, h_52, h_53⟩ := p_49
              refine g_if_ne (n := 76) (t := 78) hx (dq tX5_readsFact 37 rfl) (by decide) rfl h_48 (fun c_54 => ?_) (fun c_54 => ?_)
              · obtain ⟨y_55a, y_55c, y_55e, y_55t, y_55k⟩ := Rz.yes h_53 (by omega)
                refine g_aload_n (n := 79) hx 4 (dq tX5_readsFact 40 rfl) rfl rfl ?_
                refine g_iload (n := 81) hx 0 (dq tX5_readsFact 41 rfl) rfl rfl ?_
                have e_56 : M_47 7 1 = M_30 7 1 := (f_50 7 1 (by omega))
                refine g_callVv (n := 84) (As := [vI z_29]) (rest := []) hx (ctX4_write Γ M_47 g hg z_29 (by omega) (by omega)) mlX5_60 (obX4 hg) (dq tX5_readsFact 42 rfl) rfl (by omega) (by omega) (Nat.le_of_ble_eq_true rfl) rfl (fun M_58 p_60 => ?_)
                have f_61 := p_60
                have g_62 : Tc M_58 t9 n9 y_55a := Tc.frame y_55t (fun c j hcj => f_61 c j (by omega))
                refine g_iconst (n := 85) hx (dq tX5_readsFact 43 rfl) rfl ?_
                have e_63 : M_58 7 1 = M_47 7 1 := (f_61 7 1 (by omega))
                have e_64 : M_58 7 2 = M_47 7 2 := (f_61 7 2 (by omega))
                have e_65 : M_58 7 3 = M_47 7 3 := (f_61 7 3 (by omega))
                have e_66 : M_58 7 4 = M_47 7 4 := (f_61 7 4 (by omega))
                have e_67 : M_58 18 1 = M_47 18 1 := (f_61 18 1 (by omega))
                exact g_zret hx hr (dq tX5_readsFact 44 rfl) (by omega) ⟨(fun u_ v_ huv_ => ((((f_61 u_ v_ (by omega)).trans (f_50 u_ v_ (by omega))).trans (f_33 u_ v_ (by omega))).trans (f_16 u_ v_ (by omega)))), (by omega), (by omega), (Or.inr ⟨rfl, y_55a, y_55c, ((Ff_cmp (by omega) (wR30n ht_le (by omega))).trans ((Cf_3 y_21e (by omega) (by omega) (by omega)).trans y_55e)), g_62, by omega⟩)⟩
              · refine g_iconst (n := 77) hx (dq tX5_readsFact 38 rfl) rfl ?_
                have e_68 : M_47 7 1 = M_30 7 1 := (f_50 7 1 (by omega))
                exact g_zret hx hr (dq tX5_readsFact 39 rfl) (by omega) ⟨(fun u_ v_ huv_ => (((f_50 u_ v_ (by omega)).trans (f_33 u_ v_ (by omega))).trans (f_16 u_ v_ (by omega)))), (by omega), (by omega), (Or.inl ⟨rfl, ((Ff_cmp (by omega) (wR30n ht_le (by omega))).trans ((Cf_3 y_21e (by omega) (by omega) (by omega)).trans (Rz.no h_53 (by omega))))⟩)⟩
          · refine g_iconst (n := 55) hx (dq tX5_readsFact 26 rfl) rfl ?_
            have e_69 : M_13 7 1 = M 7 1 := (f_16 7 1 (by omega))
            exact g_zret hx hr (dq tX5_readsFact 27 rfl) (by omega) ⟨(fun u_ v_ huv_ => (f_16 u_ v_ (by omega))), (by omega), (by omega), (Or.inl ⟨rfl, ((Ff_cmp (by omega) (wR30n ht_le (by omega))).trans (Cf_1 (Rz.no h_19 (by omega))))⟩)⟩
    · refine g_iconst (n := 31) hx (dq tX5_readsFact 14 rfl) rfl ?_
      refine g_goto (n := 35) hx (dq tX5_readsFact 15 rfl) (by decide) ?_
      refine g_istore (n := 37) (lv' := [(4, vI 1), (3, vI 0), (0, aR Γ 18), (1, aR Γ g), (2, vI depth)]) hx (dq tX5_readsFact 17 rfl) (by decide) rfl rfl ?_
      refine g_iload_n (n := 38) hx 1 (dq tX5_readsFact 18 rfl) rfl rfl ?_
      refine g_if_ne (n := 41) (t := 86) hx (dq tX5_readsFact 19 rfl) (by decide) rfl ⟨by decide, by decide⟩ (fun c_70 => ?_) (fun c_70 => ?_)
      · omega
      · refine g_iload (n := 43) hx 0 (dq tX5_readsFact 20 rfl) rfl rfl ?_
        refine g_if_ne (n := 46) (t := 86) hx (dq tX5_readsFact 21 rfl) (by decide) rfl ⟨by decide, by decide⟩ (fun c_71 => ?_) (fun c_71 => ?_)
        · refine g_iload_n (n := 87) hx 4 (dq tX5_readsFact 45 rfl) rfl rfl ?_
          refine g_bipush (n := 89) hx (dq tX5_readsFact 46 rfl) rfl (by decide) ?_
          refine g_icmp_lt (n := 92) (t := 101) hx (dq tX5_readsFact 47 rfl) (by decide) rfl (zrI hdepthl hdepthu (by decide) (by decide)) ⟨by decide, by decide⟩ (fun c_72 => ?_) (fun c_72 => ?_)
          · refine g_aload_n (n := 102) hx 2 (dq tX5_readsFact 53 rfl) rfl rfl ?_
            refine g_getR (n := 105) hx glX5_9 (sX5_0 (by decide)) (dq tX5_readsFact 54 rfl) rfl ?_
            refine g_callVv (n := 108) (As := []) (rest := []) hx (ctX7_pass2 Γ M t9 n9 (stp t9 n9 a9) (by omega) (by omega) (Tc.tx ex0)) mlX5_39 (obX7 (by decide)) (dq tX5_readsFact 55 rfl) rfl (by omega) (by omega) (Nat.le_of_ble_eq_true rfl) rfl (fun M_74 p_76 => ?_)
            obtain ⟨f_77, g_78, h_79⟩ := p_76
            have g_80 : Tc M_74 t9 n9 (nx t9 n9 a9) := h_79
            refine g_iload (n := 110) hx 0 (dq tX5_readsFact 56 rfl) rfl rfl ?_
            refine g_if_eq (n := 113) (t := 134) hx (dq tX5_readsFact 57 rfl) (by decide) rfl ⟨by decide, by decide⟩ (fun c_81 => ?_) (fun c_81 => ?_)
            · omega
            · refine g_aload_n (n := 114) hx 2 (dq tX5_readsFact 58 rfl) rfl rfl ?_
              refine g_aload_n (n := 115) hx 3 (dq tX5_readsFact 59 rfl) rfl rfl ?_
              refine g_iload_n (n := 116) hx 4 (dq tX5_readsFact 60 rfl) rfl rfl ?_
              refine g_iconst (n := 117) hx (dq tX5_readsFact 61 rfl) rfl ?_
              refine g_iadd (n := 118) hx (dq tX5_readsFact 62 rfl) rfl ?_
              have e_82 : M_74 7 1 = M 7 1 := (f_77 7 1 (by omega))
              have e_83 : M_74 18 1 = M 18 1 := (f_77 18 1 (by omega))
              refine g_callVi (n := 121) (As := [aR Γ g, vI (depth + 1)]) (rest := []) hx (hF9 Γ M_74 g hg (depth + 1) (by omega) (by omega) t9 n9 (nx t9 n9 a9) (by omega) g_80) mlX5_70 (obX5 (by decide)) (dq tX5_readsFact 63 rfl) rfl (by omega) (by omega) (Nat.le_of_ble_eq_true rfl) rfl (fun z_84 M_85 h_86 p_87 => ?_)
              obtain ⟨f_88, h_89, h_90, h_91⟩ := p_87
              refine g_if_ne (n := 124) (t := 126) hx (dq tX5_readsFact 64 rfl) (by decide) rfl h_86 (fun c_92 => ?_) (fun c_92 => ?_)
              · obtain ⟨y_93a, y_93c, y_93e, y_93t, y_93k⟩ := Rz.yes h_91 (by omega)
                refine g_aload_n (n := 127) hx 3 (dq tX5_readsFact 67 rfl) rfl rfl ?_
                refine g_bipush (n := 129) hx (dq tX5_readsFact 68 rfl) rfl (by decide) ?_
                have e_94 : M_85 7 1 = M_74 7 1 := (f_88 7 1 (by omega))
                refine g_callVv (n := 132) (As := [vI 28]) (rest := []) hx (ctX4_write Γ M_85 g hg 28 (by decide) (by decide)) mlX5_60 (obX4 hg) (dq tX5_readsFact 69 rfl) rfl (by omega) (by omega) (Nat.le_of_ble_eq_true rfl) rfl (fun M_96 p_98 => ?_)
                have f_99 := p_98
                have g_100 : Tc M_96 t9 n9 y_93a := Tc.frame y_93t (fun c j hcj => f_99 c j (by omega))
                refine g_iconst (n := 133) hx (dq tX5_readsFact 70 rfl) rfl ?_
                have e_101 : M_96 7 1 = M_85 7 1 := (f_99 7 1 (by omega))
                have e_102 : M_96 7 2 = M_85 7 2 := (f_99 7 2 (by omega))
                have e_103 : M_96 7 3 = M_85 7 3 := (f_99 7 3 (by omega))
                have e_104 : M_96 7 4 = M_85 7 4 := (f_99 7 4 (by omega))
                have e_105 : M_96 18 1 = M_85 18 1 := (f_99 18 1 (by omega))
                exact g_zret hx hr (dq tX5_readsFact 71 rfl) (by omega) ⟨(fun u_ v_ huv_ => (((f_99 u_ v_ (by omega)).trans (f_88 u_ v_ (by omega))).trans (f_77 u_ v_ (by omega)))), (by omega), (by omega), (Or.inr ⟨rfl, y_93a, y_93c, (Fn_eq (k := k9) (fst_not (wR30i ht_le (by omega))) (wR30i ht_le (by omega)) (by omega)).trans y_93e, g_100, by omega⟩)⟩
              · refine g_iconst (n := 125) hx (dq tX5_readsFact 65 rfl) rfl ?_
                have e_106 : M_85 7 1 = M_74 7 1 := (f_88 7 1 (by omega))
                exact g_zret hx hr (dq tX5_readsFact 66 rfl) (by omega) ⟨(fun u_ v_ huv_ => ((f_88 u_ v_ (by omega)).trans (f_77 u_ v_ (by omega)))), (by omega), (by omega), (Or.inl ⟨rfl, (Fn_eq (k := k9) (fst_not (wR30i ht_le (by omega))) (wR30i ht_le (by omega)) (by omega)).trans (Rz.no h_91 (by omega))⟩)⟩
          · omega
        · omega
  · refine g_iconst (n := 13) hx (dq tX5_readsFact 5 rfl) rfl ?_
    refine g_goto (n := 17) hx (dq tX5_readsFact 6 rfl) (by decide) ?_
    refine g_istore_n (n := 18) (lv' := [(3, vI 1), (0, aR Γ 18), (1, aR Γ g), (2, vI depth)]) hx (dq tX5_readsFact 8 rfl) (by decide) rfl rfl ?_
    refine g_aload_n (n := 19) hx 1 (dq tX5_readsFact 9 rfl) rfl rfl ?_
    refine g_getR (n := 22) hx glX5_9 (sX5_0 (by decide)) (dq tX5_readsFact 10 rfl) rfl ?_
    refine g_ldcS (n := 24) (q := 30) hx rfl rfl rfl (dq tX5_readsFact 11 rfl) rfl ?_
    refine g_callVi (n := 27) (As := [sR Γ 30]) (rest := []) hx (ctX7_wordIn2 Γ M 30 _ rfl (by decide) t9 n9 a9 ex0) mlX5_31 (obX7 (by decide)) (dq tX5_readsFact 12 rfl) rfl (by omega) (by omega) (Nat.le_of_ble_eq_true rfl) rfl (fun z_107 M_108 h_109 p_110 => ?_)
    obtain ⟨rfl, h_112⟩ := p_110
    refine g_if_ne (n := 30) (t := 34) hx (dq tX5_readsFact 13 rfl) (by decide) rfl h_109 (fun c_113 => ?_) (fun c_113 => ?_)
    · refine g_iconst (n := 35) hx (dq tX5_readsFact 16 rfl) rfl ?_
      refine g_istore (n := 37) (lv' := [(4, vI 0), (3, vI 1), (0, aR Γ 18), (1, aR Γ g), (2, vI depth)]) hx (dq tX5_readsFact 17 rfl) (by decide) rfl rfl ?_
      refine g_iload_n (n := 38) hx 1 (dq tX5_readsFact 18 rfl) rfl rfl ?_
      refine g_if_ne (n := 41) (t := 86) hx (dq tX5_readsFact 19 rfl) (by decide) rfl ⟨by decide, by decide⟩ (fun c_114 => ?_) (fun c_114 => ?_)
      · refine g_iload_n (n := 87) hx 4 (dq tX5_readsFact 45 rfl) rfl rfl ?_
        refine g_bipush (n := 89) hx (dq tX5_readsFact 46 rfl) rfl (by decide) ?_
        refine g_icmp_lt (n := 92) (t := 101) hx (dq tX5_readsFact 47 rfl) (by decide) rfl (zrI hdepthl hdepthu (by decide) (by decide)) ⟨by decide, by decide⟩ (fun c_115 => ?_) (fun c_115 => ?_)
        · refine g_aload_n (n := 102) hx 2 (dq tX5_readsFact 53 rfl) rfl rfl ?_
          refine g_getR (n := 105) hx glX5_9 (sX5_0 (by decide)) (dq tX5_readsFact 54 rfl) rfl ?_
          refine g_callVv (n := 108) (As := []) (rest := []) hx (ctX7_pass2 Γ M t9 n9 (stp t9 n9 a9) (by omega) (by omega) (Tc.tx ex0)) mlX5_39 (obX7 (by decide)) (dq tX5_readsFact 55 rfl) rfl (by omega) (by omega) (Nat.le_of_ble_eq_true rfl) rfl (fun M_117 p_119 => ?_)
          obtain ⟨f_120, g_121, h_122⟩ := p_119
          have g_123 : Tc M_117 t9 n9 (nx t9 n9 a9) := h_122
          refine g_iload (n := 110) hx 0 (dq tX5_readsFact 56 rfl) rfl rfl ?_
          refine g_if_eq (n := 113) (t := 134) hx (dq tX5_readsFact 57 rfl) (by decide) rfl ⟨by decide, by decide⟩ (fun c_124 => ?_) (fun c_124 => ?_)
          · refine g_aload_n (n := 135) hx 2 (dq tX5_readsFact 72 rfl) rfl rfl ?_
            refine g_aload_n (n := 136) hx 3 (dq tX5_readsFact 73 rfl) rfl rfl ?_
            refine g_iload_n (n := 137) hx 4 (dq tX5_readsFact 74 rfl) rfl rfl ?_
            refine g_iconst (n := 138) hx (dq tX5_readsFact 75 rfl) rfl ?_
            refine g_iadd (n := 139) hx (dq tX5_readsFact 76 rfl) rfl ?_
            have e_125 : M_117 7 1 = M 7 1 := (f_120 7 1 (by omega))
            have e_126 : M_117 18 1 = M 18 1 := (f_120 18 1 (by omega))
            refine g_callVi (n := 142) (As := [aR Γ g, vI (depth + 1)]) (rest := []) hx (hT9 Γ M_117 g hg (depth + 1) (by omega) (by omega) t9 n9 (nx t9 n9 a9) (by omega) g_123) mlX5_56 (obX5 (by decide)) (dq tX5_readsFact 77 rfl) rfl (by omega) (by omega) (Nat.le_of_ble_eq_true rfl) rfl (fun z_127 M_128 h_129 p_130 => ?_)
            obtain ⟨f_131, h_132, h_133, h_134⟩ := p_130
            refine g_if_ne (n := 145) (t := 147) hx (dq tX5_readsFact 78 rfl) (by decide) rfl h_129 (fun c_135 => ?_) (fun c_135 => ?_)
            · obtain ⟨y_136a, y_136c, y_136e, y_136t, y_136k⟩ := Rz.yes h_134 (by omega)
              have e_137 : M_128 7 1 = M_117 7 1 := (f_131 7 1 (by omega))
              have h_138 := Tc.fst y_136t
              have h_139 := Tc.le y_136t
              have h_140 := Tc.stop y_136t
              have h_141 := Tc.sle y_136t
              have h_142 := Tc.at y_136t
              have h_143 := (Tc.tx y_136t).1
              refine g_aload_n (n := 148) hx 2 (dq tX5_readsFact 81 rfl) rfl rfl ?_
              refine g_getR (n := 151) hx glX5_9 (sX5_0 (by decide)) (dq tX5_readsFact 82 rfl) rfl ?_
              refine g_getI (n := 154) hx glX5_67 (sX7_4 (by decide)) (dq tX5_readsFact 83 rfl) rfl (fun h_144l h_144u => ?_)
              refine g_bipush (n := 156) hx (dq tX5_readsFact 84 rfl) rfl (by decide) ?_
              refine g_icmp_eq (n := 159) (t := 168) hx (dq tX5_readsFact 85 rfl) (by decide) rfl (zrI h_144l h_144u (by decide) (by decide)) ⟨by decide, by decide⟩ (fun c_145 => ?_) (fun c_145 => ?_)
              · refine g_aload_n (n := 169) hx 2 (dq tX5_readsFact 91 rfl) rfl rfl ?_
                refine g_getR (n := 172) hx glX5_9 (sX5_0 (by decide)) (dq tX5_readsFact 92 rfl) rfl ?_
                refine g_callVv (n := 175) (As := []) (rest := []) hx (ctX7_pass2 Γ M_128 t9 n9 (stp t9 n9 y_136a) (by omega) (by omega) (Tc.tx y_136t)) mlX5_39 (obX7 (by decide)) (dq tX5_readsFact 93 rfl) rfl (by omega) (by omega) (Nat.le_of_ble_eq_true rfl) rfl (fun M_147 p_149 => ?_)
                obtain ⟨f_150, g_151, h_152⟩ := p_149
                have g_153 : Tc M_147 t9 n9 (nx t9 n9 y_136a) := h_152
                refine g_iconst (n := 176) hx (dq tX5_readsFact 94 rfl) rfl ?_
                have e_154 : M_147 7 1 = M_128 7 1 := (f_150 7 1 (by omega))
                have e_155 : M_147 18 1 = M_128 18 1 := (f_150 18 1 (by omega))
                exact g_zret hx hr (dq tX5_readsFact 95 rfl) (by omega) ⟨(fun u_ v_ huv_ => (((f_150 u_ v_ (by omega)).trans (f_131 u_ v_ (by omega))).trans (f_120 u_ v_ (by omega)))), (by omega), (by omega), (Or.inr ⟨rfl, nx t9 n9 y_136a, y_136c, Br_end (k := k9) (by omega) (by omega) y_136e (by omega), g_153, by omega⟩)⟩
              · refine g_aload_n (n := 160) hx 2 (dq tX5_readsFact 86 rfl) rfl rfl ?_
                refine g_getR (n := 163) hx glX5_9 (sX5_0 (by decide)) (dq tX5_readsFact 87 rfl) rfl ?_
                refine g_iconst (n := 164) hx (dq tX5_readsFact 88 rfl) rfl ?_
                refine g_callVi (n := 167) (As := [vI 0]) (rest := []) hx (ctX7_fails2 Γ M_128 0 (by decide) (by decide)) mlX5_35 (obX7 (by decide)) (dq tX5_readsFact 89 rfl) rfl (by omega) (by omega) (Nat.le_of_ble_eq_true rfl) rfl (fun z_156 M_157 h_158 p_159 => ?_)
                obtain ⟨f_160, h_161, h_162, h_163⟩ := p_159
                have g_164 : Tc M_157 t9 n9 y_136a := Tc.frame y_136t (fun c j hcj => f_160 c j (by omega))
                have e_165 : M_157 7 1 = M_128 7 1 := (f_160 7 1 (by omega))
                have e_166 : M_157 7 2 = M_128 7 2 := (f_160 7 2 (by omega))
                have e_167 : M_157 7 3 = M_128 7 3 := (f_160 7 3 (by omega))
                have e_168 : M_157 7 4 = M_128 7 4 := (f_160 7 4 (by omega))
                have e_169 : M_157 18 1 = M_128 18 1 := (f_160 18 1 (by omega))
                exact g_zret hx hr (dq tX5_readsFact 90 rfl) (by omega) ⟨(fun u_ v_ huv_ => (((f_160 u_ v_ (by omega)).trans (f_131 u_ v_ (by omega))).trans (f_120 u_ v_ (by omega)))), (by omega), (by omega), (Or.inl ⟨by omega, (Br_bad (k := k9) (by omega) (by omega) y_136e (by omega)).trans (er_eq (by omega))⟩)⟩
            · refine g_iconst (n := 146) hx (dq tX5_readsFact 79 rfl) rfl ?_
              have e_170 : M_128 7 1 = M_117 7 1 := (f_131 7 1 (by omega))
              exact g_zret hx hr (dq tX5_readsFact 80 rfl) (by omega) ⟨(fun u_ v_ huv_ => ((f_131 u_ v_ (by omega)).trans (f_120 u_ v_ (by omega)))), (by omega), (by omega), (Or.inl ⟨rfl, Br_no (k := k9) (by omega) (by omega) (Rz.no h_134 (by omega))⟩)⟩
          · omega
        · omega
      · omega
    · refine g_iconst (n := 31) hx (dq tX5_readsFact 14 rfl) rfl ?_
      refine g_goto (n := 35) hx (dq tX5_readsFact 15 rfl) (by decide) ?_
      refine g_istore (n := 37) (lv' := [(4, vI 1), (3, vI 1), (0, aR Γ 18), (1, aR Γ g), (2, vI depth)]) hx (dq tX5_readsFact 17 rfl) (by decide) rfl rfl ?_
      refine g_iload_n (n := 38) hx 1 (dq tX5_readsFact 18 rfl) rfl rfl ?_
      refine g_if_ne (n := 41) (t := 86) hx (dq tX5_readsFact 19 rfl) (by decide) rfl ⟨by decide, by decide⟩ (fun c_171 => ?_) (fun c_171 => ?_)
      · refine g_iload_n (n := 87) hx 4 (dq tX5_readsFact 45 rfl) rfl rfl ?_
        refine g_bipush (n := 89) hx (dq tX5_readsFact 46 rfl) rfl (by decide) ?_
        refine g_icmp_lt (n := 92) (t := 101) hx (dq tX5_readsFact 47 rfl) (by decide) rfl (zrI hdepthl hdepthu (by decide) (by decide)) ⟨by decide, by decide⟩ (fun c_172 => ?_) (fun c_172 => ?_)
        · refine g_aload_n (n := 102) hx 2 (dq tX5_readsFact 53 rfl) rfl rfl ?_
          refine g_getR (n := 105) hx glX5_9 (sX5_0 (by decide)) (dq tX5_readsFact 54 rfl) rfl ?_
          refine g_callVv (n := 108) (As := []) (rest := []) hx (ctX7_pass2 Γ M t9 n9 (stp t9 n9 a9) (by omega) (by omega) (Tc.tx ex0)) mlX5_39 (obX7 (by decide)) (dq tX5_readsFact 55 rfl) rfl (by omega) (by omega) (Nat.le_of_ble_eq_true rfl) rfl (fun M_174 p_176 => ?_)
          obtain ⟨f_177, g_178, h_179⟩ := p_176
          have g_180 : Tc M_174 t9 n9 (nx t9 n9 a9) := h_179
          refine g_iload (n := 110) hx 0 (dq tX5_readsFact 56 rfl) rfl rfl ?_
          refine g_if_eq (n := 113) (t := 134) hx (dq tX5_readsFact 57 rfl) (by decide) rfl ⟨by decide, by decide⟩ (fun c_181 => ?_) (fun c_181 => ?_)
          · omega
          · refine g_aload_n (n := 114) hx 2 (dq tX5_readsFact 58 rfl) rfl rfl ?_
            refine g_aload_n (n := 115) hx 3 (dq tX5_readsFact 59 rfl) rfl rfl ?_
            refine g_iload_n (n := 116) hx 4 (dq tX5_readsFact 60 rfl) rfl rfl ?_
            refine g_iconst (n := 117) hx (dq tX5_readsFact 61 rfl) rfl ?_
            refine g_iadd (n := 118) hx (dq tX5_readsFact 62 rfl) rfl ?_
            have e_182 : M_174 7 1 = M 7 1 := (f_177 7 1 (by omega))
            have e_183 : M_174 18 1 = M 18 1 := (f_177 18 1 (by omega))
            refine g_callVi (n := 121) (As := [aR Γ g, vI (depth + 1)]) (rest := []) hx (hF9 Γ M_174 g hg (depth + 1) (by omega) (by omega) t9 n9 (nx t9 n9 a9) (by omega) g_180) mlX5_70 (obX5 (by decide)) (dq tX5_readsFact 63 rfl) rfl (by omega) (by omega) (Nat.le_of_ble_eq_true rfl) rfl (fun z_184 M_185 h_186 p_187 => ?_)
            obtain ⟨f_188, h_189, h_190, h_191⟩ := p_187
            refine g_if_ne (n := 124) (t := 126) hx (dq tX5_readsFact 64 rfl) (by decide) rfl h_186 (fun c_192 => ?_) (fun c_192 => ?_)
            · obtain ⟨y_193a, y_193c, y_193e, y_193t, y_193k⟩ := Rz.yes h_191 (by omega)
              refine g_aload_n (n := 127) hx 3 (dq tX5_readsFact 67 rfl) rfl rfl ?_
              refine g_bipush (n := 129) hx (dq tX5_readsFact 68 rfl) rfl (by decide) ?_
              have e_194 : M_185 7 1 = M_174 7 1 := (f_188 7 1 (by omega))
              refine g_callVv (n := 132) (As := [vI 28]) (rest := []) hx (ctX4_write Γ M_185 g hg 28 (by decide) (by decide)) mlX5_60 (obX4 hg) (dq tX5_readsFact 69 rfl) rfl (by omega) (by omega) (Nat.le_of_ble_eq_true rfl) rfl (fun M_196 p_198 => ?_)
              have f_199 := p_198
              have g_200 : Tc M_196 t9 n9 y_193a := Tc.frame y_193t (fun c j hcj => f_199 c j (by omega))
              refine g_iconst (n := 133) hx (dq tX5_readsFact 70 rfl) rfl ?_
              have e_201 : M_196 7 1 = M_185 7 1 := (f_199 7 1 (by omega))
              have e_202 : M_196 7 2 = M_185 7 2 := (f_199 7 2 (by omega))
              have e_203 : M_196 7 3 = M_185 7 3 := (f_199 7 3 (by omega))
              have e_204 : M_196 7 4 = M_185 7 4 := (f_199 7 4 (by omega))
              have e_205 : M_196 18 1 = M_185 18 1 := (f_199 18 1 (by omega))
              exact g_zret hx hr (dq tX5_readsFact 71 rfl) (by omega) ⟨(fun u_ v_ huv_ => (((f_199 u_ v_ (by omega)).trans (f_188 u_ v_ (by omega))).trans (f_177 u_ v_ (by omega)))), (by omega), (by omega), (Or.inr ⟨rfl, y_193a, y_193c, (Fn_eq (k := k9) (fst_not (wR30i ht_le (by omega))) (wR30i ht_le (by omega)) (by omega)).trans y_193e, g_200, by omega⟩)⟩
            · refine g_iconst (n := 125) hx (dq tX5_readsFact 65 rfl) rfl ?_
              have e_206 : M_185 7 1 = M_174 7 1 := (f_188 7 1 (by omega))
              exact g_zret hx hr (dq tX5_readsFact 66 rfl) (by omega) ⟨(fun u_ v_ huv_ => ((f_188 u_ v_ (by omega)).trans (f_177 u_ v_ (by omega)))), (by omega), (by omega), (Or.inl ⟨rfl, (Fn_eq (k := k9) (fst_not (wR30i ht_le (by omega))) (wR30i ht_le (by omega)) (by omega)).trans (Rz.no h_191 (by omega))⟩)⟩
        · omega
      · omega
