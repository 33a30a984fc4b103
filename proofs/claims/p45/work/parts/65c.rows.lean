abbrev qfactG (M : zM) (g : Nat) (depth : Int) (t9 : Nat → Int) (n9 : Nat) (a9 : Nat) (k9 : Nat) (z : Int) (M' : zM) : Prop := (∀ u_ v_, (u_ ≠ 7 ∨ v_ ≠ 2) ∧ (u_ ≠ 7 ∨ v_ ≠ 3) ∧ (u_ ≠ 7 ∨ v_ ≠ 4) ∧ (u_ ≠ 7 ∨ v_ ≠ 5) ∧ (u_ ≠ 18 ∨ v_ ≠ 1) ∧ (u_ ≠ g ∨ v_ ≠ 1) ∧ (u_ ≠ g ∨ v_ ≠ 2) ∧ (u_ ≠ g ∨ v_ ≠ 3) ∧ u_ ≠ g + 1 → M' u_ v_ = M u_ v_) ∧ 0 ≤ z ∧ z ≤ 1 ∧ (Rz M' t9 n9 z (Ff t9 n9 k9 a9 (M 18 1)))
def FactC (k9 fr lo : Nat) : Prop := ∀ (Γ : Gam) (M : zM) (g : Nat) (hg : isX4 g) (depth : Int) (hdepthl : 0 ≤ depth) (hdepthu : depth ≤ 10) (t9 : Nat → Int) (n9 : Nat) (a9 : Nat) (pre0 : depth + k9 = 10) (ex0 : Tc M t9 n9 a9), CtI Γ yX5_readsFact cX5_readsFact 6 (some .boolean) fr lo [aR Γ 18, aR Γ g, vI depth] M (qfactG M g depth t9 n9 a9 k9)
abbrev qtestG (M : zM) (g : Nat) (depth : Int) (t9 : Nat → Int) (n9 : Nat) (a9 : Nat) (k9 : Nat) (z : Int) (M' : zM) : Prop := (∀ u_ v_, (u_ ≠ 7 ∨ v_ ≠ 2) ∧ (u_ ≠ 7 ∨ v_ ≠ 3) ∧ (u_ ≠ 7 ∨ v_ ≠ 4) ∧ (u_ ≠ 7 ∨ v_ ≠ 5) ∧ (u_ ≠ 18 ∨ v_ ≠ 1) ∧ (u_ ≠ g ∨ v_ ≠ 1) ∧ (u_ ≠ g ∨ v_ ≠ 2) ∧ (u_ ≠ g ∨ v_ ≠ 3) ∧ u_ ≠ g + 1 → M' u_ v_ = M u_ v_) ∧ 0 ≤ z ∧ z ≤ 1 ∧ (Rz M' t9 n9 z (Tl t9 n9 (Ff t9 n9 k9) 60 a9 (M 18 1)))
def TestC (k9 fr lo : Nat) : Prop := ∀ (Γ : Gam) (M : zM) (g : Nat) (hg : isX4 g) (depth : Int) (hdepthl : 0 ≤ depth) (hdepthu : depth ≤ 10) (t9 : Nat → Int) (n9 : Nat) (a9 : Nat) (pre0 : depth + k9 = 10) (ex0 : Tc M t9 n9 a9), CtI Γ yX5_readsTest cX5_readsTest 6 (some .boolean) fr lo [aR Γ 18, aR Γ g, vI depth] M (qtestG M g depth t9 n9 a9 k9)

abbrev qfactZ (M : zM) (g : Nat) (depth : Int) (t9 : Nat → Int) (n9 : Nat) (a9 : Nat) (z : Int) (M' : zM) : Prop := (∀ u_ v_, (u_ ≠ 7 ∨ v_ ≠ 2) ∧ (u_ ≠ 7 ∨ v_ ≠ 3) ∧ (u_ ≠ 7 ∨ v_ ≠ 4) ∧ (u_ ≠ 7 ∨ v_ ≠ 5) ∧ (u_ ≠ 18 ∨ v_ ≠ 1) ∧ (u_ ≠ g ∨ v_ ≠ 1) ∧ (u_ ≠ g ∨ v_ ≠ 2) ∧ (u_ ≠ g ∨ v_ ≠ 3) ∧ u_ ≠ g + 1 → M' u_ v_ = M u_ v_) ∧ 0 ≤ z ∧ z ≤ 1 ∧ (Rz M' t9 n9 z (Ff t9 n9 0 a9 (M 18 1)))
set_option maxHeartbeats 4000000 in
set_option maxRecDepth 100000 in
theorem factZ (Γ : Gam) (M : zM) (g : Nat) (hg : isX4 g) (depth : Int) (hdepthl : 10 ≤ depth) (hdepthu : depth ≤ 10) (t9 : Nat → Int) (n9 : Nat) (a9 : Nat) (ex0 : Tc M t9 n9 a9) : CtI Γ yX5_readsFact cX5_readsFact 6 (some .boolean) 12 300 [aR Γ 18, aR Γ g, vI depth] M (qfactZ M g depth t9 n9 a9) := by
  refine met_i (by decide) (Nat.le_of_ble_eq_true rfl) (fun x hx hr => ?_)
  show G Γ x 6 (QI Γ x (qfactZ M g depth t9 n9 a9)) M 0 [(0, aR Γ 18), (1, aR Γ g), (2, vI depth)] []
  have ht_at := Tc.at ex0
  have ht_fst := Tc.fst ex0
  have ht_le := Tc.le ex0
  have ht_stop := Tc.stop ex0
  have ht_sle := Tc.sle ex0
  have ht_n := (Tc.tx ex0).1
  have ht_r := stp_le t9 n9 a9 ht_le
  have hw31 : wiR t9 a9 ((stp t9 n9 a9 : Int) - a9) 31 = wix t9 n9 a9 wVal 0 := wR31 ht_le
  refine g_iv (fun hI0 => ?_)
  have hI_c : (0 : Int) ≤ M 18 1 ∧ M 18 1 ≤ 60 := hI0 18 1
  clear hI0
  refine g_aload_n (n := 1) hx 0 (dq tX5_readsFact 0 rfl) rfl rfl ?_
  refine g_getR (n := 4) hx glX5_9 (sX5_0 (by decide)) (dq tX5_readsFact 1 rfl) rfl ?_
  refine g_getI (n := 7) hx glX5_67 (sX7_4 (by decide)) (dq tX5_readsFact 2 rfl) rfl (fun h_1l h_1u => ?_)
  refine g_bipush (n := 9) hx (dq tX5_readsFact 3 rfl) rfl (by decide) ?_
  refine g_icmp_ne (n := 12) (t := 16) hx (dq tX5_readsFact 4 rfl) (by decide) rfl (zrI h_1l h_1u (by decide) (by decide)) ⟨by decide, by decide⟩ (fun c_2 => ?_) (fun c_2 => ?_)
  · refine g_iconst (n := 17) hx (dq tX5_readsFact 7 rfl) rfl ?_
    refine g_istore_n (n := 18) (lv' := [(3, vI 0), (0, aR Γ 18), (1, aR Γ g), (2, vI depth)]) hx (dq tX5_readsFact 8 rfl) (by decide) rfl rfl ?_
    refine g_aload_n (n := 19) hx 1 (dq tX5_readsFact 9 rfl) rfl rfl ?_
    refine g_getR (n := 22) hx glX5_9 (sX5_0 (by decide)) (dq tX5_readsFact 10 rfl) rfl ?_
    refine g_ldcS (n := 24) (q := 30) hx rfl rfl rfl (dq tX5_readsFact 11 rfl) rfl ?_
    refine g_callVi (n := 27) (As := [sR Γ 30]) (rest := []) hx (ctX7_wordIn2 Γ M 30 _ rfl (by decide) t9 n9 a9 ex0) mlX5_31 (obX7 (by decide)) (dq tX5_readsFact 12 rfl) rfl (by omega) (by omega) (Nat.le_of_ble_eq_true rfl) rfl (fun z_3 M_4 h_5 p_6 => ?_)
    obtain ⟨rfl, h_8⟩ := p_6
    refine g_if_ne (n := 30) (t := 34) hx (dq tX5_readsFact 13 rfl) (by decide) rfl h_5 (fun c_9 => ?_) (fun c_9 => ?_)
    · refine g_iconst (n := 35) hx (dq tX5_readsFact 16 rfl) rfl ?_
      refine g_istore (n := 37) (lv' := [(4, vI 0), (3, vI 0), (0, aR Γ 18), (1, aR Γ g), (2, vI depth)]) hx (dq tX5_readsFact 17 rfl) (by decide) rfl rfl ?_
      refine g_iload_n (n := 38) hx 1 (dq tX5_readsFact 18 rfl) rfl rfl ?_
      refine g_if_ne (n := 41) (t := 86) hx (dq tX5_readsFact 19 rfl) (by decide) rfl ⟨by decide, by decide⟩ (fun c_10 => ?_) (fun c_10 => ?_)
      · omega
      · refine g_iload (n := 43) hx 0 (dq tX5_readsFact 20 rfl) rfl rfl ?_
        refine g_if_ne (n := 46) (t := 86) hx (dq tX5_readsFact 21 rfl) (by decide) rfl ⟨by decide, by decide⟩ (fun c_11 => ?_) (fun c_11 => ?_)
        · omega
        · refine g_aload_n (n := 47) hx 2 (dq tX5_readsFact 22 rfl) rfl rfl ?_
          refine g_aload_n (n := 48) hx 3 (dq tX5_readsFact 23 rfl) rfl rfl ?_
          refine g_callVi (n := 51) (As := [aR Γ g]) (rest := []) hx (ctX5_readsSum2 Γ M g hg t9 n9 a9 ex0) mlX5_46 (obX5 (by decide)) (dq tX5_readsFact 24 rfl) rfl (by omega) (by omega) (Nat.le_of_ble_eq_true rfl) rfl (fun z_12 M_13 h_14 p_15 => ?_)
          obtain ⟨f_16, h_17, h_18, h_19⟩ := p_15
          refine g_if_ne (n := 54) (t := 56) hx (dq tX5_readsFact 25 rfl) (by decide) rfl h_14 (fun c_20 => ?_) (fun c_20 => ?_)
          · obtain ⟨y_21a, y_21c, y_21e, y_21t, y_21k⟩ := Rz.yes h_19 (by omega)
            have e_22 : M_13 7 1 = M 7 1 := (f_16 7 1 (by omega))
            have h_23 := Tc.fst y_21t
            have h_24 := Tc.le y_21t
            have h_25 := Tc.stop y_21t
            have h_26 := Tc.sle y_21t
            have h_27 := Tc.at y_21t
            have h_28 := (Tc.tx y_21t).1
            refine g_aload_n (n := 57) hx 2 (dq tX5_readsFact 28 rfl) rfl rfl ?_
            refine g_callVi (n := 60) (As := []) (rest := []) hx (ctX5_readSign2 Γ M_13 t9 n9 y_21a y_21t) mlX5_79 (obX5 (by decide)) (dq tX5_readsFact 29 rfl) rfl (by omega) (by omega) (Nat.le_of_ble_eq_true rfl) rfl (fun z_29 M_30 h_31 p_32 => ?_)
            obtain ⟨f_33, h_34, h_35⟩ := p_32
            refine g_istore (n := 62) (lv' := [(5, vI z_29), (4, vI 0), (3, vI 0), (0, aR Γ 18), (1, aR Γ g), (2, vI depth)]) hx (dq tX5_readsFact 30 rfl) (by decide) rfl rfl ?_
            refine g_iload (n := 64) hx 0 (dq tX5_readsFact 31 rfl) rfl rfl ?_
            refine g_iconst (n := 65) hx (dq tX5_readsFact 32 rfl) rfl ?_
            refine g_icmp_eq (n := 68) (t := 76) hx (dq tX5_readsFact 33 rfl) (by decide) rfl h_31 ⟨by decide, by decide⟩ (fun c_36 => ?_) (fun c_36 => ?_)
            · refine g_iconst (n := 77) hx (dq tX5_readsFact 38 rfl) rfl ?_
              have e_37 : M_30 7 1 = M_13 7 1 := (f_33 7 1 (by omega))
              exact g_zret hx hr (dq tX5_readsFact 39 rfl) (by omega) ⟨(fun u_ v_ huv_ => ((f_33 u_ v_ (by omega)).trans (f_16 u_ v_ (by omega)))), (by omega), (by omega), (Or.inl ⟨rfl, ((Ff_cmp (by omega) (wR30n ht_le (by omega))).trans (Cf_2 y_21e (by omega)))⟩)⟩
            · have g_38 : Tc M_30 t9 n9 (nx t9 n9 y_21a) := h_35 (by omega)
              have e_39 : M_30 7 1 = M_13 7 1 := (f_33 7 1 (by omega))
              have h_40 := Tc.fst g_38
              have h_41 := Tc.le g_38
              have h_42 := Tc.stop g_38
              have h_43 := Tc.sle g_38
              have h_44 := Tc.at g_38
              have h_45 := (Tc.tx g_38).1
              refine g_aload_n (n := 69) hx 3 (dq tX5_readsFact 34 rfl) rfl rfl ?_
              refine g_aload_n (n := 70) hx 4 (dq tX5_readsFact 35 rfl) rfl rfl ?_
              refine g_callVi (n := 73) (As := [aR Γ g]) (rest := []) hx (ctX5_readsSum2 Γ M_30 g hg t9 n9 (nx t9 n9 y_21a) g_38) mlX5_46 (obX5 (by decide)) (dq tX5_readsFact 36 rfl) rfl (by omega) (by omega) (Nat.le_of_ble_eq_true rfl) rfl (fun z_46 M_47 h_48 p_49 => ?_)
              obtain ⟨f_50, h_51, h_52, h_53⟩ := p_49
              refine g_if_ne (n := 76) (t := 78) hx (dq tX5_readsFact 37 rfl) (by decide) rfl h_48 (fun c_54 => ?_) (fun c_54 => ?_)
              · obtain ⟨y_55a, y_55c, y_55e, y_55t, y_55k⟩ := Rz.yes h_53 (by omega)
                refine g_aload_n (n := 79) hx 4 (dq tX5_readsFact 40 rfl) rfl rfl ?_
                refine g_iload (n := 81) hx 0 (dq tX5_readsFact 41 rfl) rfl rfl ?_
                have e_56 : M_47 7 1 = M_30 7 1 := (f_50 7 1 (by omega))
                refine g_callVv (n := 84) (As := [vI z_29]) (rest := []) hx (ctX4_write Γ M_47 g hg z_29 (by omega) (by omega)) mlX5_60 (obX4 hg) (dq tX5_readsFact 42 rfl) rfl (by omega) (by omega) (Nat.le_of_ble_eq_true rfl) rfl (fun M_58 p_60 => ?_)
                have f_61 := p_60
                have g_62 : Tc M_58 t9 n9 y_55a := Tc.frame y_55t (fun c j hcj => f_61 c j (by omega))
                refine g_iconst (n := 85) hx (dq tX5_readsFact 43 rfl) rfl ?_
                have e_63 : M_58 7 1 = M_47 7 1 := (f_61 7 1 (by omega))
                have e_64 : M_58 7 2 = M_47 7 2 := (f_61 7 2 (by omega))
                have e_65 : M_58 7 3 = M_47 7 3 := (f_61 7 3 (by omega))
                have e_66 : M_58 7 4 = M_47 7 4 := (f_61 7 4 (by omega))
                have e_67 : M_58 18 1 = M_47 18 1 := (f_61 18 1 (by omega))
                exact g_zret hx hr (dq tX5_readsFact 44 rfl) (by omega) ⟨(fun u_ v_ huv_ => ((((f_61 u_ v_ (by omega)).trans (f_50 u_ v_ (by omega))).trans (f_33 u_ v_ (by omega))).trans (f_16 u_ v_ (by omega)))), (by omega), (by omega), (Or.inr ⟨rfl, y_55a, y_55c, ((Ff_cmp (by omega) (wR30n ht_le (by omega))).trans ((Cf_3 y_21e (by omega) (by omega) (by omega)).trans y_55e)), g_62, by omega⟩)⟩
              · refine g_iconst (n := 77) hx (dq tX5_readsFact 38 rfl) rfl ?_
                have e_68 : M_47 7 1 = M_30 7 1 := (f_50 7 1 (by omega))
                exact g_zret hx hr (dq tX5_readsFact 39 rfl) (by omega) ⟨(fun u_ v_ huv_ => (((f_50 u_ v_ (by omega)).trans (f_33 u_ v_ (by omega))).trans (f_16 u_ v_ (by omega)))), (by omega), (by omega), (Or.inl ⟨rfl, ((Ff_cmp (by omega) (wR30n ht_le (by omega))).trans ((Cf_3 y_21e (by omega) (by omega) (by omega)).trans (Rz.no h_53 (by omega))))⟩)⟩
          · refine g_iconst (n := 55) hx (dq tX5_readsFact 26 rfl) rfl ?_
            have e_69 : M_13 7 1 = M 7 1 := (f_16 7 1 (by omega))
            exact g_zret hx hr (dq tX5_readsFact 27 rfl) (by omega) ⟨(fun u_ v_ huv_ => (f_16 u_ v_ (by omega))), (by omega), (by omega), (Or.inl ⟨rfl, ((Ff_cmp (by omega) (wR30n ht_le (by omega))).trans (Cf_1 (Rz.no h_19 (by omega))))⟩)⟩
    · refine g_iconst (n := 31) hx (dq tX5_readsFact 14 rfl) rfl ?_
      refine g_goto (n := 35) hx (dq tX5_readsFact 15 rfl) (by decide) ?_
      refine g_istore (n := 37) (lv' := [(4, vI 1), (3, vI 0), (0, aR Γ 18), (1, aR Γ g), (2, vI depth)]) hx (dq tX5_readsFact 17 rfl) (by decide) rfl rfl ?_
      refine g_iload_n (n := 38) hx 1 (dq tX5_readsFact 18 rfl) rfl rfl ?_
      refine g_if_ne (n := 41) (t := 86) hx (dq tX5_readsFact 19 rfl) (by decide) rfl ⟨by decide, by decide⟩ (fun c_70 => ?_) (fun c_70 => ?_)
      · omega
      · refine g_iload (n := 43) hx 0 (dq tX5_readsFact 20 rfl) rfl rfl ?_
        refine g_if_ne (n := 46) (t := 86) hx (dq tX5_readsFact 21 rfl) (by decide) rfl ⟨by decide, by decide⟩ (fun c_71 => ?_) (fun c_71 => ?_)
        · refine g_iload_n (n := 87) hx 4 (dq tX5_readsFact 45 rfl) rfl rfl ?_
          refine g_bipush (n := 89) hx (dq tX5_readsFact 46 rfl) rfl (by decide) ?_
          refine g_icmp_lt (n := 92) (t := 101) hx (dq tX5_readsFact 47 rfl) (by decide) rfl (zrI hdepthl hdepthu (by decide) (by decide)) ⟨by decide, by decide⟩ (fun c_72 => ?_) (fun c_72 => ?_)
          · omega
          · refine g_aload_n (n := 93) hx 2 (dq tX5_readsFact 48 rfl) rfl rfl ?_
            refine g_getR (n := 96) hx glX5_9 (sX5_0 (by decide)) (dq tX5_readsFact 49 rfl) rfl ?_
            refine g_iconst (n := 97) hx (dq tX5_readsFact 50 rfl) rfl ?_
            refine g_callVi (n := 100) (As := [vI 2]) (rest := []) hx (ctX7_fails2 Γ M 2 (by decide) (by decide)) mlX5_35 (obX7 (by decide)) (dq tX5_readsFact 51 rfl) rfl (by omega) (by omega) (Nat.le_of_ble_eq_true rfl) rfl (fun z_73 M_74 h_75 p_76 => ?_)
            obtain ⟨f_77, h_78, h_79, h_80⟩ := p_76
            have g_81 : Tc M_74 t9 n9 a9 := Tc.frame ex0 (fun c j hcj => f_77 c j (by omega))
            have e_82 : M_74 7 1 = M 7 1 := (f_77 7 1 (by omega))
            have e_83 : M_74 7 2 = M 7 2 := (f_77 7 2 (by omega))
            have e_84 : M_74 7 3 = M 7 3 := (f_77 7 3 (by omega))
            have e_85 : M_74 7 4 = M 7 4 := (f_77 7 4 (by omega))
            have e_86 : M_74 18 1 = M 18 1 := (f_77 18 1 (by omega))
            exact g_zret hx hr (dq tX5_readsFact 52 rfl) (by omega) ⟨(fun u_ v_ huv_ => (f_77 u_ v_ (by omega))), (by omega), (by omega), (Or.inl ⟨by omega, (Ff_deep (Or.inr (wR30i ht_le (by omega)))).trans (er_eq (by omega))⟩)⟩
        · omega
  · refine g_iconst (n := 13) hx (dq tX5_readsFact 5 rfl) rfl ?_
    refine g_goto (n := 17) hx (dq tX5_readsFact 6 rfl) (by decide) ?_
    refine g_istore_n (n := 18) (lv' := [(3, vI 1), (0, aR Γ 18), (1, aR Γ g), (2, vI depth)]) hx (dq tX5_readsFact 8 rfl) (by decide) rfl rfl ?_
    refine g_aload_n (n := 19) hx 1 (dq tX5_readsFact 9 rfl) rfl rfl ?_
    refine g_getR (n := 22) hx glX5_9 (sX5_0 (by decide)) (dq tX5_readsFact 10 rfl) rfl ?_
    refine g_ldcS (n := 24) (q := 30) hx rfl rfl rfl (dq tX5_readsFact 11 rfl) rfl ?_
    refine g_callVi (n := 27) (As := [sR Γ 30]) (rest := []) hx (ctX7_wordIn2 Γ M 30 _ rfl (by decide) t9 n9 a9 ex0) mlX5_31 (obX7 (by decide)) (dq tX5_readsFact 12 rfl) rfl (by omega) (by omega) (Nat.le_of_ble_eq_true rfl) rfl (fun z_87 M_88 h_89 p_90 => ?_)
    obtain ⟨rfl, h_92⟩ := p_90
    refine g_if_ne (n := 30) (t := 34) hx (dq tX5_readsFact 13 rfl) (by decide) rfl h_89 (fun c_93 => ?_) (fun c_93 => ?_)
    · refine g_iconst (n := 35) hx (dq tX5_readsFact 16 rfl) rfl ?_
      refine g_istore (n := 37) (lv' := [(4, vI 0), (3, vI 1), (0, aR Γ 18), (1, aR Γ g), (2, vI depth)]) hx (dq tX5_readsFact 17 rfl) (by decide) rfl rfl ?_
      refine g_iload_n (n := 38) hx 1 (dq tX5_readsFact 18 rfl) rfl rfl ?_
      refine g_if_ne (n := 41) (t := 86) hx (dq tX5_readsFact 19 rfl) (by decide) rfl ⟨by decide, by decide⟩ (fun c_94 => ?_) (fun c_94 => ?_)
      · refine g_iload_n (n := 87) hx 4 (dq tX5_readsFact 45 rfl) rfl rfl ?_
        refine g_bipush (n := 89) hx (dq tX5_readsFact 46 rfl) rfl (by decide) ?_
        refine g_icmp_lt (n := 92) (t := 101) hx (dq tX5_readsFact 47 rfl) (by decide) rfl (zrI hdepthl hdepthu (by decide) (by decide)) ⟨by decide, by decide⟩ (fun c_95 => ?_) (fun c_95 => ?_)
        · omega
        · refine g_aload_n (n := 93) hx 2 (dq tX5_readsFact 48 rfl) rfl rfl ?_
          refine g_getR (n := 96) hx glX5_9 (sX5_0 (by decide)) (dq tX5_readsFact 49 rfl) rfl ?_
          refine g_iconst (n := 97) hx (dq tX5_readsFact 50 rfl) rfl ?_
          refine g_callVi (n := 100) (As := [vI 2]) (rest := []) hx (ctX7_fails2 Γ M 2 (by decide) (by decide)) mlX5_35 (obX7 (by decide)) (dq tX5_readsFact 51 rfl) rfl (by omega) (by omega) (Nat.le_of_ble_eq_true rfl) rfl (fun z_96 M_97 h_98 p_99 => ?_)
          obtain ⟨f_100, h_101, h_102, h_103⟩ := p_99
          have g_104 : Tc M_97 t9 n9 a9 := Tc.frame ex0 (fun c j hcj => f_100 c j (by omega))
          have e_105 : M_97 7 1 = M 7 1 := (f_100 7 1 (by omega))
          have e_106 : M_97 7 2 = M 7 2 := (f_100 7 2 (by omega))
          have e_107 : M_97 7 3 = M 7 3 := (f_100 7 3 (by omega))
          have e_108 : M_97 7 4 = M 7 4 := (f_100 7 4 (by omega))
          have e_109 : M_97 18 1 = M 18 1 := (f_100 18 1 (by omega))
          exact g_zret hx hr (dq tX5_readsFact 52 rfl) (by omega) ⟨(fun u_ v_ huv_ => (f_100 u_ v_ (by omega))), (by omega), (by omega), (Or.inl ⟨by omega, (Ff_deep (Or.inl (by omega))).trans (er_eq (by omega))⟩)⟩
      · omega
    · refine g_iconst (n := 31) hx (dq tX5_readsFact 14 rfl) rfl ?_
      refine g_goto (n := 35) hx (dq tX5_readsFact 15 rfl) (by decide) ?_
      refine g_istore (n := 37) (lv' := [(4, vI 1), (3, vI 1), (0, aR Γ 18), (1, aR Γ g), (2, vI depth)]) hx (dq tX5_readsFact 17 rfl) (by decide) rfl rfl ?_
      refine g_iload_n (n := 38) hx 1 (dq tX5_readsFact 18 rfl) rfl rfl ?_
      refine g_if_ne (n := 41) (t := 86) hx (dq tX5_readsFact 19 rfl) (by decide) rfl ⟨by decide, by decide⟩ (fun c_110 => ?_) (fun c_110 => ?_)
      · refine g_iload_n (n := 87) hx 4 (dq tX5_readsFact 45 rfl) rfl rfl ?_
        refine g_bipush (n := 89) hx (dq tX5_readsFact 46 rfl) rfl (by decide) ?_
        refine g_icmp_lt (n := 92) (t := 101) hx (dq tX5_readsFact 47 rfl) (by decide) rfl (zrI hdepthl hdepthu (by decide) (by decide)) ⟨by decide, by decide⟩ (fun c_111 => ?_) (fun c_111 => ?_)
        · omega
        · refine g_aload_n (n := 93) hx 2 (dq tX5_readsFact 48 rfl) rfl rfl ?_
          refine g_getR (n := 96) hx glX5_9 (sX5_0 (by decide)) (dq tX5_readsFact 49 rfl) rfl ?_
          refine g_iconst (n := 97) hx (dq tX5_readsFact 50 rfl) rfl ?_
          refine g_callVi (n := 100) (As := [vI 2]) (rest := []) hx (ctX7_fails2 Γ M 2 (by decide) (by decide)) mlX5_35 (obX7 (by decide)) (dq tX5_readsFact 51 rfl) rfl (by omega) (by omega) (Nat.le_of_ble_eq_true rfl) rfl (fun z_112 M_113 h_114 p_115 => ?_)
          obtain ⟨f_116, h_117, h_118, h_119⟩ := p_115
          have g_120 : Tc M_113 t9 n9 a9 := Tc.frame ex0 (fun c j hcj => f_116 c j (by omega))
          have e_121 : M_113 7 1 = M 7 1 := (f_116 7 1 (by omega))
          have e_122 : M_113 7 2 = M 7 2 := (f_116 7 2 (by omega))
          have e_123 : M_113 7 3 = M 7 3 := (f_116 7 3 (by omega))
          have e_124 : M_113 7 4 = M 7 4 := (f_116 7 4 (by omega))
          have e_125 : M_113 18 1 = M 18 1 := (f_116 18 1 (by omega))
          exact g_zret hx hr (dq tX5_readsFact 52 rfl) (by omega) ⟨(fun u_ v_ huv_ => (f_116 u_ v_ (by omega))), (by omega), (by omega), (Or.inl ⟨by omega, (Ff_deep (Or.inl (by omega))).trans (er_eq (by omega))⟩)⟩
      · omega
