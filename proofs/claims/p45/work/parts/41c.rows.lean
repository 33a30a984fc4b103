abbrev qctX10_fillsFloating (M : zM)  (M' : zM) : Prop := (∀ u_ v_, (u_ ≠ 229 ∨ v_ ≠ 73) ∧ u_ ≠ 229 + 51 ∧ u_ ≠ 229 + 52 → M' u_ v_ = M u_ v_) ∧ Gm M' ∧ (Fl M')
set_option maxHeartbeats 4000000 in
set_option maxRecDepth 100000 in
theorem ctX10_fillsFloating (Γ : Gam) (M : zM)  (gm : Gm M) : CtV Γ yX10_fillsFloating cX10_fillsFloating 3 none 1 21 [aR Γ 229] M (qctX10_fillsFloating M) := by
  refine met_v (by decide) (Nat.le_of_ble_eq_true rfl) (fun x hx hr => ?_)
  show G Γ x 3 (QV Γ x (qctX10_fillsFloating M)) M 0 [(0, aR Γ 229)] []
  refine g_aload_n (n := 1) hx 0 (dq tX10_fillsFloating 0 rfl) rfl rfl ?_
  refine g_iconst (n := 2) hx (dq tX10_fillsFloating 1 rfl) rfl ?_
  refine g_putI (n := 5) hx plX10_589 (sX10_73 (by decide)) (dq tX10_fillsFloating 2 rfl) rfl (by omega) (by omega) (fun M_1 m_2e m_2 => ?_)
  have g_3 : Gm M_1 := Gm.frame gm (fun c j hcj => m_2 c j (by omega))
  refine g_iconst (n := 6) hx (dq tX10_fillsFloating 3 rfl) rfl ?_
  refine g_istore_n (n := 7) (lv' := [(1, vI 0), (0, aR Γ 229)]) hx (dq tX10_fillsFloating 4 rfl) (by decide) rfl rfl ?_
  have L_6 : ∀ (n_ : Nat) (i_4 : Int) (M_5 : zM), (0 ≤ i_4) → (i_4 ≤ 12) → (∀ u_ v_, (u_ ≠ 229 ∨ v_ ≠ 73) ∧ u_ ≠ 229 + 51 → M_5 u_ v_ = M_1 u_ v_) → (Gm M_5) → (M_5 229 73 ≤ i_4) → (Fl M_5) → ((12 - i_4).toNat = n_) → G Γ x 3 (QV Γ x (qctX10_fillsFloating M)) M_5 7 [(1, vI i_4), (0, aR Γ 229)] [] := by
    intro n_
    induction n_ using Nat.strongRecOn with
    | _ n_ ih_7 =>
      intro i_4 M_5 h_13 h_14 f_8 g_9 h_11 h_12 hm_10
      refine g_iload_n (n := 8) hx 0 (dq tX10_fillsFloating 5 rfl) rfl rfl ?_
      refine g_aload_n (n := 9) hx 1 (dq tX10_fillsFloating 6 rfl) rfl rfl ?_
      refine g_getR (n := 12) hx glX10_9 (sX10_1 (by decide)) (dq tX10_fillsFloating 7 rfl) rfl ?_
      refine g_iconst (n := 13) hx (dq tX10_fillsFloating 8 rfl) rfl ?_
      refine g_ialdX (n := 14) (q := 3) hx (aX10_1 (b := 229) (by decide)) (dq tX10_fillsFloating 9 rfl) rfl (by decide) (by decide) (by decide) rfl (fun h_15l h_15u => ?_)
      have h_15l : 0 ≤ M_5 (229 + 1) 3 := h_15l
      have h_15u : M_5 (229 + 1) 3 ≤ 12 := h_15u
      have e_16 : M_5 (229 + 1) 3 = M (229 + 1) 3 := ((f_8 (229 + 1) 3 (by omega))).trans (m_2 (229 + 1) 3 (by omega))
      refine g_icmp_ge (n := 17) (t := 51) hx (dq tX10_fillsFloating 10 rfl) (by decide) rfl ⟨by omega, by omega⟩ (zrI h_15l h_15u (by decide) (by decide)) (fun c_17 => ?_) (fun c_17 => ?_)
      · refine g_iconst (n := 52) hx (dq tX10_fillsFloating 29 rfl) rfl ?_
        refine g_istore_n (n := 53) (lv' := [(1, vI 0), (0, aR Γ 229)]) hx (dq tX10_fillsFloating 30 rfl) (by decide) rfl rfl ?_
        refine g_iconst (n := 54) hx (dq tX10_fillsFloating 31 rfl) rfl ?_
        refine g_istore_n (n := 55) (lv' := [(2, vI 0), (1, vI 0), (0, aR Γ 229)]) hx (dq tX10_fillsFloating 32 rfl) (by decide) rfl rfl ?_
        have L_21 : ∀ (n_ : Nat) (i_18 : Int) (i_19 : Int) (M_20 : zM), (0 ≤ i_18) → (i_18 ≤ 12) → (0 ≤ i_19) → (i_19 ≤ 12) → (∀ u_ v_, u_ ≠ 229 + 52 → M_20 u_ v_ = M_5 u_ v_) → (Gm M_20) → (Fl M_20) → (i_19 ≤ i_18) → ((12 - i_18).toNat = n_) → G Γ x 3 (QV Γ x (qctX10_fillsFloating M)) M_20 55 [(2, vI i_18), (1, vI i_19), (0, aR Γ 229)] [] := by
          intro n_
          induction n_ using Nat.strongRecOn with
          | _ n_ ih_22 =>
            intro i_18 i_19 M_20 h_28 h_29 h_30 h_31 f_23 g_24 h_26 h_27 hm_25
            refine g_iload_n (n := 56) hx 0 (dq tX10_fillsFloating 33 rfl) rfl rfl ?_
            refine g_aload_n (n := 57) hx 2 (dq tX10_fillsFloating 34 rfl) rfl rfl ?_
            refine g_getR (n := 60) hx glX10_9 (sX10_1 (by decide)) (dq tX10_fillsFloating 35 rfl) rfl ?_
            refine g_iconst (n := 61) hx (dq tX10_fillsFloating 36 rfl) rfl ?_
            refine g_ialdX (n := 62) (q := 3) hx (aX10_1 (b := 229) (by decide)) (dq tX10_fillsFloating 37 rfl) rfl (by decide) (by decide) (by decide) rfl (fun h_32l h_32u => ?_)
            have h_32l : 0 ≤ M_20 (229 + 1) 3 := h_32l
            have h_32u : M_20 (229 + 1) 3 ≤ 12 := h_32u
            have e_33 : M_20 (229 + 1) 3 = M_5 (229 + 1) 3 := (f_23 (229 + 1) 3 (by omega))
            refine g_icmp_ge (n := 65) (t := 94) hx (dq tX10_fillsFloating 38 rfl) (by decide) rfl ⟨by omega, by omega⟩ (zrI h_32l h_32u (by decide) (by decide)) (fun c_34 => ?_) (fun c_34 => ?_)
            · have e_35 : M_20 (229 + 1) 1 = M (229 + 1) 1 := (((f_23 (229 + 1) 1 (by omega))).trans (f_8 (229 + 1) 1 (by omega))).trans (m_2 (229 + 1) 1 (by omega))
              exact g_vret hx hr (dq tX10_fillsFloating 54 rfl) ⟨(fun u_ v_ huv_ => (((f_23 u_ v_ (by omega)).trans (f_8 u_ v_ (by omega))).trans (m_2 u_ v_ (by omega)))), g_24, h_26⟩
            · refine g_aload_n (n := 66) hx 2 (dq tX10_fillsFloating 39 rfl) rfl rfl ?_
              refine g_aload_n (n := 67) hx 2 (dq tX10_fillsFloating 40 rfl) rfl rfl ?_
              refine g_getR (n := 70) hx glX10_58 (sX10_17 (by decide)) (dq tX10_fillsFloating 41 rfl) rfl ?_
              refine g_iload_n (n := 71) hx 0 (dq tX10_fillsFloating 42 rfl) rfl rfl ?_
              refine g_iald (n := 72) (q := i_18.toNat) hx (aX10_17 (b := 229) (by decide)) (dq tX10_fillsFloating 43 rfl) rfl (by omega) (by omega) (by omega) rfl (fun h_36l h_36u => ?_)
              have e_37 : M_20 (229 + 1) 1 = M (229 + 1) 1 := (((f_23 (229 + 1) 1 (by omega))).trans (f_8 (229 + 1) 1 (by omega))).trans (m_2 (229 + 1) 1 (by omega))
              refine g_callVi (n := 75) (As := [vI (M_20 (229 + 17) i_18.toNat)]) (rest := []) hx (ctX10_isInWater Γ M_20 (M_20 (229 + 17) i_18.toNat) (by omega) (by omega)) mlX10_199 (obX10 (by decide)) (dq tX10_fillsFloating 44 rfl) rfl (Nat.le_of_ble_eq_true rfl) (Nat.le_of_ble_eq_true rfl) (Nat.le_of_ble_eq_true rfl) rfl (fun z_38 M_39 h_40 p_41 => ?_)
              obtain ⟨rfl, b_43, h_44⟩ := p_41
              refine g_if_eq (n := 78) (t := 88) hx (dq tX10_fillsFloating 45 rfl) (by decide) rfl h_40 (fun c_46 => ?_) (fun c_46 => ?_)
              · clear b_43
                refine g_iinc (n := 91) (lv' := [(2, vI (i_18 + 1)), (1, vI i_19), (0, aR Γ 229)]) hx 0 (dq tX10_fillsFloating 52 rfl) rfl (by decide) rfl rfl ?_
                refine g_goto (n := 55) hx (dq tX10_fillsFloating 53 rfl) (by decide) ?_
                exact ih_22 _ (by omega) (i_18 + 1) i_19 M_20 (by omega) (by omega) (by omega) (by omega) (fun u_ v_ huv_ => (f_23 u_ v_ (by omega))) g_24 h_26 (by omega) rfl
              · have b_43 := b_43.resolve_left c_46
                obtain ⟨-, h_45⟩ := b_43
                refine g_aload_n (n := 79) hx 2 (dq tX10_fillsFloating 46 rfl) rfl rfl ?_
                refine g_getR (n := 82) hx glX10_169 (sX10_70 (by decide)) (dq tX10_fillsFloating 47 rfl) rfl ?_
                refine g_iload_n (n := 83) hx 1 (dq tX10_fillsFloating 48 rfl) rfl rfl ?_
                refine g_iload_n (n := 84) hx 0 (dq tX10_fillsFloating 49 rfl) rfl rfl ?_
                refine g_iast (n := 85) (q := i_19.toNat) hx (aX10_70 (b := 229) (by decide)) (dq tX10_fillsFloating 50 rfl) rfl (by omega) (by omega) (by omega) rfl (by omega) (by omega) (fun M_47 m_48e m_48 => ?_)
                have g_49 : Gm M_47 := Gm.frame g_24 (fun c j hcj => m_48 c j (by omega))
                refine g_iinc (n := 88) (lv' := [(1, vI (i_19 + 1)), (2, vI i_18), (0, aR Γ 229)]) hx 1 (dq tX10_fillsFloating 51 rfl) rfl (by decide) rfl rfl ?_
                refine g_iinc (n := 91) (lv' := [(2, vI (i_18 + 1)), (1, vI (i_19 + 1)), (0, aR Γ 229)]) hx 1 (dq tX10_fillsFloating 52 rfl) rfl (by decide) rfl rfl ?_
                refine g_goto (n := 55) hx (dq tX10_fillsFloating 53 rfl) (by decide) ?_
                have e_50 : M_47 (229 + 1) 1 = M_20 (229 + 1) 1 := (m_48 (229 + 1) 1 (by omega))
                have e_51 : M_47 (229 + 1) 3 = M_20 (229 + 1) 3 := (m_48 (229 + 1) 3 (by omega))
                have e_52 : M_47 229 73 = M_20 229 73 := (m_48 229 73 (by omega))
                exact ih_22 _ (by omega) (i_18 + 1) (i_19 + 1) M_47 (by omega) (by omega) (by omega) (by omega) (fun u_ v_ huv_ => ((m_48 u_ v_ (by omega)).trans (f_23 u_ v_ (by omega)))) g_49 (Fl.same h_26 (m_48 229 73 (by omega)) (m_48 (229 + 1) 3 (by omega)) (fun j => m_48 _ _ (by omega))) (by omega) rfl
        have e_53 : M_5 (229 + 1) 1 = M (229 + 1) 1 := ((f_8 (229 + 1) 1 (by omega))).trans (m_2 (229 + 1) 1 (by omega))
        exact L_21 _ 0 0 M_5 (by omega) (by omega) (by omega) (by omega) (fun _ _ _ => rfl) g_9 h_12 (by omega) rfl
      · refine g_aload_n (n := 18) hx 1 (dq tX10_fillsFloating 11 rfl) rfl rfl ?_
        refine g_iload_n (n := 19) hx 0 (dq tX10_fillsFloating 12 rfl) rfl rfl ?_
        have e_54 : M_5 (229 + 1) 1 = M (229 + 1) 1 := ((f_8 (229 + 1) 1 (by omega))).trans (m_2 (229 + 1) 1 (by omega))
        refine g_callVi (n := 22) (As := [vI i_4]) (rest := []) hx (ctX10_isInWater Γ M_5 i_4 (by omega) (by omega)) mlX10_199 (obX10 (by decide)) (dq tX10_fillsFloating 13 rfl) rfl (Nat.le_of_ble_eq_true rfl) (Nat.le_of_ble_eq_true rfl) (Nat.le_of_ble_eq_true rfl) rfl (fun z_55 M_56 h_57 p_58 => ?_)
        obtain ⟨rfl, b_60, h_61⟩ := p_58
        refine g_if_eq (n := 25) (t := 45) hx (dq tX10_fillsFloating 14 rfl) (by decide) rfl h_57 (fun c_63 => ?_) (fun c_63 => ?_)
        · clear b_60
          refine g_iinc (n := 48) (lv' := [(1, vI (i_4 + 1)), (0, aR Γ 229)]) hx 0 (dq tX10_fillsFloating 27 rfl) rfl (by decide) rfl rfl ?_
          refine g_goto (n := 7) hx (dq tX10_fillsFloating 28 rfl) (by decide) ?_
          exact ih_7 _ (by omega) (i_4 + 1) M_5 (by omega) (by omega) (fun u_ v_ huv_ => (f_8 u_ v_ (by omega))) g_9 (by omega) h_12 rfl
        · have b_60 := b_60.resolve_left c_63
          obtain ⟨-, h_62⟩ := b_60
          refine g_aload_n (n := 26) hx 1 (dq tX10_fillsFloating 15 rfl) rfl rfl ?_
          refine g_getR (n := 29) hx glX10_166 (sX10_69 (by decide)) (dq tX10_fillsFloating 16 rfl) rfl ?_
          refine g_aload_n (n := 30) hx 1 (dq tX10_fillsFloating 17 rfl) rfl rfl ?_
          refine g_getI (n := 33) hx glX10_589 (sX10_73 (by decide)) (dq tX10_fillsFloating 18 rfl) rfl (fun h_64l h_64u => ?_)
          refine g_iload_n (n := 34) hx 0 (dq tX10_fillsFloating 19 rfl) rfl rfl ?_
          refine g_iast (n := 35) (q := (M_5 229 73).toNat) hx (aX10_69 (b := 229) (by decide)) (dq tX10_fillsFloating 20 rfl) rfl (by omega) (by omega) (by omega) rfl (by omega) (by omega) (fun M_65 m_66e m_66 => ?_)
          have g_67 : Gm M_65 := Gm.frame g_9 (fun c j hcj => m_66 c j (by omega))
          refine g_aload_n (n := 36) hx 1 (dq tX10_fillsFloating 21 rfl) rfl rfl ?_
          refine g_dup (n := 37) hx (dq tX10_fillsFloating 22 rfl) rfl rfl ?_
          refine g_getI (n := 40) hx glX10_589 (sX10_73 (by decide)) (dq tX10_fillsFloating 23 rfl) rfl (fun h_68l h_68u => ?_)
          have e_69 : M_65 229 73 = M_5 229 73 := (m_66 229 73 (by omega))
          refine g_iconst (n := 41) hx (dq tX10_fillsFloating 24 rfl) rfl ?_
          refine g_iadd (n := 42) hx (dq tX10_fillsFloating 25 rfl) rfl ?_
          have e_70 : M_65 (229 + 1) 1 = M_5 (229 + 1) 1 := (m_66 (229 + 1) 1 (by omega))
          have e_71 : M_65 (229 + 1) 3 = M_5 (229 + 1) 3 := (m_66 (229 + 1) 3 (by omega))
          refine g_putI (n := 45) hx plX10_589 (sX10_73 (by decide)) (dq tX10_fillsFloating 26 rfl) rfl (by omega) (by omega) (fun M_72 m_73e m_73 => ?_)
          have g_74 : Gm M_72 := Gm.frame g_67 (fun c j hcj => m_73 c j (by omega))
          refine g_iinc (n := 48) (lv' := [(1, vI (i_4 + 1)), (0, aR Γ 229)]) hx 0 (dq tX10_fillsFloating 27 rfl) rfl (by decide) rfl rfl ?_
          refine g_goto (n := 7) hx (dq tX10_fillsFloating 28 rfl) (by decide) ?_
          have e_75 : M_72 (229 + 1) 1 = M_65 (229 + 1) 1 := (m_73 (229 + 1) 1 (by omega))
          have e_76 : M_72 (229 + 1) 3 = M_65 (229 + 1) 3 := (m_73 (229 + 1) 3 (by omega))
          exact ih_7 _ (by omega) (i_4 + 1) M_72 (by omega) (by omega) (fun u_ v_ huv_ => (((m_73 u_ v_ (by omega)).trans (m_66 u_ v_ (by omega))).trans (f_8 u_ v_ (by omega)))) g_74 (by omega) (Fl.put h_12 m_66e m_66 m_73e m_73 (by omega) (by omega)) rfl
  have e_77 : M_1 (229 + 1) 1 = M (229 + 1) 1 := (m_2 (229 + 1) 1 (by omega))
  have e_78 : M_1 (229 + 1) 3 = M (229 + 1) 3 := (m_2 (229 + 1) 3 (by omega))
  exact L_6 _ 0 M_1 (by omega) (by omega) (fun _ _ _ => rfl) g_3 (by omega) (Fl.nil (by omega)) rfl

abbrev qctX10_laysRow (M : zM) (code : Int) (z : Int) (M' : zM) : Prop := (∀ u_ v_, u_ ≠ 229 + 53 → M' u_ v_ = M u_ v_) ∧ (z = 0 ∨ (z = 1)) ∧ (Rk M' 0)
set_option maxHeartbeats 4000000 in
set_option maxRecDepth 100000 in
theorem ctX10_laysRow (Γ : Gam) (M : zM) (code : Int) (hcodel : 0 ≤ code) (hcodeu : code ≤ 2147483647) (pre0 : M 229 73 ≤ 6) (ex0 : Fl M) : CtI Γ yX10_laysRow cX10_laysRow 6 (some .boolean) 0 0 [aR Γ 229, vI code] M (qctX10_laysRow M code) := by
  refine met_i (by decide) (Nat.le_of_ble_eq_true rfl) (fun x hx hr => ?_)
  show G Γ x 6 (QI Γ x (qctX10_laysRow M code)) M 0 [(0, aR Γ 229), (1, vI code)] []
  refine g_iload_n (n := 1) hx 1 (dq tX10_laysRow 0 rfl) rfl rfl ?_
  refine g_istore_n (n := 2) (lv' := [(2, vI code), (0, aR Γ 229), (1, vI code)]) hx (dq tX10_laysRow 1 rfl) (by decide) rfl rfl ?_
  refine g_iconst (n := 3) hx (dq tX10_laysRow 2 rfl) rfl ?_
  refine g_istore_n (n := 4) (lv' := [(3, vI 0), (2, vI code), (0, aR Γ 229), (1, vI code)]) hx (dq tX10_laysRow 3 rfl) (by decide) rfl rfl ?_
  refine g_aload_n (n := 5) hx 2 (dq tX10_laysRow 4 rfl) rfl rfl ?_
  refine g_getI (n := 8) hx glX10_589 (sX10_73 (by decide)) (dq tX10_laysRow 5 rfl) rfl (fun h_1l h_1u => ?_)
  refine g_iconst (n := 9) hx (dq tX10_laysRow 6 rfl) rfl ?_
  refine g_isub (n := 10) hx (dq tX10_laysRow 7 rfl) rfl ?_
  refine g_istore (n := 12) (lv' := [(4, vI ((M 229 73) - 1)), (3, vI 0), (2, vI code), (0, aR Γ 229), (1, vI code)]) hx (dq tX10_laysRow 8 rfl) (by decide) rfl rfl ?_
  have L_6 : ∀ (n_ : Nat) (i_2 : Int) (i_3 : Int) (i_4 : Int) (M_5 : zM), ((-1) ≤ i_2) → (i_2 ≤ 11) → (0 ≤ i_3) → (i_3 ≤ 63) → (0 ≤ i_4) → (i_4 ≤ 2147483647) → (∀ u_ v_, u_ ≠ 229 + 53 → M_5 u_ v_ = M u_ v_) → (Rk M_5 (i_2 + 1)) → (i_2 < M 229 73) → (M_5 229 73 = M 229 73) → (M_5 (229 + 1) 3 = M (229 + 1) 3) → ((i_2 - (-1)).toNat = n_) → G Γ x 6 (QI Γ x (qctX10_laysRow M code)) M_5 12 [(4, vI i_2), (3, vI i_3), (2, vI i_4), (0, aR Γ 229), (1, vI code)] [] := by
    intro n_
    induction n_ using Nat.strongRecOn with
    | _ n_ ih_7 =>
      intro i_2 i_3 i_4 M_5 h_14 h_15 h_16 h_17 h_18 h_19 f_8 h_10 h_11 h_12 h_13 hm_9
      refine g_iload (n := 14) hx 0 (dq tX10_laysRow 9 rfl) rfl rfl ?_
      refine g_if_lt (n := 17) (t := 59) hx (dq tX10_laysRow 10 rfl) (by decide) rfl ⟨by omega, by omega⟩ (fun c_20 => ?_) (fun c_20 => ?_)
      · refine g_iload_n (n := 60) hx 1 (dq tX10_laysRow 37 rfl) rfl rfl ?_
        refine g_iconst (n := 61) hx (dq tX10_laysRow 38 rfl) rfl ?_
        refine g_aload_n (n := 62) hx 3 (dq tX10_laysRow 39 rfl) rfl rfl ?_
        refine g_getI (n := 65) hx glX10_589 (sX10_73 (by decide)) (dq tX10_laysRow 40 rfl) rfl (fun h_21l h_21u => ?_)
        have e_22 : M_5 229 73 = M 229 73 := (f_8 229 73 (by omega))
        refine g_ishl1 (n := 66) hx (dq tX10_laysRow 41 rfl) rfl (by omega) (by omega) ?_
        refine g_nam (fun z_23 h_24 => ?_)
        have h_251 := pw1 (k := 12) (by omega) (by omega) h_24
        obtain ⟨h_252, h_253⟩ := h_251
        refine g_iconst (n := 67) hx (dq tX10_laysRow 42 rfl) rfl ?_
        refine g_isub (n := 68) hx (dq tX10_laysRow 43 rfl) rfl ?_
        refine g_icmp_ne (n := 71) (t := 75) hx (dq tX10_laysRow 44 rfl) (by decide) rfl ⟨by omega, by omega⟩ ⟨by omega, by omega⟩ (fun c_26 => ?_) (fun c_26 => ?_)
        · refine g_iconst (n := 76) hx (dq tX10_laysRow 47 rfl) rfl ?_
          have e_27 : M_5 (229 + 1) 1 = M (229 + 1) 1 := (f_8 (229 + 1) 1 (by omega))
          have e_28 : M_5 (229 + 1) 3 = M (229 + 1) 3 := (f_8 (229 + 1) 3 (by omega))
          exact g_zret hx hr (dq tX10_laysRow 48 rfl) (by omega) ⟨(fun u_ v_ huv_ => (f_8 u_ v_ (by omega))), (by omega), (Rk.le h_10 (by omega))⟩
        · refine g_iconst (n := 72) hx (dq tX10_laysRow 45 rfl) rfl ?_
          refine g_goto (n := 76) hx (dq tX10_laysRow 46 rfl) (by decide) ?_
          have e_29 : M_5 (229 + 1) 1 = M (229 + 1) 1 := (f_8 (229 + 1) 1 (by omega))
          have e_30 : M_5 (229 + 1) 3 = M (229 + 1) 3 := (f_8 (229 + 1) 3 (by omega))
          exact g_zret hx hr (dq tX10_laysRow 48 rfl) (by omega) ⟨(fun u_ v_ huv_ => (f_8 u_ v_ (by omega))), (by omega), (Rk.le h_10 (by omega))⟩
      · refine g_iload_n (n := 18) hx 2 (dq tX10_laysRow 11 rfl) rfl rfl ?_
        refine g_aload_n (n := 19) hx 3 (dq tX10_laysRow 12 rfl) rfl rfl ?_
        refine g_getI (n := 22) hx glX10_589 (sX10_73 (by decide)) (dq tX10_laysRow 13 rfl) rfl (fun h_31l h_31u => ?_)
        have e_32 : M_5 229 73 = M 229 73 := (f_8 229 73 (by omega))
        refine g_irem (n := 23) hx (dq tX10_laysRow 14 rfl) rfl ⟨by omega, by omega⟩ (zrI h_31l h_31u (by decide) (by decide)) (by omega) (fun z_33 h_34 h_35 => ?_)
        obtain ⟨h_351, h_352, h_353, -⟩ := h_35 (by omega)
        obtain ⟨h_354, h_355, h_356⟩ := h_353 (by omega)
        clear h_35 h_353 h_356
        refine g_istore (n := 25) (lv' := [(5, vI z_33), (4, vI i_2), (3, vI i_3), (2, vI i_4), (0, aR Γ 229), (1, vI code)]) hx (dq tX10_laysRow 15 rfl) (by decide) rfl rfl ?_
        refine g_iload_n (n := 26) hx 3 (dq tX10_laysRow 16 rfl) rfl rfl ?_
        refine g_aload_n (n := 27) hx 4 (dq tX10_laysRow 17 rfl) rfl rfl ?_
        refine g_getI (n := 30) hx glX10_589 (sX10_73 (by decide)) (dq tX10_laysRow 18 rfl) rfl (fun h_36l h_36u => ?_)
        refine g_idiv (n := 31) hx (dq tX10_laysRow 19 rfl) rfl ⟨by omega, by omega⟩ (zrI h_36l h_36u (by decide) (by decide)) (by omega) (fun z_37 h_38 h_39 => ?_)
        obtain ⟨h_396, h_394, h_395⟩ := h_39 (by omega) (by omega)
        clear h_39 h_396
        refine g_istore_n (n := 32) (lv' := [(2, vI z_37), (5, vI z_33), (4, vI i_2), (3, vI i_3), (0, aR Γ 229), (1, vI code)]) hx (dq tX10_laysRow 20 rfl) (by decide) rfl rfl ?_
        refine g_iload_n (n := 33) hx 3 (dq tX10_laysRow 21 rfl) rfl rfl ?_
        refine g_iconst (n := 34) hx (dq tX10_laysRow 22 rfl) rfl ?_
        refine g_iload (n := 36) hx 1 (dq tX10_laysRow 23 rfl) rfl rfl ?_
        refine g_ishl1 (n := 37) hx (dq tX10_laysRow 24 rfl) rfl (by omega) (by omega) ?_
        refine g_nam (fun z_40 h_41 => ?_)
        have h_421 := pw1 (k := 5) (by omega) (by omega) h_41
        obtain ⟨h_422, h_423⟩ := h_421
        refine g_ior (n := 38) hx (dq tX10_laysRow 25 rfl) rfl (fun z_43 h_44 h_45 => ?_)
        obtain ⟨h_453, h_454⟩ := h_45 6 (by decide) (by omega) (by omega) (by omega) (by omega)
        clear h_45
        refine g_istore_n (n := 39) (lv' := [(3, vI z_43), (2, vI z_37), (5, vI z_33), (4, vI i_2), (0, aR Γ 229), (1, vI code)]) hx (dq tX10_laysRow 26 rfl) (by decide) rfl rfl ?_
        refine g_aload_n (n := 40) hx 4 (dq tX10_laysRow 27 rfl) rfl rfl ?_
        refine g_getR (n := 43) hx glX10_172 (sX10_71 (by decide)) (dq tX10_laysRow 28 rfl) rfl ?_
        refine g_iload (n := 45) hx 3 (dq tX10_laysRow 29 rfl) rfl rfl ?_
        refine g_aload_n (n := 46) hx 4 (dq tX10_laysRow 30 rfl) rfl rfl ?_
        refine g_getR (n := 49) hx glX10_166 (sX10_69 (by decide)) (dq tX10_laysRow 31 rfl) rfl ?_
        refine g_iload (n := 51) hx 2 (dq tX10_laysRow 32 rfl) rfl rfl ?_
        refine g_iald (n := 52) (q := z_33.toNat) hx (aX10_69 (b := 229) (by decide)) (dq tX10_laysRow 33 rfl) rfl (by omega) (by omega) (by omega) rfl (fun h_46l h_46u => ?_)
        have e_47 : M_5 (229 + 1) 1 = M (229 + 1) 1 := (f_8 (229 + 1) 1 (by omega))
        have e_48 : M_5 (229 + 1) 3 = M (229 + 1) 3 := (f_8 (229 + 1) 3 (by omega))
        have h_49 : M (229 + 51) z_33.toNat < M (229 + 1) 3 := ex0 z_33.toNat (by omega)
        have h_50 := ((f_8 (229 + 51) z_33.toNat (by omega)) : M_5 (229 + 51) z_33.toNat = M (229 + 51) z_33.toNat)
        refine g_iast (n := 53) (q := i_2.toNat) hx (aX10_71 (b := 229) (by decide)) (dq tX10_laysRow 34 rfl) rfl (by omega) (by omega) (by omega) rfl (by omega) (by omega) (fun M_51 m_52e m_52 => ?_)
        refine g_iinc (n := 56) (lv' := [(4, vI (i_2 + (-1))), (3, vI z_43), (2, vI z_37), (5, vI z_33), (0, aR Γ 229), (1, vI code)]) hx 3 (dq tX10_laysRow 35 rfl) rfl (by decide) rfl rfl ?_
        refine g_goto (n := 12) hx (dq tX10_laysRow 36 rfl) (by decide) ?_
        have e_53 : M_51 (229 + 1) 1 = M_5 (229 + 1) 1 := (m_52 (229 + 1) 1 (by omega))
        have e_54 : M_51 (229 + 1) 3 = M_5 (229 + 1) 3 := (m_52 (229 + 1) 3 (by omega))
        have e_55 : M_51 229 73 = M_5 229 73 := (m_52 229 73 (by omega))
        refine g_lv [0, 1, 2, 4, 5] rfl ?_
        exact ih_7 _ (by omega) (i_2 + (-1)) z_43 z_37 M_51 (by omega) (by omega) (by omega) (by omega) (by omega) (by omega) (fun u_ v_ huv_ => ((m_52 u_ v_ (by omega)).trans (f_8 u_ v_ (by omega)))) (Rk.put h_10 m_52e m_52 (by omega) (by omega) (by omega)) (by omega) (by omega) (by omega) rfl
  exact L_6 _ ((M 229 73) - 1) 0 code M (by omega) (by omega) (by omega) (by omega) (by omega) (by omega) (fun _ _ _ => rfl) (Rk.nil (by omega)) (by omega) (by omega) (by omega) rfl

abbrev qctX10_findsAhead (M : zM) (n : Int) (M' : zM) : Prop := (∀ u_ v_, (u_ ≠ 229 ∨ v_ < 61 ∨ 80 ≤ v_) ∧ (u_ < 229 + 1 ∨ 229 + 29 ≤ u_) ∧ (u_ < 229 + 46 ∨ 229 + 57 ≤ u_) → M' u_ v_ = M u_ v_) ∧ Gm M' ∧ Rl M' ∧ On M' ∧ Fl M' ∧ (Sm M M') ∧ (∀ j : Nat, j < 3600 → M' (229 + 56) j = M (229 + 56) j)
set_option maxHeartbeats 4000000 in
set_option maxRecDepth 100000 in
theorem ctX10_findsAhead (Γ : Gam) (M : zM) (n : Int) (hnl : 0 ≤ n) (hnu : n ≤ 20) (pre0 : M 229 73 ≤ 6) (pre1 : M (229 + 1) 7 ≤ 9999) (gm : Gm M) (rl : Rl M) (on : On M) (fl : Fl M) : CtV Γ yX10_findsAhead cX10_findsAhead 5 none 13 299 [aR Γ 229, vI n] M (qctX10_findsAhead M n) := by
  refine met_v (by decide) (Nat.le_of_ble_eq_true rfl) (fun x hx hr => ?_)
  show G Γ x 5 (QV Γ x (qctX10_findsAhead M n)) M 0 [(0, aR Γ 229), (1, vI n)] []
  refine g_iconst (n := 1) hx (dq tX10_findsAhead 0 rfl) rfl ?_
  refine g_istore_n (n := 2) (lv' := [(2, vI 1), (0, aR Γ 229), (1, vI n)]) hx (dq tX10_findsAhead 1 rfl) (by decide) rfl rfl ?_
  refine g_iconst (n := 3) hx (dq tX10_findsAhead 2 rfl) rfl ?_
  refine g_istore_n (n := 4) (lv' := [(3, vI 0), (2, vI 1), (0, aR Γ 229), (1, vI n)]) hx (dq tX10_findsAhead 3 rfl) (by decide) rfl rfl ?_
  have L_3 : ∀ (n_ : Nat) (i_1 : Int) (i_2 : Int), (0 ≤ i_1) → (i_1 ≤ 12) → ((-2147483648) ≤ i_2) → (i_2 ≤ 2147483647) → ((12 - i_1).toNat = n_) → G Γ x 5 (QV Γ x (qctX10_findsAhead M n)) M 4 [(3, vI i_1), (2, vI i_2), (0, aR Γ 229), (1, vI n)] [] := by
    intro n_
    induction n_ using Nat.strongRecOn with
    | _ n_ ih_4 =>
      intro i_1 i_2 h_7 h_8 h_9 h_10 hm_6
      refine g_iload_n (n := 5) hx 0 (dq tX10_findsAhead 4 rfl) rfl rfl ?_
      refine g_aload_n (n := 6) hx 2 (dq tX10_findsAhead 5 rfl) rfl rfl ?_
      refine g_getI (n := 9) hx glX10_589 (sX10_73 (by decide)) (dq tX10_findsAhead 6 rfl) rfl (fun h_11l h_11u => ?_)
      refine g_icmp_ge (n := 12) (t := 25) hx (dq tX10_findsAhead 7 rfl) (by decide) rfl ⟨by omega, by omega⟩ (zrI h_11l h_11u (by decide) (by decide)) (fun c_12 => ?_) (fun c_12 => ?_)
      · refine g_aload_n (n := 26) hx 2 (dq tX10_findsAhead 15 rfl) rfl rfl ?_
        refine g_iconst (n := 27) hx (dq tX10_findsAhead 16 rfl) rfl ?_
        refine g_putI (n := 30) hx plX10_592 (sX10_74 (by decide)) (dq tX10_findsAhead 17 rfl) rfl (by omega) (by omega) (fun M_13 m_14e m_14 => ?_)
        have g_15 : Gm M_13 := Gm.frame gm (fun c j hcj => m_14 c j (by omega))
        have g_16 : Rl M_13 := Rl.frame rl (fun c j hcj => m_14 c j (by omega))
        have g_17 : On M_13 := On.frame on (fun c j hcj => m_14 c j (by omega))
        have g_18 : Fl M_13 := Fl.same fl (m_14 229 73 (by omega)) (m_14 (229 + 1) 3 (by omega)) (fun j => m_14 _ _ (by omega))
        refine g_aload_n (n := 31) hx 2 (dq tX10_findsAhead 18 rfl) rfl rfl ?_
        have e_19 : M_13 (229 + 1) 1 = M (229 + 1) 1 := (m_14 (229 + 1) 1 (by omega))
        have e_20 : M_13 (229 + 1) 3 = M (229 + 1) 3 := (m_14 (229 + 1) 3 (by omega))
        have e_21 : M_13 229 73 = M 229 73 := (m_14 229 73 (by omega))
        have e_22 : M_13 (229 + 1) 7 = M (229 + 1) 7 := (m_14 (229 + 1) 7 (by omega))
        refine g_callVv (n := 34) (As := []) (rest := []) hx (ctX10_keeps Γ M_13 (by omega) g_15 g_16 g_17) mlX10_517 (obX10 (by decide)) (dq tX10_findsAhead 19 rfl) rfl (Nat.le_of_ble_eq_true rfl) (Nat.le_of_ble_eq_true rfl) (Nat.le_of_ble_eq_true rfl) rfl (fun M_24 p_26 => ?_)
        obtain ⟨f_27, g_28, g_29, g_30, h_31, h_32, h_33⟩ := p_26
        have g_34 : Fl M_24 := Fl.same g_18 (f_27 229 73 (by omega)) (f_27 (229 + 1) 3 (by omega)) (fun j => f_27 _ _ (by omega))
        have g_35 : M_24 (229 + 1) 3 = M (229 + 1) 3 := ((f_27 (229 + 1) 3 (by omega)).trans (m_14 (229 + 1) 3 (by omega)))
        have g_36 : M_24 (229 + 56) 3603 = M (229 + 1) 3 := (h_32 (229 + 1) 3 (by omega) (by omega) (by decide)).trans ((m_14 (229 + 1) 3 (by omega)))
        have g_37 : M_24 (229 + 1) 7 ≤ 9999 := by have q1 := (((f_27 (229 + 1) 7 (by omega)).trans (m_14 (229 + 1) 7 (by omega))) : M_24 (229 + 1) 7 = M (229 + 1) 7); omega
        refine g_iconst (n := 35) hx (dq tX10_findsAhead 20 rfl) rfl ?_
        refine g_istore_n (n := 36) (lv' := [(3, vI 0), (2, vI i_2), (0, aR Γ 229), (1, vI n)]) hx (dq tX10_findsAhead 21 rfl) (by decide) rfl rfl ?_
        have L_40 : ∀ (n_ : Nat) (i_38 : Int) (M_39 : zM), (0 ≤ i_38) → (i_38 ≤ 2147483647) → (∀ u_ v_, u_ ≠ 229 + 53 ∧ u_ ≠ 229 + 54 ∧ (u_ ≠ 229 ∨ v_ ≠ 74) ∧ (u_ ≠ 229 ∨ v_ < 61 ∨ 68 ≤ v_) ∧ (u_ ≠ 229 ∨ v_ < 78 ∨ 80 ≤ v_) ∧ (u_ < 229 + 1 ∨ 229 + 29 ≤ u_) ∧ (u_ < 229 + 46 ∨ 229 + 51 ≤ u_) → M_39 u_ v_ = M_24 u_ v_) → (Gm M_39) → (Rl M_39) → (Fl M_39) → (BlOk M_39 4) → (M_39 (229 + 1) 3 = M (229 + 1) 3) → (M_39 (229 + 56) 3603 = M (229 + 1) 3) → (M_39 (229 + 1) 7 ≤ 9999) → ((2147483648 - i_38).toNat = n_) → G Γ x 5 (QV Γ x (qctX10_findsAhead M n)) M_39 36 [(3, vI i_38), (2, vI i_2), (0, aR Γ 229), (1, vI n)] [] := by
          intro n_
          induction n_ using Nat.strongRecOn with
          | _ n_ ih_41 =>
            intro i_38 M_39 h_51 h_52 f_42 g_43 g_44 g_45 g_46 g_47 g_48 g_49 hm_50
            refine g_iload_n (n := 37) hx 0 (dq tX10_findsAhead 22 rfl) rfl rfl ?_
            refine g_iload_n (n := 38) hx 1 (dq tX10_findsAhead 23 rfl) rfl rfl ?_
            refine g_icmp_ge (n := 41) (t := 135) hx (dq tX10_findsAhead 24 rfl) (by decide) rfl ⟨by omega, by omega⟩ ⟨by omega, by omega⟩ (fun c_53 => ?_) (fun c_53 => ?_)
            · refine g_aload_n (n := 136) hx 2 (dq tX10_findsAhead 71 rfl) rfl rfl ?_
              have e_54 : M_39 229 73 = M_13 229 73 := ((f_42 229 73 (by omega))).trans (f_27 229 73 (by omega))
              refine g_callVv (n := 139) (As := []) (rest := []) hx (ctX10_laysBack Γ M_39 g_44 g_46) mlX10_520 (obX10 (by decide)) (dq tX10_findsAhead 72 rfl) rfl (Nat.le_of_ble_eq_true rfl) (Nat.le_of_ble_eq_true rfl) (Nat.le_of_ble_eq_true rfl) rfl (fun M_56 p_58 => ?_)
              obtain ⟨f_59, g_60, g_61, h_62, h_63, h_64, h_65⟩ := p_58
              have g_66 : Fl M_56 := Fl.same g_45 (f_59 229 73 (by omega)) (by have q1 : M_56 (229 + 1) 3 = M_39 (229 + 56) 3603 := h_62 (229 + 1) 3 (by omega) (by omega) (by decide); omega) (fun j => f_59 _ _ (by omega))
              have g_67 : M_56 (229 + 1) 3 = M (229 + 1) 3 := (by have q1 : M_56 (229 + 1) 3 = M_39 (229 + 56) 3603 := h_62 (229 + 1) 3 (by omega) (by omega) (by decide); omega)
              have g_68 : M_56 (229 + 56) 3603 = M (229 + 1) 3 := by have q1 := f_59 (229 + 56) 3603 (by omega); omega
              have g_69 : M_56 (229 + 1) 7 ≤ 9999 := h_65
              have e_70 : M_56 229 73 = M_39 229 73 := (f_59 229 73 (by omega))
              exact g_vret hx hr (dq tX10_findsAhead 73 rfl) ⟨(fun u_ v_ huv_ => ((((f_59 u_ v_ (by omega)).trans (f_42 u_ v_ (by omega))).trans (f_27 u_ v_ (by omega))).trans (m_14 u_ v_ (by omega)))), h_63, g_60, h_64, g_66, (fun c j h1 h2 h3 => (h_62 c j h1 h2 h3).trans (((f_42 (229 + 56) (900 * 4 + zof c + j) (by omega))).trans ((h_32 c j h1 h2 h3).trans ((m_14 c j (by omega)))))), (fun j hj => (((f_59 (229 + 56) j (by omega)).trans (f_42 (229 + 56) j (by omega)))).trans ((h_33 j hj).trans ((m_14 (229 + 56) j (by omega)))))⟩
            · refine g_aload_n (n := 42) hx 2 (dq tX10_findsAhead 25 rfl) rfl rfl ?_
              refine g_iload_n (n := 43) hx 0 (dq tX10_findsAhead 26 rfl) rfl rfl ?_
              have e_71 : M_39 229 73 = M_13 229 73 := ((f_42 229 73 (by omega))).trans (f_27 229 73 (by omega))
              refine g_callVi (n := 46) (As := [vI i_38]) (rest := []) hx (ctX10_laysRow Γ M_39 i_38 (by omega) (by omega) (by omega) g_45) mlX10_595 (obX10 (by decide)) (dq tX10_findsAhead 27 rfl) rfl (Nat.le_of_ble_eq_true rfl) (Nat.le_of_ble_eq_true rfl) (Nat.le_of_ble_eq_true rfl) rfl (fun z_72 M_73 h_74 p_75 => ?_)
              obtain ⟨f_76, b_77, h_78⟩ := p_75
              have g_79 : Gm M_73 := Gm.frame g_43 (fun c j hcj => f_76 c j (by omega))
              have g_80 : Rl M_73 := Rl.frame g_44 (fun c j hcj => f_76 c j (by omega))
              have g_81 : Fl M_73 := Fl.same g_45 (f_76 229 73 (by omega)) (f_76 (229 + 1) 3 (by omega)) (fun j => f_76 _ _ (by omega))
              have g_82 : BlOk M_73 4 := BlOk.frame g_46 (fun c j hcj => f_76 c j (by omega))
              have g_83 : M_73 (229 + 1) 3 = M (229 + 1) 3 := by have q1 := f_76 (229 + 1) 3 (by omega); omega
              have g_84 : M_73 (229 + 56) 3603 = M (229 + 1) 3 := by have q1 := f_76 (229 + 56) 3603 (by omega); omega
              have g_85 : M_73 (229 + 1) 7 ≤ 9999 := by have q1 := f_76 (229 + 1) 7 (by omega); omega
              refine g_if_eq (n := 49) (t := 129) hx (dq tX10_findsAhead 28 rfl) (by decide) rfl h_74 (fun c_86 => ?_) (fun c_86 => ?_)
              · clear b_77
                refine g_iinc (n := 132) (lv' := [(3, vI (i_38 + 1)), (2, vI i_2), (0, aR Γ 229), (1, vI n)]) hx 0 (dq tX10_findsAhead 69 rfl) rfl (by decide) rfl rfl ?_
                refine g_goto (n := 36) hx (dq tX10_findsAhead 70 rfl) (by decide) ?_
                have e_87 : M_73 (229 + 1) 1 = M_39 (229 + 1) 1 := (f_76 (229 + 1) 1 (by omega))
                have e_88 : M_73 (229 + 1) 3 = M_39 (229 + 1) 3 := (f_76 (229 + 1) 3 (by omega))
                have e_89 : M_73 229 73 = M_39 229 73 := (f_76 229 73 (by omega))
                have e_90 : M_73 (229 + 1) 7 = M_39 (229 + 1) 7 := (f_76 (229 + 1) 7 (by omega))
                exact ih_41 _ (by omega) (i_38 + 1) M_73 (by omega) (by omega) (fun u_ v_ huv_ => ((f_76 u_ v_ (by omega)).trans (f_42 u_ v_ (by omega)))) g_79 g_80 g_81 g_82 g_83 g_84 g_85 rfl
              · have b_77 := b_77.resolve_left c_86
                refine g_iconst (n := 50) hx (dq tX10_findsAhead 29 rfl) rfl ?_
                refine g_istore (n := 52) (lv' := [(4, vI 0), (3, vI i_38), (2, vI i_2), (0, aR Γ 229), (1, vI n)]) hx (dq tX10_findsAhead 30 rfl) (by decide) rfl rfl ?_
                have L_93 : ∀ (n_ : Nat) (i_91 : Int) (M_92 : zM), (0 ≤ i_91) → (i_91 ≤ 12) → (∀ u_ v_, u_ ≠ 229 + 17 → M_92 u_ v_ = M_73 u_ v_) → (Gm M_92) → (Rl M_92) → (Fl M_92) → (BlOk M_92 4) → (M_92 (229 + 1) 3 = M (229 + 1) 3) → (M_92 (229 + 56) 3603 = M (229 + 1) 3) → (M_92 (229 + 1) 7 ≤ 9999) → (Rk M_92 0) → ((12 - i_91).toNat = n_) → G Γ x 5 (QV Γ x (qctX10_findsAhead M n)) M_92 52 [(4, vI i_91), (3, vI i_38), (2, vI i_2), (0, aR Γ 229), (1, vI n)] [] := by
                  intro n_
                  induction n_ using Nat.strongRecOn with
                  | _ n_ ih_94 =>
                    intro i_91 M_92 h_105 h_106 f_95 g_96 g_97 g_98 g_99 g_100 g_101 g_102 g_103 hm_104
                    refine g_iload (n := 54) hx 0 (dq tX10_findsAhead 31 rfl) rfl rfl ?_
                    refine g_aload_n (n := 55) hx 3 (dq tX10_findsAhead 32 rfl) rfl rfl ?_
                    refine g_getI (n := 58) hx glX10_589 (sX10_73 (by decide)) (dq tX10_findsAhead 33 rfl) rfl (fun h_107l h_107u => ?_)
                    have e_108 : M_92 229 73 = M_39 229 73 := ((f_95 229 73 (by omega))).trans (f_76 229 73 (by omega))
                    refine g_icmp_ge (n := 61) (t := 86) hx (dq tX10_findsAhead 34 rfl) (by decide) rfl ⟨by omega, by omega⟩ (zrI h_107l h_107u (by decide) (by decide)) (fun c_109 => ?_) (fun c_109 => ?_)
                    · refine g_aload_n (n := 87) hx 3 (dq tX10_findsAhead 48 rfl) rfl rfl ?_
                      refine g_iload_n (n := 88) hx 4 (dq tX10_findsAhead 49 rfl) rfl rfl ?_
                      have e_110 : M_92 (229 + 1) 1 = M_39 (229 + 1) 1 := ((f_95 (229 + 1) 1 (by omega))).trans (f_76 (229 + 1) 1 (by omega))
                      have e_111 : M_92 (229 + 1) 3 = M_39 (229 + 1) 3 := ((f_95 (229 + 1) 3 (by omega))).trans (f_76 (229 + 1) 3 (by omega))
                      have e_112 : M_92 (229 + 1) 7 = M_39 (229 + 1) 7 := ((f_95 (229 + 1) 7 (by omega))).trans (f_76 (229 + 1) 7 (by omega))
                      refine g_callVv (n := 91) (As := [vI n]) (rest := []) hx (ctX10_wouldBe Γ M_92 n (by omega) (by omega) (by omega) g_96 g_97 g_99) mlX10_583 (obX10 (by decide)) (dq tX10_findsAhead 50 rfl) rfl (Nat.le_of_ble_eq_true rfl) (Nat.le_of_ble_eq_true rfl) (Nat.le_of_ble_eq_true rfl) rfl (fun M_114 p_116 => ?_)
                      obtain ⟨f_117, g_118, g_119, g_120, h_121, h_122, h_123, h_124⟩ := p_116
                      have g_125 : Fl M_114 := Fl.same g_98 (f_117 229 73 (by omega)) (by have q1 : M_114 (229 + 1) 3 = M_92 (229 + 56) 3603 := h_121 (229 + 1) 3 (by omega) (by omega) (by decide); omega) (fun j => f_117 _ _ (by omega))
                      have g_126 : M_114 (229 + 1) 3 = M (229 + 1) 3 := (by have q1 : M_114 (229 + 1) 3 = M_92 (229 + 56) 3603 := h_121 (229 + 1) 3 (by omega) (by omega) (by decide); omega)
                      have g_127 : M_114 (229 + 56) 3603 = M (229 + 1) 3 := by have q1 := f_117 (229 + 56) 3603 (by omega); omega
                      have g_128 : M_114 (229 + 1) 7 ≤ 9999 := h_124
                      refine g_aload_n (n := 92) hx 3 (dq tX10_findsAhead 51 rfl) rfl rfl ?_
                      refine g_getI (n := 95) hx glX10_592 (sX10_74 (by decide)) (dq tX10_findsAhead 52 rfl) rfl (fun h_129l h_129u => ?_)
                      refine g_iconst (n := 96) hx (dq tX10_findsAhead 53 rfl) rfl ?_
                      refine g_icmp_eq (n := 99) (t := 110) hx (dq tX10_findsAhead 54 rfl) (by decide) rfl (zrI h_129l h_129u (by decide) (by decide)) ⟨by decide, by decide⟩ (fun c_130 => ?_) (fun c_130 => ?_)
                      · refine g_aload_n (n := 111) hx 3 (dq tX10_findsAhead 60 rfl) rfl rfl ?_
                        refine g_aload_n (n := 112) hx 3 (dq tX10_findsAhead 61 rfl) rfl rfl ?_
                        refine g_getI (n := 115) hx glX10_525 (sX10_61 (by decide)) (dq tX10_findsAhead 62 rfl) rfl (fun h_131l h_131u => ?_)
                        have e_132 : M_114 229 73 = M_92 229 73 := (f_117 229 73 (by omega))
                        refine g_putI (n := 118) hx plX10_592 (sX10_74 (by decide)) (dq tX10_findsAhead 63 rfl) rfl (by omega) (by omega) (fun M_133 m_134e m_134 => ?_)
                        have g_135 : Gm M_133 := Gm.frame h_122 (fun c j hcj => m_134 c j (by omega))
                        have g_136 : Rl M_133 := Rl.frame g_119 (fun c j hcj => m_134 c j (by omega))
                        have g_137 : Fl M_133 := Fl.same g_125 (m_134 229 73 (by omega)) (m_134 (229 + 1) 3 (by omega)) (fun j => m_134 _ _ (by omega))
                        have g_138 : BlOk M_133 4 := BlOk.frame g_120 (fun c j hcj => m_134 c j (by omega))
                        have g_139 : M_133 (229 + 1) 3 = M (229 + 1) 3 := by have q1 := m_134 (229 + 1) 3 (by omega); omega
                        have g_140 : M_133 (229 + 56) 3603 = M (229 + 1) 3 := by have q1 := m_134 (229 + 56) 3603 (by omega); omega
                        have g_141 : M_133 (229 + 1) 7 ≤ 9999 := by have q1 := m_134 (229 + 1) 7 (by omega); omega
                        refine g_aload_n (n := 119) hx 3 (dq tX10_findsAhead 64 rfl) rfl rfl ?_
                        refine g_getR (n := 122) hx glX10_172 (sX10_71 (by decide)) (dq tX10_findsAhead 65 rfl) rfl ?_
                        refine g_aload_n (n := 123) hx 3 (dq tX10_findsAhead 66 rfl) rfl rfl ?_
                        refine g_getR (n := 126) hx glX10_175 (sX10_72 (by decide)) (dq tX10_findsAhead 67 rfl) rfl ?_
                        have e_142 : M_133 (229 + 1) 1 = M_114 (229 + 1) 1 := (m_134 (229 + 1) 1 (by omega))
                        have e_143 : M_133 (229 + 1) 3 = M_114 (229 + 1) 3 := (m_134 (229 + 1) 3 (by omega))
                        have e_144 : M_133 229 73 = M_114 229 73 := (m_134 229 73 (by omega))
                        have e_145 : M_133 (229 + 1) 7 = M_114 (229 + 1) 7 := (m_134 (229 + 1) 7 (by omega))
                        refine g_callSv (n := 129) (As := [aR Γ (229 + 53), aR Γ (229 + 54)]) (rest := []) hx (ctX10_lay Γ M_133 (229 + 53) (229 + 54) 6 (aX10_71 (b := 229) (by decide)) (aX10_72 (b := 229) (by decide)) (by decide) (by decide) (by decide) (by decide)) mlX10_368 (dq tX10_findsAhead 68 rfl) rfl (Nat.le_of_ble_eq_true rfl) (Nat.le_of_ble_eq_true rfl) (Nat.le_of_ble_eq_true rfl) rfl (fun M_147 p_149 => ?_)
                        obtain ⟨f_150, e_151⟩ := p_149
                        have g_152 : Gm M_147 := Gm.frame g_135 (fun c j hcj => f_150 c j (by omega))
                        have g_153 : Rl M_147 := Rl.frame g_136 (fun c j hcj => f_150 c j (by omega))
                        have g_154 : Fl M_147 := Fl.same g_137 (f_150 229 73 (by omega)) (f_150 (229 + 1) 3 (by omega)) (fun j => f_150 _ _ (by omega))
                        have g_155 : BlOk M_147 4 := BlOk.frame g_138 (fun c j hcj => f_150 c j (by omega))
                        have g_156 : M_147 (229 + 1) 3 = M (229 + 1) 3 := by have q1 := f_150 (229 + 1) 3 (by omega); omega
                        have g_157 : M_147 (229 + 56) 3603 = M (229 + 1) 3 := by have q1 := f_150 (229 + 56) 3603 (by omega); omega
                        have g_158 : M_147 (229 + 1) 7 ≤ 9999 := by have q1 := f_150 (229 + 1) 7 (by omega); omega
                        refine g_iinc (n := 132) (lv' := [(3, vI (i_38 + 1)), (4, vI i_91), (2, vI i_2), (0, aR Γ 229), (1, vI n)]) hx 1 (dq tX10_findsAhead 69 rfl) rfl (by decide) rfl rfl ?_
                        refine g_goto (n := 36) hx (dq tX10_findsAhead 70 rfl) (by decide) ?_
                        have e_159 : M_147 (229 + 1) 1 = M_133 (229 + 1) 1 := (f_150 (229 + 1) 1 (by omega))
                        have e_160 : M_147 (229 + 1) 3 = M_133 (229 + 1) 3 := (f_150 (229 + 1) 3 (by omega))
                        have e_161 : M_147 229 73 = M_133 229 73 := (f_150 229 73 (by omega))
                        have e_162 : M_147 (229 + 1) 7 = M_133 (229 + 1) 7 := (f_150 (229 + 1) 7 (by omega))
                        refine g_lv [0, 2, 3, 4] rfl ?_
                        exact ih_41 _ (by omega) (i_38 + 1) M_147 (by omega) (by omega) (fun u_ v_ huv_ => ((((((f_150 u_ v_ (by omega)).trans (m_134 u_ v_ (by omega))).trans (f_117 u_ v_ (by omega))).trans (f_95 u_ v_ (by omega))).trans (f_76 u_ v_ (by omega))).trans (f_42 u_ v_ (by omega)))) g_152 g_153 g_154 g_155 g_156 g_157 g_158 rfl
                      · refine g_aload_n (n := 100) hx 3 (dq tX10_findsAhead 55 rfl) rfl rfl ?_
                        refine g_getI (n := 103) hx glX10_525 (sX10_61 (by decide)) (dq tX10_findsAhead 56 rfl) rfl (fun h_163l h_163u => ?_)
                        refine g_aload_n (n := 104) hx 3 (dq tX10_findsAhead 57 rfl) rfl rfl ?_
                        refine g_getI (n := 107) hx glX10_592 (sX10_74 (by decide)) (dq tX10_findsAhead 58 rfl) rfl (fun h_164l h_164u => ?_)
                        refine g_icmp_ge (n := 110) (t := 129) hx (dq tX10_findsAhead 59 rfl) (by decide) rfl (zrI h_163l h_163u (by decide) (by decide)) (zrI h_164l h_164u (by decide) (by decide)) (fun c_165 => ?_) (fun c_165 => ?_)
                        · refine g_iinc (n := 132) (lv' := [(3, vI (i_38 + 1)), (4, vI i_91), (2, vI i_2), (0, aR Γ 229), (1, vI n)]) hx 1 (dq tX10_findsAhead 69 rfl) rfl (by decide) rfl rfl ?_
                          refine g_goto (n := 36) hx (dq tX10_findsAhead 70 rfl) (by decide) ?_
                          have e_166 : M_114 229 73 = M_92 229 73 := (f_117 229 73 (by omega))
                          refine g_lv [0, 2, 3, 4] rfl ?_
                          exact ih_41 _ (by omega) (i_38 + 1) M_114 (by omega) (by omega) (fun u_ v_ huv_ => ((((f_117 u_ v_ (by omega)).trans (f_95 u_ v_ (by omega))).trans (f_76 u_ v_ (by omega))).trans (f_42 u_ v_ (by omega)))) h_122 g_119 g_125 g_120 g_126 g_127 g_128 rfl
                        · refine g_aload_n (n := 111) hx 3 (dq tX10_findsAhead 60 rfl) rfl rfl ?_
                          refine g_aload_n (n := 112) hx 3 (dq tX10_findsAhead 61 rfl) rfl rfl ?_
                          refine g_getI (n := 115) hx glX10_525 (sX10_61 (by decide)) (dq tX10_findsAhead 62 rfl) rfl (fun h_167l h_167u => ?_)
                          have e_168 : M_114 229 73 = M_92 229 73 := (f_117 229 73 (by omega))
                          refine g_putI (n := 118) hx plX10_592 (sX10_74 (by decide)) (dq tX10_findsAhead 63 rfl) rfl (by omega) (by omega) (fun M_169 m_170e m_170 => ?_)
                          have g_171 : Gm M_169 := Gm.frame h_122 (fun c j hcj => m_170 c j (by omega))
                          have g_172 : Rl M_169 := Rl.frame g_119 (fun c j hcj => m_170 c j (by omega))
                          have g_173 : Fl M_169 := Fl.same g_125 (m_170 229 73 (by omega)) (m_170 (229 + 1) 3 (by omega)) (fun j => m_170 _ _ (by omega))
                          have g_174 : BlOk M_169 4 := BlOk.frame g_120 (fun c j hcj => m_170 c j (by omega))
                          have g_175 : M_169 (229 + 1) 3 = M (229 + 1) 3 := by have q1 := m_170 (229 + 1) 3 (by omega); omega
                          have g_176 : M_169 (229 + 56) 3603 = M (229 + 1) 3 := by have q1 := m_170 (229 + 56) 3603 (by omega); omega
                          have g_177 : M_169 (229 + 1) 7 ≤ 9999 := by have q1 := m_170 (229 + 1) 7 (by omega); omega
                          refine g_aload_n (n := 119) hx 3 (dq tX10_findsAhead 64 rfl) rfl rfl ?_
                          refine g_getR (n := 122) hx glX10_172 (sX10_71 (by decide)) (dq tX10_findsAhead 65 rfl) rfl ?_
                          refine g_aload_n (n := 123) hx 3 (dq tX10_findsAhead 66 rfl) rfl rfl ?_
                          refine g_getR (n := 126) hx glX10_175 (sX10_72 (by decide)) (dq tX10_findsAhead 67 rfl) rfl ?_
                          have e_178 : M_169 (229 + 1) 1 = M_114 (229 + 1) 1 := (m_170 (229 + 1) 1 (by omega))
                          have e_179 : M_169 (229 + 1) 3 = M_114 (229 + 1) 3 := (m_170 (229 + 1) 3 (by omega))
                          have e_180 : M_169 229 73 = M_114 229 73 := (m_170 229 73 (by omega))
                          have e_181 : M_169 (229 + 1) 7 = M_114 (229 + 1) 7 := (m_170 (229 + 1) 7 (by omega))
                          refine g_callSv (n := 129) (As := [aR Γ (229 + 53), aR Γ (229 + 54)]) (rest := []) hx (ctX10_lay Γ M_169 (229 + 53) (229 + 54) 6 (aX10_71 (b := 229) (by decide)) (aX10_72 (b := 229) (by decide)) (by decide) (by decide) (by decide) (by decide)) mlX10_368 (dq tX10_findsAhead 68 rfl) rfl (Nat.le_of_ble_eq_true rfl) (Nat.le_of_ble_eq_true rfl) (Nat.le_of_ble_eq_true rfl) rfl (fun M_183 p_185 => ?_)
                          obtain ⟨f_186, e_187⟩ := p_185
                          have g_188 : Gm M_183 := Gm.frame g_171 (fun c j hcj => f_186 c j (by omega))
                          have g_189 : Rl M_183 := Rl.frame g_172 (fun c j hcj => f_186 c j (by omega))
                          have g_190 : Fl M_183 := Fl.same g_173 (f_186 229 73 (by omega)) (f_186 (229 + 1) 3 (by omega)) (fun j => f_186 _ _ (by omega))
                          have g_191 : BlOk M_183 4 := BlOk.frame g_174 (fun c j hcj => f_186 c j (by omega))
                          have g_192 : M_183 (229 + 1) 3 = M (229 + 1) 3 := by have q1 := f_186 (229 + 1) 3 (by omega); omega
                          have g_193 : M_183 (229 + 56) 3603 = M (229 + 1) 3 := by have q1 := f_186 (229 + 56) 3603 (by omega); omega
                          have g_194 : M_183 (229 + 1) 7 ≤ 9999 := by have q1 := f_186 (229 + 1) 7 (by omega); omega
                          refine g_iinc (n := 132) (lv' := [(3, vI (i_38 + 1)), (4, vI i_91), (2, vI i_2), (0, aR Γ 229), (1, vI n)]) hx 1 (dq tX10_findsAhead 69 rfl) rfl (by decide) rfl rfl ?_
                          refine g_goto (n := 36) hx (dq tX10_findsAhead 70 rfl) (by decide) ?_
                          have e_195 : M_183 (229 + 1) 1 = M_169 (229 + 1) 1 := (f_186 (229 + 1) 1 (by omega))
                          have e_196 : M_183 (229 + 1) 3 = M_169 (229 + 1) 3 := (f_186 (229 + 1) 3 (by omega))
                          have e_197 : M_183 229 73 = M_169 229 73 := (f_186 229 73 (by omega))
                          have e_198 : M_183 (229 + 1) 7 = M_169 (229 + 1) 7 := (f_186 (229 + 1) 7 (by omega))
                          refine g_lv [0, 2, 3, 4] rfl ?_
                          exact ih_41 _ (by omega) (i_38 + 1) M_183 (by omega) (by omega) (fun u_ v_ huv_ => ((((((f_186 u_ v_ (by omega)).trans (m_170 u_ v_ (by omega))).trans (f_117 u_ v_ (by omega))).trans (f_95 u_ v_ (by omega))).trans (f_76 u_ v_ (by omega))).trans (f_42 u_ v_ (by omega)))) g_188 g_189 g_190 g_191 g_192 g_193 g_194 rfl
                    · refine g_aload_n (n := 62) hx 3 (dq tX10_findsAhead 35 rfl) rfl rfl ?_
                      refine g_getR (n := 65) hx glX10_58 (sX10_17 (by decide)) (dq tX10_findsAhead 36 rfl) rfl ?_
                      refine g_aload_n (n := 66) hx 3 (dq tX10_findsAhead 37 rfl) rfl rfl ?_
                      refine g_getR (n := 69) hx glX10_169 (sX10_70 (by decide)) (dq tX10_findsAhead 38 rfl) rfl ?_
                      refine g_iload (n := 71) hx 0 (dq tX10_findsAhead 39 rfl) rfl rfl ?_
                      refine g_iald (n := 72) (q := i_91.toNat) hx (aX10_70 (b := 229) (by decide)) (dq tX10_findsAhead 40 rfl) rfl (by omega) (by omega) (by omega) rfl (fun h_199l h_199u => ?_)
                      refine g_aload_n (n := 73) hx 3 (dq tX10_findsAhead 41 rfl) rfl rfl ?_
                      refine g_getR (n := 76) hx glX10_172 (sX10_71 (by decide)) (dq tX10_findsAhead 42 rfl) rfl ?_
                      refine g_iload (n := 78) hx 0 (dq tX10_findsAhead 43 rfl) rfl rfl ?_
                      refine g_iald (n := 79) (q := i_91.toNat) hx (aX10_71 (b := 229) (by decide)) (dq tX10_findsAhead 44 rfl) rfl (by omega) (by omega) (by omega) rfl (fun h_200l h_200u => ?_)
                      have h_201 := g_103 i_91.toNat (by omega) (by omega)
                      have e_202 : M_92 (229 + 1) 1 = M_39 (229 + 1) 1 := ((f_95 (229 + 1) 1 (by omega))).trans (f_76 (229 + 1) 1 (by omega))
                      have e_203 : M_92 (229 + 1) 3 = M_39 (229 + 1) 3 := ((f_95 (229 + 1) 3 (by omega))).trans (f_76 (229 + 1) 3 (by omega))
                      have e_204 : M_92 (229 + 1) 7 = M_39 (229 + 1) 7 := ((f_95 (229 + 1) 7 (by omega))).trans (f_76 (229 + 1) 7 (by omega))
                      refine g_iast (n := 80) (q := (M_92 (229 + 52) i_91.toNat).toNat) hx (aX10_17 (b := 229) (by decide)) (dq tX10_findsAhead 45 rfl) rfl (by omega) (by omega) (by omega) rfl (by omega) (by omega) (fun M_205 m_206e m_206 => ?_)
                      have g_207 := Gm.order g_96 m_206e m_206 (by omega)
                      have g_208 : Rl M_205 := Rl.frame g_97 (fun c j hcj => m_206 c j (by omega))
                      have g_209 : Fl M_205 := Fl.same g_98 (m_206 229 73 (by omega)) (m_206 (229 + 1) 3 (by omega)) (fun j => m_206 _ _ (by omega))
                      have g_210 : BlOk M_205 4 := BlOk.frame g_99 (fun c j hcj => m_206 c j (by omega))
                      have g_211 : M_205 (229 + 1) 3 = M (229 + 1) 3 := by have q1 := m_206 (229 + 1) 3 (by omega); omega
                      have g_212 : M_205 (229 + 56) 3603 = M (229 + 1) 3 := by have q1 := m_206 (229 + 56) 3603 (by omega); omega
                      have g_213 : M_205 (229 + 1) 7 ≤ 9999 := by have q1 := m_206 (229 + 1) 7 (by omega); omega
                      have g_214 : Rk M_205 0 := Rk.same g_103 (m_206 229 73 (by omega)) (m_206 (229 + 1) 3 (by omega)) (fun j => m_206 _ _ (by omega))
                      refine g_iinc (n := 83) (lv' := [(4, vI (i_91 + 1)), (3, vI i_38), (2, vI i_2), (0, aR Γ 229), (1, vI n)]) hx 0 (dq tX10_findsAhead 46 rfl) rfl (by decide) rfl rfl ?_
                      refine g_goto (n := 52) hx (dq tX10_findsAhead 47 rfl) (by decide) ?_
                      have e_215 : M_205 (229 + 1) 1 = M_92 (229 + 1) 1 := (m_206 (229 + 1) 1 (by omega))
                      have e_216 : M_205 (229 + 1) 3 = M_92 (229 + 1) 3 := (m_206 (229 + 1) 3 (by omega))
                      have e_217 : M_205 229 73 = M_92 229 73 := (m_206 229 73 (by omega))
                      have e_218 : M_205 (229 + 1) 7 = M_92 (229 + 1) 7 := (m_206 (229 + 1) 7 (by omega))
                      exact ih_94 _ (by omega) (i_91 + 1) M_205 (by omega) (by omega) (fun u_ v_ huv_ => ((m_206 u_ v_ (by omega)).trans (f_95 u_ v_ (by omega)))) g_207 g_208 g_209 g_210 g_211 g_212 g_213 g_214 rfl
                have e_219 : M_73 (229 + 1) 1 = M_39 (229 + 1) 1 := (f_76 (229 + 1) 1 (by omega))
                have e_220 : M_73 (229 + 1) 3 = M_39 (229 + 1) 3 := (f_76 (229 + 1) 3 (by omega))
                have e_221 : M_73 229 73 = M_39 229 73 := (f_76 229 73 (by omega))
                have e_222 : M_73 (229 + 1) 7 = M_39 (229 + 1) 7 := (f_76 (229 + 1) 7 (by omega))
                exact L_93 _ 0 M_73 (by omega) (by omega) (fun _ _ _ => rfl) g_79 g_80 g_81 g_82 g_83 g_84 g_85 h_78 rfl
        have e_223 : M_24 (229 + 1) 1 = M_13 (229 + 1) 1 := (f_27 (229 + 1) 1 (by omega))
        have e_224 : M_24 (229 + 1) 3 = M_13 (229 + 1) 3 := (f_27 (229 + 1) 3 (by omega))
        have e_225 : M_24 229 73 = M_13 229 73 := (f_27 229 73 (by omega))
        have e_226 : M_24 (229 + 1) 7 = M_13 (229 + 1) 7 := (f_27 (229 + 1) 7 (by omega))
        exact L_40 _ 0 M_24 (by omega) (by omega) (fun _ _ _ => rfl) g_28 g_29 g_34 h_31 g_35 g_36 g_37 rfl
      · refine g_iload_n (n := 13) hx 1 (dq tX10_findsAhead 8 rfl) rfl rfl ?_
        refine g_aload_n (n := 14) hx 2 (dq tX10_findsAhead 9 rfl) rfl rfl ?_
        refine g_getI (n := 17) hx glX10_589 (sX10_73 (by decide)) (dq tX10_findsAhead 10 rfl) rfl (fun h_227l h_227u => ?_)
        refine g_imul (n := 18) hx (dq tX10_findsAhead 11 rfl) rfl ?_
        refine g_any (fun z_228 h_229 => ?_)
        refine g_istore_n (n := 19) (lv' := [(2, vI z_228), (3, vI i_1), (0, aR Γ 229), (1, vI n)]) hx (dq tX10_findsAhead 12 rfl) (by decide) rfl rfl ?_
        refine g_iinc (n := 22) (lv' := [(3, vI (i_1 + 1)), (2, vI z_228), (0, aR Γ 229), (1, vI n)]) hx 1 (dq tX10_findsAhead 13 rfl) rfl (by decide) rfl rfl ?_
        refine g_goto (n := 4) hx (dq tX10_findsAhead 14 rfl) (by decide) ?_
        exact ih_4 _ (by omega) (i_1 + 1) z_228 (by omega) (by omega) (by omega) (by omega) rfl
  exact L_3 _ 0 1 (by omega) (by omega) (by omega) (by omega) rfl

abbrev qctX10_letAhead (M : zM) (n : Int) (what : Int) (z : Int) (M' : zM) : Prop := (∀ u_ v_, (u_ ≠ 229 ∨ v_ < 61 ∨ 80 ≤ v_) ∧ (u_ < 229 + 1 ∨ 229 + 29 ≤ u_) ∧ (u_ < 229 + 46 ∨ 229 + 57 ≤ u_) → M' u_ v_ = M u_ v_) ∧ Gm M' ∧ Rl M' ∧ On M' ∧ (Sm M M') ∧ (∀ j : Nat, j < 3600 → M' (229 + 56) j = M (229 + 56) j)
set_option maxHeartbeats 4000000 in
set_option maxRecDepth 100000 in
theorem ctX10_letAhead (Γ : Gam) (M : zM) (n : Int) (hnl : (-2147483648) ≤ n) (hnu : n ≤ 2147483647) (what : Int) (hwhatl : (-2147483648) ≤ what) (hwhatu : what ≤ 2147483647) (pre0 : M (229 + 1) 7 ≤ 9999) (gm : Gm M) (rl : Rl M) (on : On M) : CtI Γ yX10_letAhead cX10_letAhead 3 (some .int) 14 323 [aR Γ 229, vI n, vI what] M (qctX10_letAhead M n what) := by
  refine met_i (by decide) (Nat.le_of_ble_eq_true rfl) (fun x hx hr => ?_)
  show G Γ x 3 (QI Γ x (qctX10_letAhead M n what)) M 0 [(0, aR Γ 229), (1, vI n), (2, vI what)] []
  refine g_aload_n (n := 1) hx 0 (dq tX10_letAhead 0 rfl) rfl rfl ?_
  refine g_callVi (n := 4) (As := []) (rest := []) hx (ctX10_isRiver Γ M ) mlX10_413 (obX10 (by decide)) (dq tX10_letAhead 1 rfl) rfl (Nat.le_of_ble_eq_true rfl) (Nat.le_of_ble_eq_true rfl) (Nat.le_of_ble_eq_true rfl) rfl (fun z_1 M_2 h_3 p_4 => ?_)
  obtain ⟨rfl, b_6⟩ := p_4
  refine g_if_eq (n := 7) (t := 31) hx (dq tX10_letAhead 2 rfl) (by decide) rfl h_3 (fun c_8 => ?_) (fun c_8 => ?_)
  · clear b_6
    refine g_iconst (n := 32) hx (dq tX10_letAhead 15 rfl) rfl ?_
    exact g_iret hx hr (dq tX10_letAhead 16 rfl) ⟨by decide, by decide⟩ ⟨(fun _ _ _ => rfl), gm, rl, on, (fun c j h1 h2 h3 => rfl), (fun j hj => rfl)⟩
  · have b_6 := b_6.resolve_left c_8
    obtain ⟨-, h_7⟩ := b_6
    refine g_iload_n (n := 8) hx 1 (dq tX10_letAhead 3 rfl) rfl rfl ?_
    refine g_i2l (n := 9) hx (dq tX10_letAhead 4 rfl) rfl (zrI hnl hnu (by decide) (by decide)) ?_
    refine g_lconst (n := 10) (z := 0) hx (dq tX10_letAhead 5 rfl) rfl (by decide) ?_
    refine g_ldc2 (n := 13) (z := 20) hx wd_1648 (by decide) (dq tX10_letAhead 6 rfl) rfl ?_
    refine g_callSi (n := 16) (As := [vL n, vL 0, vL 20]) (rest := []) hx (ctX10_in Γ M n (by omega) (by omega) 0 (by omega) (by omega) 20 (by omega) (by omega)) mlX10_191 (dq tX10_letAhead 7 rfl) rfl (Nat.le_of_ble_eq_true rfl) (Nat.le_of_ble_eq_true rfl) (Nat.le_of_ble_eq_true rfl) rfl (fun z_9 M_10 h_11 p_12 => ?_)
    obtain ⟨rfl, b_14, h_15⟩ := p_12
    refine g_if_eq (n := 19) (t := 31) hx (dq tX10_letAhead 8 rfl) (by decide) rfl h_11 (fun c_18 => ?_) (fun c_18 => ?_)
    · clear b_14
      refine g_iconst (n := 32) hx (dq tX10_letAhead 15 rfl) rfl ?_
      exact g_iret hx hr (dq tX10_letAhead 16 rfl) ⟨by decide, by decide⟩ ⟨(fun _ _ _ => rfl), gm, rl, on, (fun c j h1 h2 h3 => rfl), (fun j hj => rfl)⟩
    · have b_14 := b_14.resolve_left c_18
      obtain ⟨-, h_16, h_17⟩ := b_14
      refine g_iload_n (n := 20) hx 2 (dq tX10_letAhead 9 rfl) rfl rfl ?_
      refine g_i2l (n := 21) hx (dq tX10_letAhead 10 rfl) rfl (zrI hwhatl hwhatu (by decide) (by decide)) ?_
      refine g_lconst (n := 22) (z := 0) hx (dq tX10_letAhead 11 rfl) rfl (by decide) ?_
      refine g_ldc2 (n := 25) (z := 6) hx wd_1867 (by decide) (dq tX10_letAhead 12 rfl) rfl ?_
      refine g_callSi (n := 28) (As := [vL what, vL 0, vL 6]) (rest := []) hx (ctX10_in Γ M what (by omega) (by omega) 0 (by omega) (by omega) 6 (by omega) (by omega)) mlX10_191 (dq tX10_letAhead 13 rfl) rfl (Nat.le_of_ble_eq_true rfl) (Nat.le_of_ble_eq_true rfl) (Nat.le_of_ble_eq_true rfl) rfl (fun z_19 M_20 h_21 p_22 => ?_)
      obtain ⟨rfl, b_24, h_25⟩ := p_22
      refine g_if_ne (n := 31) (t := 33) hx (dq tX10_letAhead 14 rfl) (by decide) rfl h_21 (fun c_28 => ?_) (fun c_28 => ?_)
      · have b_24 := b_24.resolve_left c_28
        obtain ⟨-, h_26, h_27⟩ := b_24
        refine g_aload_n (n := 34) hx 0 (dq tX10_letAhead 17 rfl) rfl rfl ?_
        refine g_callVv (n := 37) (As := []) (rest := []) hx (ctX10_fillsFloating Γ M gm) mlX10_600 (obX10 (by decide)) (dq tX10_letAhead 18 rfl) rfl (Nat.le_of_ble_eq_true rfl) (Nat.le_of_ble_eq_true rfl) (Nat.le_of_ble_eq_true rfl) rfl (fun M_30 p_32 => ?_)
        obtain ⟨f_33, g_34, h_35⟩ := p_32
        have g_36 : Rl M_30 := Rl.frame rl (fun c j hcj => f_33 c j (by omega))
        have g_37 : On M_30 := On.frame on (fun c j hcj => f_33 c j (by omega))
        refine g_aload_n (n := 38) hx 0 (dq tX10_letAhead 19 rfl) rfl rfl ?_
        refine g_getI (n := 41) hx glX10_589 (sX10_73 (by decide)) (dq tX10_letAhead 20 rfl) rfl (fun h_38l h_38u => ?_)
        refine g_bipush (n := 43) hx (dq tX10_letAhead 21 rfl) rfl (by decide) ?_
        refine g_icmp_le (n := 46) (t := 48) hx (dq tX10_letAhead 22 rfl) (by decide) rfl (zrI h_38l h_38u (by decide) (by decide)) ⟨by decide, by decide⟩ (fun c_39 => ?_) (fun c_39 => ?_)
        · refine g_iload_n (n := 49) hx 2 (dq tX10_letAhead 25 rfl) rfl rfl ?_
          refine g_aload_n (n := 50) hx 0 (dq tX10_letAhead 26 rfl) rfl rfl ?_
          refine g_getI (n := 53) hx glX10_589 (sX10_73 (by decide)) (dq tX10_letAhead 27 rfl) rfl (fun h_40l h_40u => ?_)
          refine g_icmp_le (n := 56) (t := 59) hx (dq tX10_letAhead 28 rfl) (by decide) rfl (zrI hwhatl hwhatu (by decide) (by decide)) (zrI h_40l h_40u (by decide) (by decide)) (fun c_41 => ?_) (fun c_41 => ?_)
          · refine g_aload_n (n := 60) hx 0 (dq tX10_letAhead 31 rfl) rfl rfl ?_
            refine g_iload_n (n := 61) hx 1 (dq tX10_letAhead 32 rfl) rfl rfl ?_
            have e_42 : M_30 (229 + 1) 1 = M (229 + 1) 1 := (f_33 (229 + 1) 1 (by omega))
            have e_43 : M_30 (229 + 1) 3 = M (229 + 1) 3 := (f_33 (229 + 1) 3 (by omega))
            have e_44 : M_30 (229 + 1) 7 = M (229 + 1) 7 := (f_33 (229 + 1) 7 (by omega))
            refine g_callVv (n := 64) (As := [vI n]) (rest := []) hx (ctX10_findsAhead Γ M_30 n (by omega) (by omega) (by omega) (by omega) g_34 g_36 g_37 h_35) mlX10_603 (obX10 (by decide)) (dq tX10_letAhead 33 rfl) rfl (Nat.le_of_ble_eq_true rfl) (Nat.le_of_ble_eq_true rfl) (Nat.le_of_ble_eq_true rfl) rfl (fun M_46 p_48 => ?_)
            obtain ⟨f_49, g_50, g_51, g_52, g_53, h_54, h_55⟩ := p_48
            refine g_iload_n (n := 65) hx 2 (dq tX10_letAhead 34 rfl) rfl rfl ?_
            refine g_if_ne (n := 68) (t := 75) hx (dq tX10_letAhead 35 rfl) (by decide) rfl (zrI hwhatl hwhatu (by decide) (by decide)) (fun c_57 => ?_) (fun c_57 => ?_)
            · refine g_aload_n (n := 76) hx 0 (dq tX10_letAhead 39 rfl) rfl rfl ?_
              refine g_getR (n := 79) hx glX10_175 (sX10_72 (by decide)) (dq tX10_letAhead 40 rfl) rfl ?_
              refine g_iload_n (n := 80) hx 2 (dq tX10_letAhead 41 rfl) rfl rfl ?_
              refine g_iconst (n := 81) hx (dq tX10_letAhead 42 rfl) rfl ?_
              refine g_isub (n := 82) hx (dq tX10_letAhead 43 rfl) rfl ?_
              refine g_iald (n := 83) (q := (what - 1).toNat) hx (aX10_72 (b := 229) (by decide)) (dq tX10_letAhead 44 rfl) rfl (by omega) (by omega) (by omega) rfl (fun h_58l h_58u => ?_)
              exact g_iret hx hr (dq tX10_letAhead 45 rfl) (zrI h_58l h_58u (by decide) (by decide)) ⟨(fun u_ v_ huv_ => ((f_49 u_ v_ (by omega)).trans (f_33 u_ v_ (by omega)))), g_50, g_51, g_52, (fun c j h1 h2 h3 => (h_54 c j h1 h2 h3).trans ((f_33 c j (by omega)))), (fun j hj => (h_55 j hj).trans ((f_33 (229 + 56) j (by omega))))⟩
            · refine g_aload_n (n := 69) hx 0 (dq tX10_letAhead 36 rfl) rfl rfl ?_
              refine g_getI (n := 72) hx glX10_592 (sX10_74 (by decide)) (dq tX10_letAhead 37 rfl) rfl (fun h_59l h_59u => ?_)
              refine g_goto (n := 83) hx (dq tX10_letAhead 38 rfl) (by decide) ?_
              exact g_iret hx hr (dq tX10_letAhead 45 rfl) (zrI h_59l h_59u (by decide) (by decide)) ⟨(fun u_ v_ huv_ => ((f_49 u_ v_ (by omega)).trans (f_33 u_ v_ (by omega)))), g_50, g_51, g_52, (fun c j h1 h2 h3 => (h_54 c j h1 h2 h3).trans ((f_33 c j (by omega)))), (fun j hj => (h_55 j hj).trans ((f_33 (229 + 56) j (by omega))))⟩
          · refine g_bipush (n := 58) hx (dq tX10_letAhead 29 rfl) rfl (by decide) ?_
            have e_60 : M_30 (229 + 1) 1 = M (229 + 1) 1 := (f_33 (229 + 1) 1 (by omega))
            have e_61 : M_30 (229 + 1) 3 = M (229 + 1) 3 := (f_33 (229 + 1) 3 (by omega))
            have e_62 : M_30 (229 + 1) 7 = M (229 + 1) 7 := (f_33 (229 + 1) 7 (by omega))
            exact g_iret hx hr (dq tX10_letAhead 30 rfl) ⟨by decide, by decide⟩ ⟨(fun u_ v_ huv_ => (f_33 u_ v_ (by omega))), g_34, g_36, g_37, (fun c j h1 h2 h3 => (f_33 c j (by omega))), (fun j hj => (f_33 (229 + 56) j (by omega)))⟩
        · refine g_iconst (n := 47) hx (dq tX10_letAhead 23 rfl) rfl ?_
          have e_63 : M_30 (229 + 1) 1 = M (229 + 1) 1 := (f_33 (229 + 1) 1 (by omega))
          have e_64 : M_30 (229 + 1) 3 = M (229 + 1) 3 := (f_33 (229 + 1) 3 (by omega))
          have e_65 : M_30 (229 + 1) 7 = M (229 + 1) 7 := (f_33 (229 + 1) 7 (by omega))
          exact g_iret hx hr (dq tX10_letAhead 24 rfl) ⟨by decide, by decide⟩ ⟨(fun u_ v_ huv_ => (f_33 u_ v_ (by omega))), g_34, g_36, g_37, (fun c j h1 h2 h3 => (f_33 c j (by omega))), (fun j hj => (f_33 (229 + 56) j (by omega)))⟩
      · clear b_24
        refine g_iconst (n := 32) hx (dq tX10_letAhead 15 rfl) rfl ?_
        exact g_iret hx hr (dq tX10_letAhead 16 rfl) ⟨by decide, by decide⟩ ⟨(fun _ _ _ => rfl), gm, rl, on, (fun c j h1 h2 h3 => rfl), (fun j hj => rfl)⟩
