abbrev qtestS (M : zM) (g : Nat) (depth : Int) (t9 : Nat → Int) (n9 : Nat) (a9 : Nat) (k9 : Nat) (z : Int) (M' : zM) : Prop := (∀ u_ v_, (u_ ≠ 7 ∨ v_ ≠ 2) ∧ (u_ ≠ 7 ∨ v_ ≠ 3) ∧ (u_ ≠ 7 ∨ v_ ≠ 4) ∧ (u_ ≠ 7 ∨ v_ ≠ 5) ∧ (u_ ≠ 18 ∨ v_ ≠ 1) ∧ (u_ ≠ g ∨ v_ ≠ 1) ∧ (u_ ≠ g ∨ v_ ≠ 2) ∧ (u_ ≠ g ∨ v_ ≠ 3) ∧ u_ ≠ g + 1 → M' u_ v_ = M u_ v_) ∧ 0 ≤ z ∧ z ≤ 1 ∧ (Rz M' t9 n9 z (Tl t9 n9 (Ff t9 n9 k9) 60 a9 (M 18 1)))
set_option maxHeartbeats 4000000 in
set_option maxRecDepth 100000 in
theorem testS (Γ : Gam) (M : zM) (g : Nat) (hg : isX4 g) (depth : Int) (hdepthl : 0 ≤ depth) (hdepthu : depth ≤ 10) (t9 : Nat → Int) (n9 : Nat) (a9 : Nat) (k9 : Nat) (pre0 : depth + k9 = 10) (ex0 : Tc M t9 n9 a9) (fr9 lo9 : Nat) (hfr9 : 12 ≤ fr9) (hlo9 : 300 ≤ lo9) (hF9 : FactC k9 fr9 lo9) : CtI Γ yX5_readsTest cX5_readsTest 6 (some .boolean) (fr9 + 1) (lo9 + 40) [aR Γ 18, aR Γ g, vI depth] M (qtestS M g depth t9 n9 a9 k9) := by
  refine met_i (by decide) (Nat.le_of_ble_eq_true rfl) (fun x hx hr => ?_)
  show G Γ x 6 (QI Γ x (qtestS M g depth t9 n9 a9 k9)) M 0 [(0, aR Γ 18), (1, aR Γ g), (2, vI depth)] []
  have ht_at := Tc.at ex0
  have ht_fst := Tc.fst ex0
  have ht_le := Tc.le ex0
  have ht_stop := Tc.stop ex0
  have ht_sle := Tc.sle ex0
  have ht_n := (Tc.tx ex0).1
  have ht_r := stp_le t9 n9 a9 ht_le
  have hw31 : wiR t9 a9 ((stp t9 n9 a9 : Int) - a9) 31 = wix t9 n9 a9 wVal 0 := wR31 ht_le
  refine g_iv (fun hI0 => ?_)
  have hI_c : (0 : Int) ≤ M 18 1 ∧ M 18 1 ≤ 60 := hI0 18 1
  clear hI0
  refine g_iconst (n := 1) hx (dq tX5_readsTest 0 rfl) rfl ?_
  refine g_istore_n (n := 2) (lv' := [(3, vI 0), (0, aR Γ 18), (1, aR Γ g), (2, vI depth)]) hx (dq tX5_readsTest 1 rfl) (by decide) rfl rfl ?_
  refine g_iconst (n := 3) hx (dq tX5_readsTest 2 rfl) rfl ?_
  refine g_istore (n := 5) (lv' := [(4, vI 0), (3, vI 0), (0, aR Γ 18), (1, aR Γ g), (2, vI depth)]) hx (dq tX5_readsTest 3 rfl) (by decide) rfl rfl ?_
  refine g_iconst (n := 6) hx (dq tX5_readsTest 4 rfl) rfl ?_
  refine g_istore (n := 8) (lv' := [(5, vI 0), (4, vI 0), (3, vI 0), (0, aR Γ 18), (1, aR Γ g), (2, vI depth)]) hx (dq tX5_readsTest 5 rfl) (by decide) rfl rfl ?_
  have L_5 : ∀ (n_ : Nat) (i_1 : Int) (i_2 : Int) (i_3 : Int) (M_4 : zM), (0 ≤ i_1) → (i_1 ≤ 60) → (0 ≤ i_2) → (i_2 ≤ 1) → (0 ≤ i_3) → (i_3 ≤ 1) → (∀ u_ v_, (u_ ≠ 7 ∨ v_ ≠ 2) ∧ (u_ ≠ 7 ∨ v_ ≠ 3) ∧ (u_ ≠ 7 ∨ v_ ≠ 4) ∧ (u_ ≠ 7 ∨ v_ ≠ 5) ∧ (u_ ≠ 18 ∨ v_ ≠ 1) ∧ (u_ ≠ g ∨ v_ ≠ 1) ∧ (u_ ≠ g ∨ v_ ≠ 2) ∧ (u_ ≠ g ∨ v_ ≠ 3) ∧ u_ ≠ g + 1 → M_4 u_ v_ = M u_ v_) → (Tc M_4 t9 n9 (M_4 7 2).toNat) → (Tl t9 n9 (Ff t9 n9 k9) (60 - i_1).toNat (M_4 7 2).toNat (M_4 18 1) = Tl t9 n9 (Ff t9 n9 k9) 60 a9 (M 18 1)) → ((60 - i_1).toNat = n_) → G Γ x 6 (QI Γ x (qtestS M g depth t9 n9 a9 k9)) M_4 8 [(5, vI i_1), (4, vI i_2), (3, vI i_3), (0, aR Γ 18), (1, aR Γ g), (2, vI depth)] [] := by
    intro n_
    induction n_ using Nat.strongRecOn with
    | _ n_ ih_6 =>
      intro i_1 i_2 i_3 M_4 h_11 h_12 h_13 h_14 h_15 h_16 f_7 h_9 h_10 hm_8
      have h_17 := Tc.fst h_9
      have h_18 := Tc.le h_9
      have h_19 := Tc.at h_9
      refine g_iload (n := 10) hx 0 (dq tX5_readsTest 6 rfl) rfl rfl ?_
      refine g_bipush (n := 12) hx (dq tX5_readsTest 7 rfl) rfl (by decide) ?_
      refine g_icmp_ge (n := 15) (t := 88) hx (dq tX5_readsTest 8 rfl) (by decide) rfl ⟨by omega, by omega⟩ ⟨by decide, by decide⟩ (fun c_20 => ?_) (fun c_20 => ?_)
      · refine g_aload_n (n := 89) hx 3 (dq tX5_readsTest 45 rfl) rfl rfl ?_
        refine g_getR (n := 92) hx glX5_9 (sX5_0 (by decide)) (dq tX5_readsTest 46 rfl) rfl ?_
        refine g_iconst (n := 93) hx (dq tX5_readsTest 47 rfl) rfl ?_
        have e_21 : M_4 7 1 = M 7 1 := (f_7 7 1 (by omega))
        refine g_callVi (n := 96) (As := [vI 0]) (rest := []) hx (ctX7_fails2 Γ M_4 0 (by decide) (by decide)) mlX5_35 (obX7 (by decide)) (dq tX5_readsTest 48 rfl) rfl (by omega) (by omega) (Nat.le_of_ble_eq_true rfl) rfl (fun z_22 M_23 h_24 p_25 => ?_)
        obtain ⟨f_26, h_27, h_28, h_29⟩ := p_25
        have g_30 : Tc M_23 t9 n9 ((M_4 7 2).toNat) := Tc.frame h_9 (fun c j hcj => f_26 c j (by omega))
        have e_31 : M_23 7 1 = M_4 7 1 := (f_26 7 1 (by omega))
        have e_32 : M_23 7 2 = M_4 7 2 := (f_26 7 2 (by omega))
        have e_33 : M_23 7 3 = M_4 7 3 := (f_26 7 3 (by omega))
        have e_34 : M_23 7 4 = M_4 7 4 := (f_26 7 4 (by omega))
        have e_35 : M_23 18 1 = M_4 18 1 := (f_26 18 1 (by omega))
        exact g_zret hx hr (dq tX5_readsTest 49 rfl) (by omega) ⟨(fun u_ v_ huv_ => ((f_26 u_ v_ (by omega)).trans (f_7 u_ v_ (by omega)))), (by omega), (by omega), (Or.inl ⟨by omega, (Tl_out h_10 (by omega)).trans (er_eq (by omega))⟩)⟩
      · refine g_aload_n (n := 16) hx 3 (dq tX5_readsTest 9 rfl) rfl rfl ?_
        refine g_aload_n (n := 17) hx 4 (dq tX5_readsTest 10 rfl) rfl rfl ?_
        refine g_iload_n (n := 18) hx 5 (dq tX5_readsTest 11 rfl) rfl rfl ?_
        have e_36 : M_4 7 1 = M 7 1 := (f_7 7 1 (by omega))
        refine g_callVi (n := 21) (As := [aR Γ g, vI depth]) (rest := []) hx (hF9 Γ M_4 g hg depth (by omega) (by omega) t9 n9 ((M_4 7 2).toNat) (by omega) h_9) mlX5_70 (obX5 (by decide)) (dq tX5_readsTest 12 rfl) rfl (by omega) (by omega) (Nat.le_of_ble_eq_true rfl) rfl (fun z_37 M_38 h_39 p_40 => ?_)
        obtain ⟨f_41, h_42, h_43, h_44⟩ := p_40
        refine g_if_ne (n := 24) (t := 26) hx (dq tX5_readsTest 13 rfl) (by decide) rfl h_39 (fun c_45 => ?_) (fun c_45 => ?_)
        · obtain ⟨y_46a, y_46c, y_46e, y_46t, y_46k⟩ := Rz.yes h_44 (by omega)
          refine g_iload_n (n := 27) hx 2 (dq tX5_readsTest 16 rfl) rfl rfl ?_
          refine g_if_eq (n := 30) (t := 36) hx (dq tX5_readsTest 17 rfl) (by decide) rfl ⟨by omega, by omega⟩ (fun c_47 => ?_) (fun c_47 => ?_)
          · refine g_aload_n (n := 37) hx 3 (dq tX5_readsTest 21 rfl) rfl rfl ?_
            refine g_getR (n := 40) hx glX5_9 (sX5_0 (by decide)) (dq tX5_readsTest 22 rfl) rfl ?_
            refine g_ldcS (n := 42) (q := 28) hx rfl rfl rfl (dq tX5_readsTest 23 rfl) rfl ?_
            have e_48 : M_38 7 1 = M_4 7 1 := (f_41 7 1 (by omega))
            refine g_callVi (n := 45) (As := [sR Γ 28]) (rest := []) hx (ctX7_takesWord2 Γ M_38 28 _ rfl (by decide) t9 n9 y_46a y_46t) mlX5_52 (obX7 (by decide)) (dq tX5_readsTest 24 rfl) rfl (by omega) (by omega) (Nat.le_of_ble_eq_true rfl) rfl (fun z_49 M_50 h_51 p_52 => ?_)
            obtain ⟨f_53, h_54, h_55, h_56, h_57⟩ := p_52
            refine g_istore_n (n := 46) (lv' := [(3, vI z_49), (5, vI i_1), (4, vI i_2), (0, aR Γ 18), (1, aR Γ g), (2, vI depth)]) hx (dq tX5_readsTest 25 rfl) (by decide) rfl rfl ?_
            refine g_iload_n (n := 47) hx 0 (dq tX5_readsTest 26 rfl) rfl rfl ?_
            refine g_if_eq (n := 50) (t := 53) hx (dq tX5_readsTest 27 rfl) (by decide) rfl h_51 (fun c_58 => ?_) (fun c_58 => ?_)
            · have g_59 : Tc M_50 t9 n9 y_46a := by have q := h_57; rw [if_pos (by omega)] at q; exact q
              refine g_iload (n := 55) hx 2 (dq tX5_readsTest 29 rfl) rfl rfl ?_
              refine g_if_eq (n := 58) (t := 64) hx (dq tX5_readsTest 30 rfl) (by decide) rfl ⟨by omega, by omega⟩ (fun c_60 => ?_) (fun c_60 => ?_)
              · refine g_aload_n (n := 65) hx 3 (dq tX5_readsTest 34 rfl) rfl rfl ?_
                refine g_getR (n := 68) hx glX5_9 (sX5_0 (by decide)) (dq tX5_readsTest 35 rfl) rfl ?_
                refine g_ldcS (n := 70) (q := 29) hx rfl rfl rfl (dq tX5_readsTest 36 rfl) rfl ?_
                have e_61 : M_50 7 1 = M_38 7 1 := (f_53 7 1 (by omega))
                have e_62 : M_50 18 1 = M_38 18 1 := (f_53 18 1 (by omega))
                refine g_callVi (n := 73) (As := [sR Γ 29]) (rest := []) hx (ctX7_takesWord2 Γ M_50 29 _ rfl (by decide) t9 n9 y_46a g_59) mlX5_52 (obX7 (by decide)) (dq tX5_readsTest 37 rfl) rfl (by omega) (by omega) (Nat.le_of_ble_eq_true rfl) rfl (fun z_63 M_64 h_65 p_66 => ?_)
                obtain ⟨f_67, h_68, h_69, h_70, h_71⟩ := p_66
                refine g_istore (n := 75) (lv' := [(4, vI z_63), (3, vI z_49), (5, vI i_1), (0, aR Γ 18), (1, aR Γ g), (2, vI depth)]) hx (dq tX5_readsTest 38 rfl) (by decide) rfl rfl ?_
                refine g_iload (n := 77) hx 0 (dq tX5_readsTest 39 rfl) rfl rfl ?_
                refine g_if_ne (n := 80) (t := 82) hx (dq tX5_readsTest 40 rfl) (by decide) rfl h_65 (fun c_72 => ?_) (fun c_72 => ?_)
                · have g_73 : Tc M_64 t9 n9 (nx t9 n9 y_46a) := by have q := h_71; rw [if_neg (by omega)] at q; exact q
                  refine g_iinc (n := 85) (lv' := [(5, vI (i_1 + 1)), (4, vI z_63), (3, vI z_49), (0, aR Γ 18), (1, aR Γ g), (2, vI depth)]) hx 2 (dq tX5_readsTest 43 rfl) rfl (by decide) rfl rfl ?_
                  refine g_goto (n := 8) hx (dq tX5_readsTest 44 rfl) (by decide) ?_
                  have e_74 : M_64 7 1 = M_50 7 1 := (f_67 7 1 (by omega))
                  have e_75 : M_64 18 1 = M_50 18 1 := (f_67 18 1 (by omega))
                  exact ih_6 _ (by omega) (i_1 + 1) z_63 z_49 M_64 (by omega) (by omega) (by omega) (by omega) (by omega) (by omega) (fun u_ v_ huv_ => ((((f_67 u_ v_ (by omega)).trans (f_53 u_ v_ (by omega))).trans (f_41 u_ v_ (by omega))).trans (f_7 u_ v_ (by omega)))) (by have w1 := Tc.at g_73; rw [show (M_64 7 2).toNat = nx t9 n9 y_46a by omega]; exact g_73) (by have w1 := Tc.at g_73; exact Tl_on h_10 (by omega) y_46e (jn_or (wR29i (Tc.le y_46t) (by omega))) (by omega) (by omega)) rfl
                · have g_76 : Tc M_64 t9 n9 y_46a := by have q := h_71; rw [if_pos (by omega)] at q; exact q
                  refine g_iconst (n := 81) hx (dq tX5_readsTest 41 rfl) rfl ?_
                  have e_77 : M_64 7 1 = M_50 7 1 := (f_67 7 1 (by omega))
                  have e_78 : M_64 18 1 = M_50 18 1 := (f_67 18 1 (by omega))
                  exact g_zret hx hr (dq tX5_readsTest 42 rfl) (by omega) ⟨(fun u_ v_ huv_ => ((((f_67 u_ v_ (by omega)).trans (f_53 u_ v_ (by omega))).trans (f_41 u_ v_ (by omega))).trans (f_7 u_ v_ (by omega)))), (by omega), (by omega), (Or.inr ⟨rfl, y_46a, y_46c, Tl_end (f := (59 - i_1).toNat) h_10 (by omega) y_46e (jn_no (wR28n (Tc.le y_46t) (by omega)) (wR29n (Tc.le y_46t) (by omega))), g_76, by omega⟩)⟩
              · refine g_aload_n (n := 59) hx 4 (dq tX5_readsTest 31 rfl) rfl rfl ?_
                refine g_bipush (n := 61) hx (dq tX5_readsTest 32 rfl) rfl (by decide) ?_
                have e_79 : M_50 7 1 = M_38 7 1 := (f_53 7 1 (by omega))
                have e_80 : M_50 18 1 = M_38 18 1 := (f_53 18 1 (by omega))
                refine g_callVv (n := 64) (As := [vI 27]) (rest := []) hx (ctX4_write Γ M_50 g hg 27 (by decide) (by decide)) mlX5_60 (obX4 hg) (dq tX5_readsTest 33 rfl) rfl (by omega) (by omega) (Nat.le_of_ble_eq_true rfl) rfl (fun M_82 p_84 => ?_)
                have f_85 := p_84
                have g_86 : Tc M_82 t9 n9 y_46a := Tc.frame g_59 (fun c j hcj => f_85 c j (by omega))
                refine g_aload_n (n := 65) hx 3 (dq tX5_readsTest 34 rfl) rfl rfl ?_
                refine g_getR (n := 68) hx glX5_9 (sX5_0 (by decide)) (dq tX5_readsTest 35 rfl) rfl ?_
                refine g_ldcS (n := 70) (q := 29) hx rfl rfl rfl (dq tX5_readsTest 36 rfl) rfl ?_
                have e_87 : M_82 7 1 = M_50 7 1 := (f_85 7 1 (by omega))
                have e_88 : M_82 7 2 = M_50 7 2 := (f_85 7 2 (by omega))
                have e_89 : M_82 7 3 = M_50 7 3 := (f_85 7 3 (by omega))
                have e_90 : M_82 7 4 = M_50 7 4 := (f_85 7 4 (by omega))
                have e_91 : M_82 18 1 = M_50 18 1 := (f_85 18 1 (by omega))
                refine g_callVi (n := 73) (As := [sR Γ 29]) (rest := []) hx (ctX7_takesWord2 Γ M_82 29 _ rfl (by decide) t9 n9 y_46a g_86) mlX5_52 (obX7 (by decide)) (dq tX5_readsTest 37 rfl) rfl (by omega) (by omega) (Nat.le_of_ble_eq_true rfl) rfl (fun z_92 M_93 h_94 p_95 => ?_)
                obtain ⟨f_96, h_97, h_98, h_99, h_100⟩ := p_95
                refine g_istore (n := 75) (lv' := [(4, vI z_92), (3, vI z_49), (5, vI i_1), (0, aR Γ 18), (1, aR Γ g), (2, vI depth)]) hx (dq tX5_readsTest 38 rfl) (by decide) rfl rfl ?_
                refine g_iload (n := 77) hx 0 (dq tX5_readsTest 39 rfl) rfl rfl ?_
                refine g_if_ne (n := 80) (t := 82) hx (dq tX5_readsTest 40 rfl) (by decide) rfl h_94 (fun c_101 => ?_) (fun c_101 => ?_)
                · have g_102 : Tc M_93 t9 n9 (nx t9 n9 y_46a) := by have q := h_100; rw [if_neg (by omega)] at q; exact q
                  refine g_iinc (n := 85) (lv' := [(5, vI (i_1 + 1)), (4, vI z_92), (3, vI z_49), (0, aR Γ 18), (1, aR Γ g), (2, vI depth)]) hx 2 (dq tX5_readsTest 43 rfl) rfl (by decide) rfl rfl ?_
                  refine g_goto (n := 8) hx (dq tX5_readsTest 44 rfl) (by decide) ?_
                  have e_103 : M_93 7 1 = M_82 7 1 := (f_96 7 1 (by omega))
                  have e_104 : M_93 18 1 = M_82 18 1 := (f_96 18 1 (by omega))
                  exact ih_6 _ (by omega) (i_1 + 1) z_92 z_49 M_93 (by omega) (by omega) (by omega) (by omega) (by omega) (by omega) (fun u_ v_ huv_ => (((((f_96 u_ v_ (by omega)).trans (f_85 u_ v_ (by omega))).trans (f_53 u_ v_ (by omega))).trans (f_41 u_ v_ (by omega))).trans (f_7 u_ v_ (by omega)))) (by have w1 := Tc.at g_102; rw [show (M_93 7 2).toNat = nx t9 n9 y_46a by omega]; exact g_102) (by have w1 := Tc.at g_102; exact Tl_on h_10 (by omega) y_46e (jn_or (wR29i (Tc.le y_46t) (by omega))) (by omega) (by omega)) rfl
                · have g_105 : Tc M_93 t9 n9 y_46a := by have q := h_100; rw [if_pos (by omega)] at q; exact q
                  refine g_iconst (n := 81) hx (dq tX5_readsTest 41 rfl) rfl ?_
                  have e_106 : M_93 7 1 = M_82 7 1 := (f_96 7 1 (by omega))
                  have e_107 : M_93 18 1 = M_82 18 1 := (f_96 18 1 (by omega))
                  exact g_zret hx hr (dq tX5_readsTest 42 rfl) (by omega) ⟨(fun u_ v_ huv_ => (((((f_96 u_ v_ (by omega)).trans (f_85 u_ v_ (by omega))).trans (f_53 u_ v_ (by omega))).trans (f_41 u_ v_ (by omega))).trans (f_7 u_ v_ (by omega)))), (by omega), (by omega), (Or.inr ⟨rfl, y_46a, y_46c, Tl_end (f := (59 - i_1).toNat) h_10 (by omega) y_46e (jn_no (wR28n (Tc.le y_46t) (by omega)) (wR29n (Tc.le y_46t) (by omega))), g_105, by omega⟩)⟩
            · have g_108 : Tc M_50 t9 n9 (nx t9 n9 y_46a) := by have q := h_57; rw [if_neg (by omega)] at q; exact q
              refine g_goto (n := 82) hx (dq tX5_readsTest 28 rfl) (by decide) ?_
              refine g_iinc (n := 85) (lv' := [(5, vI (i_1 + 1)), (3, vI z_49), (4, vI i_2), (0, aR Γ 18), (1, aR Γ g), (2, vI depth)]) hx 1 (dq tX5_readsTest 43 rfl) rfl (by decide) rfl rfl ?_
              refine g_goto (n := 8) hx (dq tX5_readsTest 44 rfl) (by decide) ?_
              have e_109 : M_50 7 1 = M_38 7 1 := (f_53 7 1 (by omega))
              have e_110 : M_50 18 1 = M_38 18 1 := (f_53 18 1 (by omega))
              refine g_lv [0, 2, 1, 3, 4, 5] rfl ?_
              exact ih_6 _ (by omega) (i_1 + 1) i_2 z_49 M_50 (by omega) (by omega) (by omega) (by omega) (by omega) (by omega) (fun u_ v_ huv_ => (((f_53 u_ v_ (by omega)).trans (f_41 u_ v_ (by omega))).trans (f_7 u_ v_ (by omega)))) (by have w1 := Tc.at g_108; rw [show (M_50 7 2).toNat = nx t9 n9 y_46a by omega]; exact g_108) (by have w1 := Tc.at g_108; exact Tl_on h_10 (by omega) y_46e (jn_and (wR28i (Tc.le y_46t) (by omega))) (by omega) (by omega)) rfl
          · refine g_aload_n (n := 31) hx 4 (dq tX5_readsTest 18 rfl) rfl rfl ?_
            refine g_bipush (n := 33) hx (dq tX5_readsTest 19 rfl) rfl (by decide) ?_
            have e_111 : M_38 7 1 = M_4 7 1 := (f_41 7 1 (by omega))
            refine g_callVv (n := 36) (As := [vI 26]) (rest := []) hx (ctX4_write Γ M_38 g hg 26 (by decide) (by decide)) mlX5_60 (obX4 hg) (dq tX5_readsTest 20 rfl) rfl (by omega) (by omega) (Nat.le_of_ble_eq_true rfl) rfl (fun M_113 p_115 => ?_)
            have f_116 := p_115
            have g_117 : Tc M_113 t9 n9 y_46a := Tc.frame y_46t (fun c j hcj => f_116 c j (by omega))
            refine g_aload_n (n := 37) hx 3 (dq tX5_readsTest 21 rfl) rfl rfl ?_
            refine g_getR (n := 40) hx glX5_9 (sX5_0 (by decide)) (dq tX5_readsTest 22 rfl) rfl ?_
            refine g_ldcS (n := 42) (q := 28) hx rfl rfl rfl (dq tX5_readsTest 23 rfl) rfl ?_
            have e_118 : M_113 7 1 = M_38 7 1 := (f_116 7 1 (by omega))
            have e_119 : M_113 7 2 = M_38 7 2 := (f_116 7 2 (by omega))
            have e_120 : M_113 7 3 = M_38 7 3 := (f_116 7 3 (by omega))
            have e_121 : M_113 7 4 = M_38 7 4 := (f_116 7 4 (by omega))
            have e_122 : M_113 18 1 = M_38 18 1 := (f_116 18 1 (by omega))
            refine g_callVi (n := 45) (As := [sR Γ 28]) (rest := []) hx (ctX7_takesWord2 Γ M_113 28 _ rfl (by decide) t9 n9 y_46a g_117) mlX5_52 (obX7 (by decide)) (dq tX5_readsTest 24 rfl) rfl (by omega) (by omega) (Nat.le_of_ble_eq_true rfl) rfl (fun z_123 M_124 h_125 p_126 => ?_)
            obtain ⟨f_127, h_128, h_129, h_130, h_131⟩ := p_126
            refine g_istore_n (n := 46) (lv' := [(3, vI z_123), (5, vI i_1), (4, vI i_2), (0, aR Γ 18), (1, aR Γ g), (2, vI depth)]) hx (dq tX5_readsTest 25 rfl) (by decide) rfl rfl ?_
            refine g_iload_n (n := 47) hx 0 (dq tX5_readsTest 26 rfl) rfl rfl ?_
            refine g_if_eq (n := 50) (t := 53) hx (dq tX5_readsTest 27 rfl) (by decide) rfl h_125 (fun c_132 => ?_) (fun c_132 => ?_)
            · have g_133 : Tc M_124 t9 n9 y_46a := by have q := h_131; rw [if_pos (by omega)] at q; exact q
              refine g_iload (n := 55) hx 2 (dq tX5_readsTest 29 rfl) rfl rfl ?_
              refine g_if_eq (n := 58) (t := 64) hx (dq tX5_readsTest 30 rfl) (by decide) rfl ⟨by omega, by omega⟩ (fun c_134 => ?_) (fun c_134 => ?_)
              · refine g_aload_n (n := 65) hx 3 (dq tX5_readsTest 34 rfl) rfl rfl ?_
                refine g_getR (n := 68) hx glX5_9 (sX5_0 (by decide)) (dq tX5_readsTest 35 rfl) rfl ?_
                refine g_ldcS (n := 70) (q := 29) hx rfl rfl rfl (dq tX5_readsTest 36 rfl) rfl ?_
                have e_135 : M_124 7 1 = M_113 7 1 := (f_127 7 1 (by omega))
                have e_136 : M_124 18 1 = M_113 18 1 := (f_127 18 1 (by omega))
                refine g_callVi (n := 73) (As := [sR Γ 29]) (rest := []) hx (ctX7_takesWord2 Γ M_124 29 _ rfl (by decide) t9 n9 y_46a g_133) mlX5_52 (obX7 (by decide)) (dq tX5_readsTest 37 rfl) rfl (by omega) (by omega) (Nat.le_of_ble_eq_true rfl) rfl (fun z_137 M_138 h_139 p_140 => ?_)
                obtain ⟨f_141, h_142, h_143, h_144, h_145⟩ := p_140
                refine g_istore (n := 75) (lv' := [(4, vI z_137), (3, vI z_123), (5, vI i_1), (0, aR Γ 18), (1, aR Γ g), (2, vI depth)]) hx (dq tX5_readsTest 38 rfl) (by decide) rfl rfl ?_
                refine g_iload (n := 77) hx 0 (dq tX5_readsTest 39 rfl) rfl rfl ?_
                refine g_if_ne (n := 80) (t := 82) hx (dq tX5_readsTest 40 rfl) (by decide) rfl h_139 (fun c_146 => ?_) (fun c_146 => ?_)
                · have g_147 : Tc M_138 t9 n9 (nx t9 n9 y_46a) := by have q := h_145; rw [if_neg (by omega)] at q; exact q
                  refine g_iinc (n := 85) (lv' := [(5, vI (i_1 + 1)), (4, vI z_137), (3, vI z_123), (0, aR Γ 18), (1, aR Γ g), (2, vI depth)]) hx 2 (dq tX5_readsTest 43 rfl) rfl (by decide) rfl rfl ?_
                  refine g_goto (n := 8) hx (dq tX5_readsTest 44 rfl) (by decide) ?_
                  have e_148 : M_138 7 1 = M_124 7 1 := (f_141 7 1 (by omega))
                  have e_149 : M_138 18 1 = M_124 18 1 := (f_141 18 1 (by omega))
                  exact ih_6 _ (by omega) (i_1 + 1) z_137 z_123 M_138 (by omega) (by omega) (by omega) (by omega) (by omega) (by omega) (fun u_ v_ huv_ => (((((f_141 u_ v_ (by omega)).trans (f_127 u_ v_ (by omega))).trans (f_116 u_ v_ (by omega))).trans (f_41 u_ v_ (by omega))).trans (f_7 u_ v_ (by omega)))) (by have w1 := Tc.at g_147; rw [show (M_138 7 2).toNat = nx t9 n9 y_46a by omega]; exact g_147) (by have w1 := Tc.at g_147; exact Tl_on h_10 (by omega) y_46e (jn_or (wR29i (Tc.le y_46t) (by omega))) (by omega) (by omega)) rfl
                · have g_150 : Tc M_138 t9 n9 y_46a := by have q := h_145; rw [if_pos (by omega)] at q; exact q
                  refine g_iconst (n := 81) hx (dq tX5_readsTest 41 rfl) rfl ?_
                  have e_151 : M_138 7 1 = M_124 7 1 := (f_141 7 1 (by omega))
                  have e_152 : M_138 18 1 = M_124 18 1 := (f_141 18 1 (by omega))
                  exact g_zret hx hr (dq tX5_readsTest 42 rfl) (by omega) ⟨(fun u_ v_ huv_ => (((((f_141 u_ v_ (by omega)).trans (f_127 u_ v_ (by omega))).trans (f_116 u_ v_ (by omega))).trans (f_41 u_ v_ (by omega))).trans (f_7 u_ v_ (by omega)))), (by omega), (by omega), (Or.inr ⟨rfl, y_46a, y_46c, Tl_end (f := (59 - i_1).toNat) h_10 (by omega) y_46e (jn_no (wR28n (Tc.le y_46t) (by omega)) (wR29n (Tc.le y_46t) (by omega))), g_150, by omega⟩)⟩
              · refine g_aload_n (n := 59) hx 4 (dq tX5_readsTest 31 rfl) rfl rfl ?_
                refine g_bipush (n := 61) hx (dq tX5_readsTest 32 rfl) rfl (by decide) ?_
                have e_153 : M_124 7 1 = M_113 7 1 := (f_127 7 1 (by omega))
                have e_154 : M_124 18 1 = M_113 18 1 := (f_127 18 1 (by omega))
                refine g_callVv (n := 64) (As := [vI 27]) (rest := []) hx (ctX4_write Γ M_124 g hg 27 (by decide) (by decide)) mlX5_60 (obX4 hg) (dq tX5_readsTest 33 rfl) rfl (by omega) (by omega) (Nat.le_of_ble_eq_true rfl) rfl (fun M_156 p_158 => ?_)
                have f_159 := p_158
                have g_160 : Tc M_156 t9 n9 y_46a := Tc.frame g_133 (fun c j hcj => f_159 c j (by omega))
                refine g_aload_n (n := 65) hx 3 (dq tX5_readsTest 34 rfl) rfl rfl ?_
                refine g_getR (n := 68) hx glX5_9 (sX5_0 (by decide)) (dq tX5_readsTest 35 rfl) rfl ?_
                refine g_ldcS (n := 70) (q := 29) hx rfl rfl rfl (dq tX5_readsTest 36 rfl) rfl ?_
                have e_161 : M_156 7 1 = M_124 7 1 := (f_159 7 1 (by omega))
                have e_162 : M_156 7 2 = M_124 7 2 := (f_159 7 2 (by omega))
                have e_163 : M_156 7 3 = M_124 7 3 := (f_159 7 3 (by omega))
                have e_164 : M_156 7 4 = M_124 7 4 := (f_159 7 4 (by omega))
                have e_165 : M_156 18 1 = M_124 18 1 := (f_159 18 1 (by omega))
                refine g_callVi (n := 73) (As := [sR Γ 29]) (rest := []) hx (ctX7_takesWord2 Γ M_156 29 _ rfl (by decide) t9 n9 y_46a g_160) mlX5_52 (obX7 (by decide)) (dq tX5_readsTest 37 rfl) rfl (by omega) (by omega) (Nat.le_of_ble_eq_true rfl) rfl (fun z_166 M_167 h_168 p_169 => ?_)
                obtain ⟨f_170, h_171, h_172, h_173, h_174⟩ := p_169
                refine g_istore (n := 75) (lv' := [(4, vI z_166), (3, vI z_123), (5, vI i_1), (0, aR Γ 18), (1, aR Γ g), (2, vI depth)]) hx (dq tX5_readsTest 38 rfl) (by decide) rfl rfl ?_
                refine g_iload (n := 77) hx 0 (dq tX5_readsTest 39 rfl) rfl rfl ?_
                refine g_if_ne (n := 80) (t := 82) hx (dq tX5_readsTest 40 rfl) (by decide) rfl h_168 (fun c_175 => ?_) (fun c_175 => ?_)
                · have g_176 : Tc M_167 t9 n9 (nx t9 n9 y_46a) := by have q := h_174; rw [if_neg (by omega)] at q; exact q
                  refine g_iinc (n := 85) (lv' := [(5, vI (i_1 + 1)), (4, vI z_166), (3, vI z_123), (0, aR Γ 18), (1, aR Γ g), (2, vI depth)]) hx 2 (dq tX5_readsTest 43 rfl) rfl (by decide) rfl rfl ?_
                  refine g_goto (n := 8) hx (dq tX5_readsTest 44 rfl) (by decide) ?_
                  have e_177 : M_167 7 1 = M_156 7 1 := (f_170 7 1 (by omega))
                  have e_178 : M_167 18 1 = M_156 18 1 := (f_170 18 1 (by omega))
                  exact ih_6 _ (by omega) (i_1 + 1) z_166 z_123 M_167 (by omega) (by omega) (by omega) (by omega) (by omega) (by omega) (fun u_ v_ huv_ => ((((((f_170 u_ v_ (by omega)).trans (f_159 u_ v_ (by omega))).trans (f_127 u_ v_ (by omega))).trans (f_116 u_ v_ (by omega))).trans (f_41 u_ v_ (by omega))).trans (f_7 u_ v_ (by omega)))) (by have w1 := Tc.at g_176; rw [show (M_167 7 2).toNat = nx t9 n9 y_46a by omega]; exact g_176) (by have w1 := Tc.at g_176; exact Tl_on h_10 (by omega) y_46e (jn_or (wR29i (Tc.le y_46t) (by omega))) (by omega) (by omega)) rfl
                · have g_179 : Tc M_167 t9 n9 y_46a := by have q := h_174; rw [if_pos (by omega)] at q; exact q
                  refine g_iconst (n := 81) hx (dq tX5_readsTest 41 rfl) rfl ?_
                  have e_180 : M_167 7 1 = M_156 7 1 := (f_170 7 1 (by omega))
                  have e_181 : M_167 18 1 = M_156 18 1 := (f_170 18 1 (by omega))
                  exact g_zret hx hr (dq tX5_readsTest 42 rfl) (by omega) ⟨(fun u_ v_ huv_ => ((((((f_170 u_ v_ (by omega)).trans (f_159 u_ v_ (by omega))).trans (f_127 u_ v_ (by omega))).trans (f_116 u_ v_ (by omega))).trans (f_41 u_ v_ (by omega))).trans (f_7 u_ v_ (by omega)))), (by omega), (by omega), (Or.inr ⟨rfl, y_46a, y_46c, Tl_end (f := (59 - i_1).toNat) h_10 (by omega) y_46e (jn_no (wR28n (Tc.le y_46t) (by omega)) (wR29n (Tc.le y_46t) (by omega))), g_179, by omega⟩)⟩
            · have g_182 : Tc M_124 t9 n9 (nx t9 n9 y_46a) := by have q := h_131; rw [if_neg (by omega)] at q; exact q
              refine g_goto (n := 82) hx (dq tX5_readsTest 28 rfl) (by decide) ?_
              refine g_iinc (n := 85) (lv' := [(5, vI (i_1 + 1)), (3, vI z_123), (4, vI i_2), (0, aR Γ 18), (1, aR Γ g), (2, vI depth)]) hx 1 (dq tX5_readsTest 43 rfl) rfl (by decide) rfl rfl ?_
              refine g_goto (n := 8) hx (dq tX5_readsTest 44 rfl) (by decide) ?_
              have e_183 : M_124 7 1 = M_113 7 1 := (f_127 7 1 (by omega))
              have e_184 : M_124 18 1 = M_113 18 1 := (f_127 18 1 (by omega))
              refine g_lv [0, 2, 1, 3, 4, 5] rfl ?_
              exact ih_6 _ (by omega) (i_1 + 1) i_2 z_123 M_124 (by omega) (by omega) (by omega) (by omega) (by omega) (by omega) (fun u_ v_ huv_ => ((((f_127 u_ v_ (by omega)).trans (f_116 u_ v_ (by omega))).trans (f_41 u_ v_ (by omega))).trans (f_7 u_ v_ (by omega)))) (by have w1 := Tc.at g_182; rw [show (M_124 7 2).toNat = nx t9 n9 y_46a by omega]; exact g_182) (by have w1 := Tc.at g_182; exact Tl_on h_10 (by omega) y_46e (jn_and (wR28i (Tc.le y_46t) (by omega))) (by omega) (by omega)) rfl
        · refine g_iconst (n := 25) hx (dq tX5_readsTest 14 rfl) rfl ?_
          have e_185 : M_38 7 1 = M_4 7 1 := (f_41 7 1 (by omega))
          exact g_zret hx hr (dq tX5_readsTest 15 rfl) (by omega) ⟨(fun u_ v_ huv_ => ((f_41 u_ v_ (by omega)).trans (f_7 u_ v_ (by omega)))), (by omega), (by omega), (Or.inl ⟨rfl, Tl_no (f := (59 - i_1).toNat) h_10 (by omega) (Rz.no h_44 (by omega))⟩)⟩
  exact L_5 _ 0 0 0 M (by omega) (by omega) (by omega) (by omega) (by omega) (by omega) (fun _ _ _ => rfl) (by rw [show (M 7 2).toNat = a9 by omega]; exact ex0) (by rw [show (M 7 2).toNat = a9 by omega]; rfl) rfl
