abbrev qctX10_sum3 (M : zM) (ua : Int) (ud : Int) (un : Int) (us : Int) (t9 : Nat → Int) (n9 : Nat) (a9 : Nat) (M' : zM) : Prop := (∀ u_ v_, (u_ ≠ 229 ∨ v_ ≠ 38) ∧ (u_ ≠ 229 ∨ v_ ≠ 39) ∧ (u_ ≠ 229 ∨ v_ ≠ 42) ∧ (u_ ≠ 229 ∨ v_ ≠ 44) ∧ u_ ≠ 229 + 38 ∧ u_ ≠ 229 + 39 → M' u_ v_ = M u_ v_) ∧ (Rd M' ua (ud + 1) un us) ∧ (Kp M M') ∧ (M 229 38 ≤ M' 229 38) ∧ (M' 229 38 = M 229 38 ∨ M' 229 38 ≤ M 229 37) ∧ (M' 229 39 = 0 → (M 229 39 = 0 ∧ M 229 44 ≤ M' 229 44)) ∧ (M' 229 39 = 0 → sk t9 n9 (M' 229 38).toNat = (M' 229 38).toNat) ∧ (ovN t9 n9 (M' 229 38).toNat (M' 229 39) (M' 229 44) = bd (ovN t9 n9 a9 (M 229 39) (M 229 44)) (Sg t9 n9))
set_option maxHeartbeats 4000000 in
set_option maxRecDepth 100000 in
theorem ctX10_sum3 (Γ : Gam) (M : zM) (ua : Int) (ud : Int) (un : Int) (us : Int) (t9 : Nat → Int) (n9 : Nat) (a9 : Nat) (pre0 : 0 ≤ us) (pre1 : 0 ≤ ud) (pre2 : M 229 38 = a9) (pre3 : M 229 39 = 0 → 0 ≤ M 229 44) (ex0 : Rd M ua ud un us) (ex1 : Ty M t9 n9) : CtV Γ yX10_sum cX10_sum 2 none 7 152 [aR Γ 229] M (qctX10_sum3 M ua ud un us t9 n9 a9) := by
  refine met_v (by decide) (Nat.le_of_ble_eq_true rfl) (fun x hx hr => ?_)
  show G Γ x 2 (QV Γ x (qctX10_sum3 M ua ud un us t9 n9 a9)) M 0 [(0, aR Γ 229)] []
  refine g_iv (fun hI0 => ?_)
  have hI_37 : (0 : Int) ≤ M 229 37 ∧ M 229 37 ≤ 400 := hI0 229 37
  have hI_38 : (0 : Int) ≤ M 229 38 ∧ M 229 38 ≤ 402 := hI0 229 38
  have hI_45 : (0 : Int) ≤ M 229 45 ∧ M 229 45 ≤ 402 := hI0 229 45
  have hI_42 : (0 : Int) ≤ M 229 42 ∧ M 229 42 ≤ 300 := hI0 229 42
  have hI_39 : (0 : Int) ≤ M 229 39 ∧ M 229 39 ≤ 100000 := hI0 229 39
  have hI_40 : (0 : Int) ≤ M 229 40 ∧ M 229 40 ≤ 5 := hI0 229 40
  have hI_41 : (0 : Int) ≤ M 229 41 ∧ M 229 41 ≤ 6 := hI0 229 41
  clear hI0
  have hty_n := ex1.1
  have hn60 : M 229 39 = 0 → M 229 44 ≤ 60 := fun q => (Rd.nums ex0 q).2.1
  refine g_aload_n (n := 1) hx 0 (dq tX10_sum 0 rfl) rfl rfl ?_
  refine g_callVv (n := 4) (As := []) (rest := []) hx (ctX10_term3 Γ M ua ud un us t9 n9 a9 (by omega) (by omega) (by omega) (by omega) ex0 ex1) mlX10_309 (obX10 (by decide)) (dq tX10_sum 1 rfl) rfl (Nat.le_of_ble_eq_true rfl) (Nat.le_of_ble_eq_true rfl) (Nat.le_of_ble_eq_true rfl) rfl (fun M_2 p_4 => ?_)
  obtain ⟨f_5, h_6, h_7, h_8, h_9, h_10, h_11, h_12⟩ := p_4
  have g_13 := Kp.trans Kp.refl h_7
  have g_14 : Rd M_2 ua (ud + 1) un us := Rd.to h_6 (by omega) (by omega) (by omega)
  have g_15 : Ty M_2 t9 n9 := Ty.frame ex1 (fun c j hcj => f_5 c j (by omega))
  have L_17 : ∀ (n_ : Nat) (M_16 : zM), (∀ u_ v_, u_ ≠ 229 + 38 ∧ u_ ≠ 229 + 39 ∧ (u_ ≠ 229 ∨ v_ ≠ 42) ∧ (u_ ≠ 229 ∨ v_ ≠ 38) ∧ (u_ ≠ 229 ∨ v_ ≠ 39) ∧ (u_ ≠ 229 ∨ v_ ≠ 44) → M_16 u_ v_ = M_2 u_ v_) → (Kp M M_16) → (Rd M_16 ua (ud + 1) un us) → (Ty M_16 t9 n9) → (M 229 38 ≤ M_16 229 38) → (M_16 229 38 = M 229 38 ∨ M_16 229 38 ≤ M 229 37) → (bd (ovN t9 n9 (M_16 229 38).toNat (M_16 229 39) (M_16 229 44)) (So t9 n9) = bd (ovN t9 n9 a9 (M 229 39) (M 229 44)) (Sg t9 n9)) → (M_16 229 39 = 0 → (sk t9 n9 (M_16 229 38).toNat = (M_16 229 38).toNat ∧ ¬ (fst9 t9 n9 (M_16 229 38).toNat = 42 ∨ fst9 t9 n9 (M_16 229 38).toNat = 47 ∨ fst9 t9 n9 (M_16 229 38).toNat = 37))) → (M_16 229 39 = 0 → (M 229 39 = 0 ∧ M 229 44 ≤ M_16 229 44)) → ((402 - M_16 229 38).toNat = n_) → G Γ x 2 (QV Γ x (qctX10_sum3 M ua ud un us t9 n9 a9)) M_16 4 [(0, aR Γ 229)] [] := by
    intro n_
    induction n_ using Nat.strongRecOn with
    | _ n_ ih_18 =>
      intro M_16 f_19 g_20 g_21 g_22 h_24 h_25 h_26 h_27 h_28 hm_23
      refine g_aload_n (n := 5) hx 0 (dq tX10_sum 2 rfl) rfl rfl ?_
      refine g_getI (n := 8) hx glX10_246 (sX10_39 (by decide)) (dq tX10_sum 3 rfl) rfl (fun h_29l h_29u => ?_)
      refine g_if_ne (n := 11) (t := 67) hx (dq tX10_sum 4 rfl) (by decide) rfl (zrI h_29l h_29u (by decide) (by decide)) (fun c_30 => ?_) (fun c_30 => ?_)
      · have e_31 : M_16 229 37 = M 229 37 := ((f_19 229 37 (by omega))).trans (f_5 229 37 (by omega))
        exact g_vret hx hr (dq tX10_sum 34 rfl) ⟨(fun u_ v_ huv_ => ((f_19 u_ v_ ⟨huv_.2.2.2.2.1, huv_.2.2.2.2.2, huv_.2.2.1, huv_.1, huv_.2.1, huv_.2.2.2.1⟩).trans (f_5 u_ v_ ⟨huv_.1, huv_.2.1, huv_.2.2.1, huv_.2.2.2.1, huv_.2.2.2.2.1, huv_.2.2.2.2.2⟩))), (Rd.to g_21 (by omega) (by omega) (by omega)), g_20, (by omega), (by omega), (by omega), (by omega), (ov_se h_26 (by omega))⟩
      · refine g_aload_n (n := 12) hx 0 (dq tX10_sum 5 rfl) rfl rfl ?_
        have e_32 : M_16 229 37 = M 229 37 := ((f_19 229 37 (by omega))).trans (f_5 229 37 (by omega))
        refine g_callVi (n := 15) (As := []) (rest := []) hx (ctX10_sign3 Γ M_16 t9 n9 ((M_16 229 38).toNat) (by omega) g_22) mlX10_252 (obX10 (by decide)) (dq tX10_sum 6 rfl) rfl (Nat.le_of_ble_eq_true rfl) (Nat.le_of_ble_eq_true rfl) (Nat.le_of_ble_eq_true rfl) rfl (fun z_33 M_34 h_35 p_36 => ?_)
        obtain ⟨rfl, h_38, h_39, h_40, h_41⟩ := p_36
        refine g_bipush (n := 17) hx (dq tX10_sum 7 rfl) rfl (by decide) ?_
        have J_43 :  ((fst9 t9 n9 ((M_16 229 38).toNat) = 43 ∨ fst9 t9 n9 ((M_16 229 38).toNat) = 45)) → G Γ x 2 (QV Γ x (qctX10_sum3 M ua ud un us t9 n9 a9)) M_16 29 [(0, aR Γ 229)] [] := by
          intro h_44
          refine g_aload_n (n := 30) hx 0 (dq tX10_sum 13 rfl) rfl rfl ?_
          refine g_callVi (n := 33) (As := []) (rest := []) hx (ctX10_sign3 Γ M_16 t9 n9 ((M_16 229 38).toNat) (by omega) g_22) mlX10_252 (obX10 (by decide)) (dq tX10_sum 14 rfl) rfl (Nat.le_of_ble_eq_true rfl) (Nat.le_of_ble_eq_true rfl) (Nat.le_of_ble_eq_true rfl) rfl (fun z_45 M_46 h_47 p_48 => ?_)
          obtain ⟨rfl, h_50, h_51, h_52, h_53⟩ := p_48
          refine g_bipush (n := 35) hx (dq tX10_sum 15 rfl) rfl (by decide) ?_
          have J_56 : ∀ (j_55 : Int),  (2 ≤ j_55) → (j_55 ≤ 3) → G Γ x 2 (QV Γ x (qctX10_sum3 M ua ud un us t9 n9 a9)) M_16 43 [(0, aR Γ 229)] [vI j_55] := by
            intro j_55 h_57 h_58
            refine g_istore_n (n := 44) (lv' := [(1, vI j_55), (0, aR Γ 229)]) hx (dq tX10_sum 20 rfl) (by decide) rfl rfl ?_
            refine g_aload_n (n := 45) hx 1 (dq tX10_sum 21 rfl) rfl rfl ?_
            refine g_dup (n := 46) hx (dq tX10_sum 22 rfl) rfl rfl ?_
            refine g_getI (n := 49) hx glX10_249 (sX10_38 (by decide)) (dq tX10_sum 23 rfl) rfl (fun h_59l h_59u => ?_)
            refine g_iconst (n := 50) hx (dq tX10_sum 24 rfl) rfl ?_
            refine g_iadd (n := 51) hx (dq tX10_sum 25 rfl) rfl ?_
            refine g_putI (n := 54) hx plX10_249 (sX10_38 (by decide)) (dq tX10_sum 26 rfl) rfl (by omega) (by omega) (fun M_60 m_61e m_61 => ?_)
            have g_62 : Kp M M_60 := Kp.frame g_20 (fun c j hcj => m_61 c j (by omega))
            have g_63 : Rd M_60 ua (ud + 1) un us := Rd.mv g_21 (fun c j hcj => m_61 c j (by omega)) (by have q39 := m_61 229 39 (by omega); omega)
            have g_64 : Ty M_60 t9 n9 := Ty.frame g_22 (fun c j hcj => m_61 c j (by omega))
            refine g_aload_n (n := 55) hx 1 (dq tX10_sum 27 rfl) rfl rfl ?_
            have e_65 : M_60 229 37 = M_16 229 37 := (m_61 229 37 (by omega))
            have e_66 : M_60 229 39 = M_16 229 39 := (m_61 229 39 (by omega))
            have e_67 : M_60 229 44 = M_16 229 44 := (m_61 229 44 (by omega))
            refine g_callVv (n := 58) (As := []) (rest := []) hx (ctX10_term3 Γ M_60 ua (ud + 1) un us t9 n9 ((M_16 229 38).toNat + 1) (by omega) (by omega) (by omega) (by omega) g_63 g_64) mlX10_309 (obX10 (by decide)) (dq tX10_sum 28 rfl) rfl (Nat.le_of_ble_eq_true rfl) (Nat.le_of_ble_eq_true rfl) (Nat.le_of_ble_eq_true rfl) rfl (fun M_69 p_71 => ?_)
            obtain ⟨f_72, h_73, h_74, h_75, h_76, h_77, h_78, h_79⟩ := p_71
            have g_80 := Kp.trans g_62 h_74
            have g_81 : Rd M_69 ua (ud + 2) un us := Rd.to h_73 (by omega) (by omega) (by omega)
            have g_82 : Ty M_69 t9 n9 := Ty.frame g_64 (fun c j hcj => f_72 c j (by omega))
            refine g_aload_n (n := 59) hx 1 (dq tX10_sum 29 rfl) rfl rfl ?_
            refine g_iload_n (n := 60) hx 0 (dq tX10_sum 30 rfl) rfl rfl ?_
            refine g_iconst (n := 61) hx (dq tX10_sum 31 rfl) rfl ?_
            have e_83 : M_69 229 37 = M_60 229 37 := (f_72 229 37 (by omega))
            refine g_callVv (n := 64) (As := [vI j_55, vI 0]) (rest := []) hx (ctX10_entry2 Γ M_69 j_55 (by omega) (by omega) 0 (by decide) (by decide) ua (ud + 2) un us (by omega) (by omega) (by omega) g_81) mlX10_299 (obX10 (by decide)) (dq tX10_sum 32 rfl) rfl (Nat.le_of_ble_eq_true rfl) (Nat.le_of_ble_eq_true rfl) (Nat.le_of_ble_eq_true rfl) rfl (fun M_85 p_87 => ?_)
            obtain ⟨f_88, h_89, h_90⟩ := p_87
            have g_91 := Kp.trans g_80 h_90
            have g_92 : Rd M_85 ua (ud + 1) un us := Rd.to h_89 (by omega) (by omega) (by omega)
            have g_93 : Ty M_85 t9 n9 := Ty.frame g_82 (fun c j hcj => f_88 c j (by omega))
            refine g_goto (n := 4) hx (dq tX10_sum 33 rfl) (by decide) ?_
            have e_94 : M_85 229 37 = M_69 229 37 := (f_88 229 37 (by omega))
            have e_95 : M_85 229 38 = M_69 229 38 := (f_88 229 38 (by omega))
            have e_96 : M_85 229 39 = M_69 229 39 := (f_88 229 39 (by omega))
            have e_97 : M_85 229 44 = M_69 229 44 := (f_88 229 44 (by omega))
            refine g_lv [1] rfl ?_
            exact ih_18 _ (by omega) M_85 (fun u_ v_ huv_ => ((((f_88 u_ v_ ⟨huv_.1, huv_.2.1, huv_.2.2.1⟩).trans (f_72 u_ v_ ⟨huv_.2.2.2.1, huv_.2.2.2.2.1, huv_.2.2.1, huv_.2.2.2.2.2, huv_.1, huv_.2.1⟩)).trans (m_61 u_ v_ huv_.2.2.2.1)).trans (f_19 u_ v_ ⟨huv_.1, huv_.2.1, huv_.2.2.1, huv_.2.2.2.1, huv_.2.2.2.2.1, huv_.2.2.2.2.2⟩))) g_91 g_92 g_93 (by omega) (by omega) (ov_tb h_26 (by omega) (by omega) (by omega) (by omega) (by omega) (by omega) (ov_bmv h_79 (by omega) (by omega) (by omega))) (fun h0 => by rw [show (M_85 229 38).toNat = (M_69 229 38).toNat by omega]; exact h_78 (by omega)) (by omega) rfl
          refine g_icmp_ne (n := 38) (t := 42) hx (dq tX10_sum 16 rfl) (by decide) rfl h_47 ⟨by decide, by decide⟩ (fun c_54 => ?_) (fun c_54 => ?_)
          · refine g_iconst (n := 43) hx (dq tX10_sum 19 rfl) rfl ?_
            exact J_56 3 (by omega) (by omega)
          · refine g_iconst (n := 39) hx (dq tX10_sum 17 rfl) rfl ?_
            refine g_goto (n := 43) hx (dq tX10_sum 18 rfl) (by decide) ?_
            exact J_56 2 (by omega) (by omega)
        refine g_icmp_eq (n := 20) (t := 29) hx (dq tX10_sum 8 rfl) (by decide) rfl h_35 ⟨by decide, by decide⟩ (fun c_42 => ?_) (fun c_42 => ?_)
        · exact J_43 (by first | assumption | omega)
        · refine g_aload_n (n := 21) hx 0 (dq tX10_sum 9 rfl) rfl rfl ?_
          refine g_callVi (n := 24) (As := []) (rest := []) hx (ctX10_sign3 Γ M_16 t9 n9 ((M_16 229 38).toNat) (by omega) g_22) mlX10_252 (obX10 (by decide)) (dq tX10_sum 10 rfl) rfl (Nat.le_of_ble_eq_true rfl) (Nat.le_of_ble_eq_true rfl) (Nat.le_of_ble_eq_true rfl) rfl (fun z_98 M_99 h_100 p_101 => ?_)
          obtain ⟨rfl, h_103, h_104, h_105, h_106⟩ := p_101
          refine g_bipush (n := 26) hx (dq tX10_sum 11 rfl) rfl (by decide) ?_
          refine g_icmp_ne (n := 29) (t := 67) hx (dq tX10_sum 12 rfl) (by decide) rfl h_100 ⟨by decide, by decide⟩ (fun c_107 => ?_) (fun c_107 => ?_)
          · exact g_vret hx hr (dq tX10_sum 34 rfl) ⟨(fun u_ v_ huv_ => ((f_19 u_ v_ ⟨huv_.2.2.2.2.1, huv_.2.2.2.2.2, huv_.2.2.1, huv_.1, huv_.2.1, huv_.2.2.2.1⟩).trans (f_5 u_ v_ ⟨huv_.1, huv_.2.1, huv_.2.2.1, huv_.2.2.2.1, huv_.2.2.2.2.1, huv_.2.2.2.2.2⟩))), (Rd.to g_21 (by omega) (by omega) (by omega)), g_20, (by omega), (by omega), (by omega), (by omega), (ov_se h_26 (by omega))⟩
          · exact J_43 (by first | assumption | omega)
  have e_108 : M_2 229 37 = M 229 37 := (f_5 229 37 (by omega))
  exact L_17 _ M_2 (fun _ _ _ => rfl) g_13 g_14 g_15 (by omega) (by omega) h_12 h_11 (by omega) rfl
