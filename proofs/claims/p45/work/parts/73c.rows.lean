abbrev qctX10_term3 (M : zM) (ua : Int) (ud : Int) (un : Int) (us : Int) (t9 : Nat → Int) (n9 : Nat) (a9 : Nat) (M' : zM) : Prop := (∀ u_ v_, (u_ ≠ 229 ∨ v_ ≠ 38) ∧ (u_ ≠ 229 ∨ v_ ≠ 39) ∧ (u_ ≠ 229 ∨ v_ ≠ 42) ∧ (u_ ≠ 229 ∨ v_ ≠ 44) ∧ u_ ≠ 229 + 38 ∧ u_ ≠ 229 + 39 → M' u_ v_ = M u_ v_) ∧ (Rd M' ua (ud + 1) un us) ∧ (Kp M M') ∧ (M 229 38 ≤ M' 229 38) ∧ (M' 229 38 = M 229 38 ∨ M' 229 38 ≤ M 229 37) ∧ (M' 229 39 = 0 → (M 229 39 = 0 ∧ M 229 44 ≤ M' 229 44)) ∧ (M' 229 39 = 0 → (sk t9 n9 (M' 229 38).toNat = (M' 229 38).toNat ∧ ¬ (fst9 t9 n9 (M' 229 38).toNat = 42 ∨ fst9 t9 n9 (M' 229 38).toNat = 47 ∨ fst9 t9 n9 (M' 229 38).toNat = 37))) ∧ (bd (ovN t9 n9 (M' 229 38).toNat (M' 229 39) (M' 229 44)) (So t9 n9) = bd (ovN t9 n9 a9 (M 229 39) (M 229 44)) (Sg t9 n9))
set_option maxHeartbeats 4000000 in
set_option maxRecDepth 100000 in
theorem ctX10_term3 (Γ : Gam) (M : zM) (ua : Int) (ud : Int) (un : Int) (us : Int) (t9 : Nat → Int) (n9 : Nat) (a9 : Nat) (pre0 : 0 ≤ us) (pre1 : 0 ≤ ud) (pre2 : M 229 38 = a9) (pre3 : M 229 39 = 0 → 0 ≤ M 229 44) (ex0 : Rd M ua ud un us) (ex1 : Ty M t9 n9) : CtV Γ yX10_term cX10_term 2 none 6 131 [aR Γ 229] M (qctX10_term3 M ua ud un us t9 n9 a9) := by
  refine met_v (by decide) (Nat.le_of_ble_eq_true rfl) (fun x hx hr => ?_)
  show G Γ x 2 (QV Γ x (qctX10_term3 M ua ud un us t9 n9 a9)) M 0 [(0, aR Γ 229)] []
  refine g_iv (fun hI0 => ?_)
  have hI_37 : (0 : Int) ≤ M 229 37 ∧ M 229 37 ≤ 400 := hI0 229 37
  have hI_38 : (0 : Int) ≤ M 229 38 ∧ M 229 38 ≤ 402 := hI0 229 38
  have hI_45 : (0 : Int) ≤ M 229 45 ∧ M 229 45 ≤ 402 := hI0 229 45
  have hI_42 : (0 : Int) ≤ M 229 42 ∧ M 229 42 ≤ 300 := hI0 229 42
  have hI_39 : (0 : Int) ≤ M 229 39 ∧ M 229 39 ≤ 100000 := hI0 229 39
  have hI_40 : (0 : Int) ≤ M 229 40 ∧ M 229 40 ≤ 5 := hI0 229 40
  have hI_41 : (0 : Int) ≤ M 229 41 ∧ M 229 41 ≤ 6 := hI0 229 41
  clear hI0
  have hty_n := ex1.1
  have hn60 : M 229 39 = 0 → M 229 44 ≤ 60 := fun q => (Rd.nums ex0 q).2.1
  refine g_aload_n (n := 1) hx 0 (dq tX10_term 0 rfl) rfl rfl ?_
  refine g_callVv (n := 4) (As := []) (rest := []) hx (ctX10_value3 Γ M ua ud un us t9 n9 a9 (by omega) (by omega) (by omega) (by omega) ex0 ex1) mlX10_306 (obX10 (by decide)) (dq tX10_term 1 rfl) rfl (Nat.le_of_ble_eq_true rfl) (Nat.le_of_ble_eq_true rfl) (Nat.le_of_ble_eq_true rfl) rfl (fun M_2 p_4 => ?_)
  obtain ⟨f_5, h_6, h_7, h_8, h_9, h_10, h_11⟩ := p_4
  have g_12 := Kp.trans Kp.refl h_7
  have g_13 : Rd M_2 ua (ud + 1) un us := Rd.to h_6 (by omega) (by omega) (by omega)
  have g_14 : Ty M_2 t9 n9 := Ty.frame ex1 (fun c j hcj => f_5 c j (by omega))
  refine g_aload_n (n := 5) hx 0 (dq tX10_term 2 rfl) rfl rfl ?_
  have e_15 : M_2 229 37 = M 229 37 := (f_5 229 37 (by omega))
  refine g_callVv (n := 8) (As := []) (rest := []) hx (ctX10_blanks3 Γ M_2 t9 n9 ((M_2 229 38).toNat) (by omega) g_14) mlX10_268 (obX10 (by decide)) (dq tX10_term 3 rfl) rfl (Nat.le_of_ble_eq_true rfl) (Nat.le_of_ble_eq_true rfl) (Nat.le_of_ble_eq_true rfl) rfl (fun M_17 p_19 => ?_)
  obtain ⟨f_20, h_21, h_22, h_23⟩ := p_19
  have g_24 : Kp M M_17 := Kp.frame g_12 (fun c j hcj => f_20 c j (by omega))
  have g_25 : Rd M_17 ua (ud + 1) un us := Rd.mv g_13 (fun c j hcj => f_20 c j (by omega)) (by have q39 := f_20 229 39 (by omega); omega)
  have g_26 : Ty M_17 t9 n9 := Ty.frame g_14 (fun c j hcj => f_20 c j (by omega))
  have L_28 : ∀ (n_ : Nat) (M_27 : zM), (∀ u_ v_, (u_ ≠ 229 ∨ v_ ≠ 38) ∧ u_ ≠ 229 + 38 ∧ u_ ≠ 229 + 39 ∧ (u_ ≠ 229 ∨ v_ ≠ 42) ∧ (u_ ≠ 229 ∨ v_ ≠ 39) ∧ (u_ ≠ 229 ∨ v_ ≠ 44) → M_27 u_ v_ = M_17 u_ v_) → (Kp M M_27) → (Rd M_27 ua (ud + 1) un us) → (Ty M_27 t9 n9) → (M 229 38 ≤ M_27 229 38) → (M_27 229 38 = M 229 38 ∨ M_27 229 38 ≤ M 229 37) → (bd (ovN t9 n9 (M_27 229 38).toNat (M_27 229 39) (M_27 229 44)) (So t9 n9) = bd (ovN t9 n9 a9 (M 229 39) (M 229 44)) (Sg t9 n9)) → (M_27 229 39 = 0 → sk t9 n9 (M_27 229 38).toNat = (M_27 229 38).toNat) → (M_27 229 39 = 0 → (M 229 39 = 0 ∧ M 229 44 ≤ M_27 229 44)) → ((402 - M_27 229 38).toNat = n_) → G Γ x 2 (QV Γ x (qctX10_term3 M ua ud un us t9 n9 a9)) M_27 8 [(0, aR Γ 229)] [] := by
    intro n_
    induction n_ using Nat.strongRecOn with
    | _ n_ ih_29 =>
      intro M_27 f_30 g_31 g_32 g_33 h_35 h_36 h_37 h_38 h_39 hm_34
      refine g_aload_n (n := 9) hx 0 (dq tX10_term 4 rfl) rfl rfl ?_
      refine g_getI (n := 12) hx glX10_246 (sX10_39 (by decide)) (dq tX10_term 5 rfl) rfl (fun h_40l h_40u => ?_)
      refine g_if_ne (n := 15) (t := 100) hx (dq tX10_term 6 rfl) (by decide) rfl (zrI h_40l h_40u (by decide) (by decide)) (fun c_41 => ?_) (fun c_41 => ?_)
      · have e_42 : M_27 229 37 = M_2 229 37 := ((f_30 229 37 (by omega))).trans (f_20 229 37 (by omega))
        exact g_vret hx hr (dq tX10_term 48 rfl) ⟨(fun u_ v_ huv_ => (((f_30 u_ v_ ⟨huv_.1, huv_.2.2.2.2.1, huv_.2.2.2.2.2, huv_.2.2.1, huv_.2.1, huv_.2.2.2.1⟩).trans (f_20 u_ v_ huv_.1)).trans (f_5 u_ v_ ⟨huv_.1, huv_.2.1, huv_.2.2.1, huv_.2.2.2.1, huv_.2.2.2.2.1, huv_.2.2.2.2.2⟩))), (Rd.to g_32 (by omega) (by omega) (by omega)), g_31, (by omega), (by omega), (by omega), (by omega), h_37⟩
      · refine g_aload_n (n := 16) hx 0 (dq tX10_term 7 rfl) rfl rfl ?_
        have e_43 : M_27 229 37 = M_2 229 37 := ((f_30 229 37 (by omega))).trans (f_20 229 37 (by omega))
        refine g_callVi (n := 19) (As := []) (rest := []) hx (ctX10_sign3 Γ M_27 t9 n9 ((M_27 229 38).toNat) (by omega) g_33) mlX10_252 (obX10 (by decide)) (dq tX10_term 8 rfl) rfl (Nat.le_of_ble_eq_true rfl) (Nat.le_of_ble_eq_true rfl) (Nat.le_of_ble_eq_true rfl) rfl (fun z_44 M_45 h_46 p_47 => ?_)
        obtain ⟨rfl, h_49, h_50, h_51, h_52⟩ := p_47
        refine g_bipush (n := 21) hx (dq tX10_term 9 rfl) rfl (by decide) ?_
        have J_54 :  ((fst9 t9 n9 ((M_27 229 38).toNat) = 42 ∨ fst9 t9 n9 ((M_27 229 38).toNat) = 47 ∨ fst9 t9 n9 ((M_27 229 38).toNat) = 37)) → G Γ x 2 (QV Γ x (qctX10_term3 M ua ud un us t9 n9 a9)) M_27 42 [(0, aR Γ 229)] [] := by
          intro h_55
          refine g_aload_n (n := 43) hx 0 (dq tX10_term 19 rfl) rfl rfl ?_
          refine g_callVi (n := 46) (As := []) (rest := []) hx (ctX10_sign3 Γ M_27 t9 n9 ((M_27 229 38).toNat) (by omega) g_33) mlX10_252 (obX10 (by decide)) (dq tX10_term 20 rfl) rfl (Nat.le_of_ble_eq_true rfl) (Nat.le_of_ble_eq_true rfl) (Nat.le_of_ble_eq_true rfl) rfl (fun z_56 M_57 h_58 p_59 => ?_)
          obtain ⟨rfl, h_61, h_62, h_63, h_64⟩ := p_59
          refine g_bipush (n := 48) hx (dq tX10_term 21 rfl) rfl (by decide) ?_
          have J_67 : ∀ (j_66 : Int),  (13 ≤ j_66) → (j_66 ≤ 15) → G Γ x 2 (QV Γ x (qctX10_term3 M ua ud un us t9 n9 a9)) M_27 72 [(0, aR Γ 229)] [vI j_66] := by
            intro j_66 h_68 h_69
            refine g_istore_n (n := 73) (lv' := [(1, vI j_66), (0, aR Γ 229)]) hx (dq tX10_term 32 rfl) (by decide) rfl rfl ?_
            refine g_aload_n (n := 74) hx 1 (dq tX10_term 33 rfl) rfl rfl ?_
            refine g_dup (n := 75) hx (dq tX10_term 34 rfl) rfl rfl ?_
            refine g_getI (n := 78) hx glX10_249 (sX10_38 (by decide)) (dq tX10_term 35 rfl) rfl (fun h_70l h_70u => ?_)
            refine g_iconst (n := 79) hx (dq tX10_term 36 rfl) rfl ?_
            refine g_iadd (n := 80) hx (dq tX10_term 37 rfl) rfl ?_
            refine g_putI (n := 83) hx plX10_249 (sX10_38 (by decide)) (dq tX10_term 38 rfl) rfl (by omega) (by omega) (fun M_71 m_72e m_72 => ?_)
            have g_73 : Kp M M_71 := Kp.frame g_31 (fun c j hcj => m_72 c j (by omega))
            have g_74 : Rd M_71 ua (ud + 1) un us := Rd.mv g_32 (fun c j hcj => m_72 c j (by omega)) (by have q39 := m_72 229 39 (by omega); omega)
            have g_75 : Ty M_71 t9 n9 := Ty.frame g_33 (fun c j hcj => m_72 c j (by omega))
            refine g_aload_n (n := 84) hx 1 (dq tX10_term 39 rfl) rfl rfl ?_
            have e_76 : M_71 229 37 = M_27 229 37 := (m_72 229 37 (by omega))
            have e_77 : M_71 229 39 = M_27 229 39 := (m_72 229 39 (by omega))
            have e_78 : M_71 229 44 = M_27 229 44 := (m_72 229 44 (by omega))
            refine g_callVv (n := 87) (As := []) (rest := []) hx (ctX10_value3 Γ M_71 ua (ud + 1) un us t9 n9 ((M_27 229 38).toNat + 1) (by omega) (by omega) (by omega) (by omega) g_74 g_75) mlX10_306 (obX10 (by decide)) (dq tX10_term 40 rfl) rfl (Nat.le_of_ble_eq_true rfl) (Nat.le_of_ble_eq_true rfl) (Nat.le_of_ble_eq_true rfl) rfl (fun M_80 p_82 => ?_)
            obtain ⟨f_83, h_84, h_85, h_86, h_87, h_88, h_89⟩ := p_82
            have g_90 := Kp.trans g_73 h_85
            have g_91 : Rd M_80 ua (ud + 2) un us := Rd.to h_84 (by omega) (by omega) (by omega)
            have g_92 : Ty M_80 t9 n9 := Ty.frame g_75 (fun c j hcj => f_83 c j (by omega))
            refine g_aload_n (n := 88) hx 1 (dq tX10_term 41 rfl) rfl rfl ?_
            refine g_iload_n (n := 89) hx 0 (dq tX10_term 42 rfl) rfl rfl ?_
            refine g_iconst (n := 90) hx (dq tX10_term 43 rfl) rfl ?_
            have e_93 : M_80 229 37 = M_71 229 37 := (f_83 229 37 (by omega))
            refine g_callVv (n := 93) (As := [vI j_66, vI 0]) (rest := []) hx (ctX10_entry2 Γ M_80 j_66 (by omega) (by omega) 0 (by decide) (by decide) ua (ud + 2) un us (by omega) (by omega) (by omega) g_91) mlX10_299 (obX10 (by decide)) (dq tX10_term 44 rfl) rfl (Nat.le_of_ble_eq_true rfl) (Nat.le_of_ble_eq_true rfl) (Nat.le_of_ble_eq_true rfl) rfl (fun M_95 p_97 => ?_)
            obtain ⟨f_98, h_99, h_100⟩ := p_97
            have g_101 := Kp.trans g_90 h_100
            have g_102 : Rd M_95 ua (ud + 1) un us := Rd.to h_99 (by omega) (by omega) (by omega)
            have g_103 : Ty M_95 t9 n9 := Ty.frame g_92 (fun c j hcj => f_98 c j (by omega))
            refine g_aload_n (n := 94) hx 1 (dq tX10_term 45 rfl) rfl rfl ?_
            have e_104 : M_95 229 37 = M_80 229 37 := (f_98 229 37 (by omega))
            have e_105 : M_95 229 38 = M_80 229 38 := (f_98 229 38 (by omega))
            have e_106 : M_95 229 39 = M_80 229 39 := (f_98 229 39 (by omega))
            have e_107 : M_95 229 44 = M_80 229 44 := (f_98 229 44 (by omega))
            refine g_callVv (n := 97) (As := []) (rest := []) hx (ctX10_blanks3 Γ M_95 t9 n9 ((M_80 229 38).toNat) (by omega) g_103) mlX10_268 (obX10 (by decide)) (dq tX10_term 46 rfl) rfl (Nat.le_of_ble_eq_true rfl) (Nat.le_of_ble_eq_true rfl) (Nat.le_of_ble_eq_true rfl) rfl (fun M_109 p_111 => ?_)
            obtain ⟨f_112, h_113, h_114, h_115⟩ := p_111
            have g_116 : Kp M M_109 := Kp.frame g_101 (fun c j hcj => f_112 c j (by omega))
            have g_117 : Rd M_109 ua (ud + 1) un us := Rd.mv g_102 (fun c j hcj => f_112 c j (by omega)) (by have q39 := f_112 229 39 (by omega); omega)
            have g_118 : Ty M_109 t9 n9 := Ty.frame g_103 (fun c j hcj => f_112 c j (by omega))
            refine g_goto (n := 8) hx (dq tX10_term 47 rfl) (by decide) ?_
            have e_119 : M_109 229 37 = M_95 229 37 := (f_112 229 37 (by omega))
            have e_120 : M_109 229 39 = M_95 229 39 := (f_112 229 39 (by omega))
            have e_121 : M_109 229 44 = M_95 229 44 := (f_112 229 44 (by omega))
            refine g_lv [1] rfl ?_
            exact ih_29 _ (by omega) M_109 (fun u_ v_ huv_ => (((((f_112 u_ v_ huv_.1).trans (f_98 u_ v_ ⟨huv_.2.1, huv_.2.2.1, huv_.2.2.2.1⟩)).trans (f_83 u_ v_ ⟨huv_.1, huv_.2.2.2.2.1, huv_.2.2.2.1, huv_.2.2.2.2.2, huv_.2.1, huv_.2.2.1⟩)).trans (m_72 u_ v_ huv_.1)).trans (f_30 u_ v_ ⟨huv_.1, huv_.2.1, huv_.2.2.1, huv_.2.2.2.1, huv_.2.2.2.2.1, huv_.2.2.2.2.2⟩))) g_116 g_117 g_118 (by omega) (by omega) (ov_tb h_37 (by omega) (by omega) (by omega) (by omega) (by omega) (by omega) (ov_t0 h_89 (ov_pos (by omega)) (by omega) (by omega) (by omega))) (fun _ => by rw [show (M_109 229 38).toNat = sk t9 n9 ((M_80 229 38).toNat) by omega]; exact sk_sk _) (by omega) rfl
          refine g_icmp_ne (n := 51) (t := 56) hx (dq tX10_term 22 rfl) (by decide) rfl h_58 ⟨by decide, by decide⟩ (fun c_65 => ?_) (fun c_65 => ?_)
          · refine g_aload_n (n := 57) hx 0 (dq tX10_term 25 rfl) rfl rfl ?_
            refine g_callVi (n := 60) (As := []) (rest := []) hx (ctX10_sign3 Γ M_27 t9 n9 ((M_27 229 38).toNat) (by omega) g_33) mlX10_252 (obX10 (by decide)) (dq tX10_term 26 rfl) rfl (Nat.le_of_ble_eq_true rfl) (Nat.le_of_ble_eq_true rfl) (Nat.le_of_ble_eq_true rfl) rfl (fun z_122 M_123 h_124 p_125 => ?_)
            obtain ⟨rfl, h_127, h_128, h_129, h_130⟩ := p_125
            refine g_bipush (n := 62) hx (dq tX10_term 27 rfl) rfl (by decide) ?_
            refine g_icmp_ne (n := 65) (t := 70) hx (dq tX10_term 28 rfl) (by decide) rfl h_124 ⟨by decide, by decide⟩ (fun c_131 => ?_) (fun c_131 => ?_)
            · refine g_bipush (n := 72) hx (dq tX10_term 31 rfl) rfl (by decide) ?_
              exact J_67 15 (by omega) (by omega)
            · refine g_bipush (n := 67) hx (dq tX10_term 29 rfl) rfl (by decide) ?_
              refine g_goto (n := 72) hx (dq tX10_term 30 rfl) (by decide) ?_
              exact J_67 14 (by omega) (by omega)
          · refine g_bipush (n := 53) hx (dq tX10_term 23 rfl) rfl (by decide) ?_
            refine g_goto (n := 72) hx (dq tX10_term 24 rfl) (by decide) ?_
            exact J_67 13 (by omega) (by omega)
        refine g_icmp_eq (n := 24) (t := 42) hx (dq tX10_term 10 rfl) (by decide) rfl h_46 ⟨by decide, by decide⟩ (fun c_53 => ?_) (fun c_53 => ?_)
        · exact J_54 (by first | assumption | omega)
        · refine g_aload_n (n := 25) hx 0 (dq tX10_term 11 rfl) rfl rfl ?_
          refine g_callVi (n := 28) (As := []) (rest := []) hx (ctX10_sign3 Γ M_27 t9 n9 ((M_27 229 38).toNat) (by omega) g_33) mlX10_252 (obX10 (by decide)) (dq tX10_term 12 rfl) rfl (Nat.le_of_ble_eq_true rfl) (Nat.le_of_ble_eq_true rfl) (Nat.le_of_ble_eq_true rfl) rfl (fun z_132 M_133 h_134 p_135 => ?_)
          obtain ⟨rfl, h_137, h_138, h_139, h_140⟩ := p_135
          refine g_bipush (n := 30) hx (dq tX10_term 13 rfl) rfl (by decide) ?_
          refine g_icmp_eq (n := 33) (t := 42) hx (dq tX10_term 14 rfl) (by decide) rfl h_134 ⟨by decide, by decide⟩ (fun c_141 => ?_) (fun c_141 => ?_)
          · exact J_54 (by first | assumption | omega)
          · refine g_aload_n (n := 34) hx 0 (dq tX10_term 15 rfl) rfl rfl ?_
            refine g_callVi (n := 37) (As := []) (rest := []) hx (ctX10_sign3 Γ M_27 t9 n9 ((M_27 229 38).toNat) (by omega) g_33) mlX10_252 (obX10 (by decide)) (dq tX10_term 16 rfl) rfl (Nat.le_of_ble_eq_true rfl) (Nat.le_of_ble_eq_true rfl) (Nat.le_of_ble_eq_true rfl) rfl (fun z_142 M_143 h_144 p_145 => ?_)
            obtain ⟨rfl, h_147, h_148, h_149, h_150⟩ := p_145
            refine g_bipush (n := 39) hx (dq tX10_term 17 rfl) rfl (by decide) ?_
            refine g_icmp_ne (n := 42) (t := 100) hx (dq tX10_term 18 rfl) (by decide) rfl h_144 ⟨by decide, by decide⟩ (fun c_151 => ?_) (fun c_151 => ?_)
            · exact g_vret hx hr (dq tX10_term 48 rfl) ⟨(fun u_ v_ huv_ => (((f_30 u_ v_ ⟨huv_.1, huv_.2.2.2.2.1, huv_.2.2.2.2.2, huv_.2.2.1, huv_.2.1, huv_.2.2.2.1⟩).trans (f_20 u_ v_ huv_.1)).trans (f_5 u_ v_ ⟨huv_.1, huv_.2.1, huv_.2.2.1, huv_.2.2.2.1, huv_.2.2.2.2.1, huv_.2.2.2.2.2⟩))), (Rd.to g_32 (by omega) (by omega) (by omega)), g_31, (by omega), (by omega), (by omega), (by omega), h_37⟩
            · exact J_54 (by first | assumption | omega)
  have e_152 : M_17 229 37 = M_2 229 37 := (f_20 229 37 (by omega))
  have e_153 : M_17 229 39 = M_2 229 39 := (f_20 229 39 (by omega))
  have e_154 : M_17 229 44 = M_2 229 44 := (f_20 229 44 (by omega))
  exact L_28 _ M_17 (fun _ _ _ => rfl) g_24 g_25 g_26 (by omega) (by omega) (ov_t0 h_11 (ov_pos (by omega)) (by omega) (by omega) (by omega)) (fun _ => by rw [show (M_17 229 38).toNat = sk t9 n9 ((M_2 229 38).toNat) by omega]; exact sk_sk _) (by omega) rfl
