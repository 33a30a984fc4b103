abbrev qctX10_compared3 (M : zM) (ua : Int) (ud : Int) (un : Int) (us : Int) (t9 : Nat → Int) (n9 : Nat) (a9 : Nat) (M' : zM) : Prop := (∀ u_ v_, (u_ ≠ 229 ∨ v_ ≠ 38) ∧ (u_ ≠ 229 ∨ v_ ≠ 39) ∧ (u_ ≠ 229 ∨ v_ ≠ 42) ∧ (u_ ≠ 229 ∨ v_ ≠ 44) ∧ u_ ≠ 229 + 38 ∧ u_ ≠ 229 + 39 → M' u_ v_ = M u_ v_) ∧ (Rd M' ua (ud + 1) un us) ∧ (Kp M M') ∧ (M 229 38 ≤ M' 229 38) ∧ (M' 229 38 = M 229 38 ∨ M' 229 38 ≤ M 229 37) ∧ (M' 229 39 = 0 → (M 229 39 = 0 ∧ M 229 44 ≤ M' 229 44)) ∧ (M' 229 39 = 0 → sk t9 n9 (M' 229 38).toNat = (M' 229 38).toNat) ∧ (ovN t9 n9 (M' 229 38).toNat (M' 229 39) (M' 229 44) = bd (ovN t9 n9 a9 (M 229 39) (M 229 44)) (Cg t9 n9))
set_option maxHeartbeats 4000000 in
set_option maxRecDepth 100000 in
theorem ctX10_compared3 (Γ : Gam) (M : zM) (ua : Int) (ud : Int) (un : Int) (us : Int) (t9 : Nat → Int) (n9 : Nat) (a9 : Nat) (pre0 : 0 ≤ us) (pre1 : 0 ≤ ud) (pre2 : M 229 38 = a9) (pre3 : M 229 39 = 0 → 0 ≤ M 229 44) (ex0 : Rd M ua ud un us) (ex1 : Ty M t9 n9) : CtV Γ yX10_compared cX10_compared 3 none 8 173 [aR Γ 229] M (qctX10_compared3 M ua ud un us t9 n9 a9) := by
  refine met_v (by decide) (Nat.le_of_ble_eq_true rfl) (fun x hx hr => ?_)
  show G Γ x 3 (QV Γ x (qctX10_compared3 M ua ud un us t9 n9 a9)) M 0 [(0, aR Γ 229)] []
  refine g_iv (fun hI0 => ?_)
  have hI_37 : (0 : Int) ≤ M 229 37 ∧ M 229 37 ≤ 400 := hI0 229 37
  have hI_38 : (0 : Int) ≤ M 229 38 ∧ M 229 38 ≤ 402 := hI0 229 38
  have hI_45 : (0 : Int) ≤ M 229 45 ∧ M 229 45 ≤ 402 := hI0 229 45
  have hI_42 : (0 : Int) ≤ M 229 42 ∧ M 229 42 ≤ 300 := hI0 229 42
  have hI_39 : (0 : Int) ≤ M 229 39 ∧ M 229 39 ≤ 100000 := hI0 229 39
  have hI_40 : (0 : Int) ≤ M 229 40 ∧ M 229 40 ≤ 5 := hI0 229 40
  have hI_41 : (0 : Int) ≤ M 229 41 ∧ M 229 41 ≤ 6 := hI0 229 41
  clear hI0
  have hty_n := ex1.1
  have hn60 : M 229 39 = 0 → M 229 44 ≤ 60 := fun q => (Rd.nums ex0 q).2.1
  refine g_aload_n (n := 1) hx 0 (dq tX10_compared 0 rfl) rfl rfl ?_
  refine g_callVv (n := 4) (As := []) (rest := []) hx (ctX10_sum3 Γ M ua ud un us t9 n9 a9 (by omega) (by omega) (by omega) (by omega) ex0 ex1) mlX10_312 (obX10 (by decide)) (dq tX10_compared 1 rfl) rfl (Nat.le_of_ble_eq_true rfl) (Nat.le_of_ble_eq_true rfl) (Nat.le_of_ble_eq_true rfl) rfl (fun M_2 p_4 => ?_)
  obtain ⟨f_5, h_6, h_7, h_8, h_9, h_10, h_11, h_12⟩ := p_4
  have g_13 := Kp.trans Kp.refl h_7
  have g_14 : Rd M_2 ua (ud + 1) un us := Rd.to h_6 (by omega) (by omega) (by omega)
  have g_15 : Ty M_2 t9 n9 := Ty.frame ex1 (fun c j hcj => f_5 c j (by omega))
  refine g_aload_n (n := 5) hx 0 (dq tX10_compared 2 rfl) rfl rfl ?_
  have e_16 : M_2 229 37 = M 229 37 := (f_5 229 37 (by omega))
  refine g_callVi (n := 8) (As := []) (rest := []) hx (ctX10_sign3 Γ M_2 t9 n9 ((M_2 229 38).toNat) (by omega) g_15) mlX10_252 (obX10 (by decide)) (dq tX10_compared 3 rfl) rfl (Nat.le_of_ble_eq_true rfl) (Nat.le_of_ble_eq_true rfl) (Nat.le_of_ble_eq_true rfl) rfl (fun z_17 M_18 h_19 p_20 => ?_)
  obtain ⟨rfl, h_22, h_23, h_24, h_25⟩ := p_20
  refine g_istore_n (n := 9) (lv' := [(1, vI z_17), (0, aR Γ 229)]) hx (dq tX10_compared 4 rfl) (by decide) rfl rfl ?_
  have hs61 : fst9 t9 n9 ((M_2 229 38).toNat) = 61 → stp t9 n9 ((M_2 229 38).toNat) = (M_2 229 38).toNat + 1 := fun h => (stp_op1 (by omega)).1
  have hs60 : (fst9 t9 n9 ((M_2 229 38).toNat) = 60 ∨ fst9 t9 n9 ((M_2 229 38).toNat) = 62) → ((fst9 t9 n9 ((M_2 229 38).toNat + 1) = 61 → stp t9 n9 ((M_2 229 38).toNat) = (M_2 229 38).toNat + 2) ∧ (fst9 t9 n9 ((M_2 229 38).toNat + 1) ≠ 61 → stp t9 n9 ((M_2 229 38).toNat) = (M_2 229 38).toNat + 1)) := fun h => ⟨(stp_ang2 h).1, (stp_ang2 h).2.1⟩
  have hsle : (fst9 t9 n9 ((M_2 229 38).toNat) = 60 ∨ fst9 t9 n9 ((M_2 229 38).toNat) = 61 ∨ fst9 t9 n9 ((M_2 229 38).toNat) = 62) → stp t9 n9 ((M_2 229 38).toNat) ≤ n9 := fun h => (stp_rg (t := t9) (fst_in (t := t9) (n := n9) (a := ((M_2 229 38).toNat)) (by omega)).1).2
  have hn6b : M_2 229 39 = 0 → M_2 229 44 ≤ 60 := fun q => (Rd.nums g_14 q).2.1
  refine g_iload_n (n := 10) hx 0 (dq tX10_compared 5 rfl) rfl rfl ?_
  refine g_bipush (n := 12) hx (dq tX10_compared 6 rfl) rfl (by decide) ?_
  have J_27 :  ((fst9 t9 n9 ((M_2 229 38).toNat) = 60 ∨ fst9 t9 n9 ((M_2 229 38).toNat) = 61 ∨ fst9 t9 n9 ((M_2 229 38).toNat) = 62)) → G Γ x 3 (QV Γ x (qctX10_compared3 M ua ud un us t9 n9 a9)) M_2 37 [(1, vI z_17), (0, aR Γ 229)] [] := by
    intro h_28
    refine g_aload_n (n := 38) hx 1 (dq tX10_compared 20 rfl) rfl rfl ?_
    refine g_aload_n (n := 39) hx 1 (dq tX10_compared 21 rfl) rfl rfl ?_
    refine g_getI (n := 42) hx glX10_249 (sX10_38 (by decide)) (dq tX10_compared 22 rfl) rfl (fun h_29l h_29u => ?_)
    refine g_callVv (n := 45) (As := [vI (M_2 229 38)]) (rest := []) hx (ctX10_isCounted3 Γ M_2 (M_2 229 38) (by omega) (by omega) ua (ud + 1) un us g_14) mlX10_296 (obX10 (by decide)) (dq tX10_compared 23 rfl) rfl (Nat.le_of_ble_eq_true rfl) (Nat.le_of_ble_eq_true rfl) (Nat.le_of_ble_eq_true rfl) rfl (fun M_31 p_33 => ?_)
    obtain ⟨f_34, h_35, h_36, h_37, h_38, h_39⟩ := p_33
    have g_40 : Kp M M_31 := Kp.frame g_13 (fun c j hcj => f_34 c j (by omega))
    have g_41 : Rd M_31 ua (ud + 1) un (us + 6) := Rd.to h_35 (by omega) (by omega) (by omega)
    have g_42 : Ty M_31 t9 n9 := Ty.frame g_15 (fun c j hcj => f_34 c j (by omega))
    refine g_aload_n (n := 46) hx 1 (dq tX10_compared 24 rfl) rfl rfl ?_
    refine g_dup (n := 47) hx (dq tX10_compared 25 rfl) rfl rfl ?_
    refine g_getI (n := 50) hx glX10_249 (sX10_38 (by decide)) (dq tX10_compared 26 rfl) rfl (fun h_43l h_43u => ?_)
    have e_44 : M_31 229 38 = M_2 229 38 := (f_34 229 38 (by omega))
    refine g_iconst (n := 51) hx (dq tX10_compared 27 rfl) rfl ?_
    refine g_iadd (n := 52) hx (dq tX10_compared 28 rfl) rfl ?_
    have e_45 : M_31 229 37 = M_2 229 37 := (f_34 229 37 (by omega))
    refine g_putI (n := 55) hx plX10_249 (sX10_38 (by decide)) (dq tX10_compared 29 rfl) rfl (by omega) (by omega) (fun M_46 m_47e m_47 => ?_)
    have g_48 : Kp M M_46 := Kp.frame g_40 (fun c j hcj => m_47 c j (by omega))
    have g_49 : Rd M_46 ua (ud + 1) un (us + 6) := Rd.mv g_41 (fun c j hcj => m_47 c j (by omega)) (by have q39 := m_47 229 39 (by omega); omega)
    have g_50 : Ty M_46 t9 n9 := Ty.frame g_42 (fun c j hcj => m_47 c j (by omega))
    refine g_iload_n (n := 56) hx 0 (dq tX10_compared 30 rfl) rfl rfl ?_
    refine g_bipush (n := 58) hx (dq tX10_compared 31 rfl) rfl (by decide) ?_
    have J_53 : ∀ (j_52 : Int),  (0 ≤ j_52) → (j_52 ≤ 1) → (stp t9 n9 ((M_2 229 38).toNat) = (M_2 229 38).toNat + 1 + j_52) → G Γ x 3 (QV Γ x (qctX10_compared3 M ua ud un us t9 n9 a9)) M_46 75 [(1, vI z_17), (0, aR Γ 229)] [vI j_52] := by
      intro j_52 h_54 h_55 h_56
      refine g_istore_n (n := 76) (lv' := [(2, vI j_52), (1, vI z_17), (0, aR Γ 229)]) hx (dq tX10_compared 40 rfl) (by decide) rfl rfl ?_
      refine g_aload_n (n := 77) hx 2 (dq tX10_compared 41 rfl) rfl rfl ?_
      refine g_dup (n := 78) hx (dq tX10_compared 42 rfl) rfl rfl ?_
      refine g_getI (n := 81) hx glX10_249 (sX10_38 (by decide)) (dq tX10_compared 43 rfl) rfl (fun h_57l h_57u => ?_)
      refine g_iload_n (n := 82) hx 0 (dq tX10_compared 44 rfl) rfl rfl ?_
      have J_60 : ∀ (j_59 : Int),  (0 ≤ j_59) → (j_59 ≤ 1) → (stp t9 n9 ((M_2 229 38).toNat) = (M_2 229 38).toNat + 1 + j_59) → G Γ x 3 (QV Γ x (qctX10_compared3 M ua ud un us t9 n9 a9)) M_46 90 [(2, vI j_52), (1, vI z_17), (0, aR Γ 229)] [vI j_59, vI (M_46 229 38), aR Γ 229] := by
        intro j_59 h_61 h_62 h_63
        refine g_iadd (n := 91) hx (dq tX10_compared 49 rfl) rfl ?_
        have e_64 : M_46 229 37 = M_31 229 37 := (m_47 229 37 (by omega))
        have e_65 : M_46 229 39 = M_31 229 39 := (m_47 229 39 (by omega))
        have e_66 : M_46 229 44 = M_31 229 44 := (m_47 229 44 (by omega))
        refine g_putI (n := 94) hx plX10_249 (sX10_38 (by decide)) (dq tX10_compared 50 rfl) rfl (by omega) (by omega) (fun M_67 m_68e m_68 => ?_)
        have g_69 : Kp M M_67 := Kp.frame g_48 (fun c j hcj => m_68 c j (by omega))
        have g_70 : Rd M_67 ua (ud + 1) un (us + 6) := Rd.mv g_49 (fun c j hcj => m_68 c j (by omega)) (by have q39 := m_68 229 39 (by omega); omega)
        have g_71 : Ty M_67 t9 n9 := Ty.frame g_50 (fun c j hcj => m_68 c j (by omega))
        refine g_aload_n (n := 95) hx 2 (dq tX10_compared 51 rfl) rfl rfl ?_
        have e_72 : M_67 229 37 = M_46 229 37 := (m_68 229 37 (by omega))
        have e_73 : M_67 229 39 = M_46 229 39 := (m_68 229 39 (by omega))
        have e_74 : M_67 229 44 = M_46 229 44 := (m_68 229 44 (by omega))
        refine g_callVv (n := 98) (As := []) (rest := []) hx (ctX10_sum3 Γ M_67 ua (ud + 1) un (us + 6) t9 n9 ((M_67 229 38).toNat) (by omega) (by omega) (by omega) (by omega) g_70 g_71) mlX10_312 (obX10 (by decide)) (dq tX10_compared 52 rfl) rfl (Nat.le_of_ble_eq_true rfl) (Nat.le_of_ble_eq_true rfl) (Nat.le_of_ble_eq_true rfl) rfl (fun M_76 p_78 => ?_)
        obtain ⟨f_79, h_80, h_81, h_82, h_83, h_84, h_85, h_86⟩ := p_78
        have g_87 := Kp.trans g_69 h_81
        have g_88 : Rd M_76 ua (ud + 2) un (us + 6) := Rd.to h_80 (by omega) (by omega) (by omega)
        have g_89 : Ty M_76 t9 n9 := Ty.frame g_71 (fun c j hcj => f_79 c j (by omega))
        refine g_aload_n (n := 99) hx 2 (dq tX10_compared 53 rfl) rfl rfl ?_
        refine g_iload_n (n := 100) hx 1 (dq tX10_compared 54 rfl) rfl rfl ?_
        refine g_bipush (n := 102) hx (dq tX10_compared 55 rfl) rfl (by decide) ?_
        have J_92 : ∀ (j_91 : Int),  (4 ≤ j_91) → (j_91 ≤ 8) → G Γ x 3 (QV Γ x (qctX10_compared3 M ua ud un us t9 n9 a9)) M_76 139 [(2, vI j_52), (1, vI z_17), (0, aR Γ 229)] [vI j_91, aR Γ 229] := by
          intro j_91 h_93 h_94
          refine g_iconst (n := 140) hx (dq tX10_compared 73 rfl) rfl ?_
          have e_95 : M_76 229 37 = M_67 229 37 := (f_79 229 37 (by omega))
          refine g_callVv (n := 143) (As := [vI j_91, vI 0]) (rest := []) hx (ctX10_entry2 Γ M_76 j_91 (by omega) (by omega) 0 (by decide) (by decide) ua (ud + 2) un (us + 6) (by omega) (by omega) (by omega) g_88) mlX10_299 (obX10 (by decide)) (dq tX10_compared 74 rfl) rfl (Nat.le_of_ble_eq_true rfl) (Nat.le_of_ble_eq_true rfl) (Nat.le_of_ble_eq_true rfl) rfl (fun M_97 p_99 => ?_)
          obtain ⟨f_100, h_101, h_102⟩ := p_99
          have g_103 := Kp.trans g_87 h_102
          have g_104 : Rd M_97 ua (ud + 1) un (us + 6) := Rd.to h_101 (by omega) (by omega) (by omega)
          have g_105 : Ty M_97 t9 n9 := Ty.frame g_89 (fun c j hcj => f_100 c j (by omega))
          have e_106 : M_97 229 37 = M_76 229 37 := (f_100 229 37 (by omega))
          have e_107 : M_97 229 38 = M_76 229 38 := (f_100 229 38 (by omega))
          have e_108 : M_97 229 39 = M_76 229 39 := (f_100 229 39 (by omega))
          have e_109 : M_97 229 44 = M_76 229 44 := (f_100 229 44 (by omega))
          exact g_vret hx hr (dq tX10_compared 75 rfl) ⟨(fun u_ v_ huv_ => ((((((f_100 u_ v_ ⟨huv_.2.2.2.2.1, huv_.2.2.2.2.2, huv_.2.2.1⟩).trans (f_79 u_ v_ ⟨huv_.1, huv_.2.1, huv_.2.2.1, huv_.2.2.2.1, huv_.2.2.2.2.1, huv_.2.2.2.2.2⟩)).trans (m_68 u_ v_ huv_.1)).trans (m_47 u_ v_ huv_.1)).trans (f_34 u_ v_ ⟨huv_.2.1, huv_.2.2.2.1⟩)).trans (f_5 u_ v_ ⟨huv_.1, huv_.2.1, huv_.2.2.1, huv_.2.2.2.1, huv_.2.2.2.2.1, huv_.2.2.2.2.2⟩))), (Rd.to g_104 (by omega) (by omega) (by omega)), g_103, (by omega), (by omega), (by omega), (fun h0 => by rw [show (M_97 229 38).toNat = (M_76 229 38).toNat by omega]; exact h_85 (by omega)), (ov_c1 h_12 (by omega) (by omega) (by omega) (by omega) (by omega) (ov_mve h_86 (by omega) (by omega) (by omega)))⟩
        refine g_icmp_ne (n := 105) (t := 110) hx (dq tX10_compared 56 rfl) (by decide) rfl h_19 ⟨by decide, by decide⟩ (fun c_90 => ?_) (fun c_90 => ?_)
        · refine g_iload_n (n := 111) hx 1 (dq tX10_compared 59 rfl) rfl rfl ?_
          refine g_bipush (n := 113) hx (dq tX10_compared 60 rfl) rfl (by decide) ?_
          refine g_icmp_ne (n := 116) (t := 128) hx (dq tX10_compared 61 rfl) (by decide) rfl h_19 ⟨by decide, by decide⟩ (fun c_110 => ?_) (fun c_110 => ?_)
          · refine g_iload_n (n := 129) hx 0 (dq tX10_compared 68 rfl) rfl rfl ?_
            refine g_if_eq (n := 132) (t := 137) hx (dq tX10_compared 69 rfl) (by decide) rfl ⟨by omega, by omega⟩ (fun c_111 => ?_) (fun c_111 => ?_)
            · refine g_bipush (n := 139) hx (dq tX10_compared 72 rfl) rfl (by decide) ?_
              exact J_92 8 (by omega) (by omega)
            · refine g_bipush (n := 134) hx (dq tX10_compared 70 rfl) rfl (by decide) ?_
              refine g_goto (n := 139) hx (dq tX10_compared 71 rfl) (by decide) ?_
              exact J_92 7 (by omega) (by omega)
          · refine g_iload_n (n := 117) hx 0 (dq tX10_compared 62 rfl) rfl rfl ?_
            refine g_if_eq (n := 120) (t := 124) hx (dq tX10_compared 63 rfl) (by decide) rfl ⟨by omega, by omega⟩ (fun c_112 => ?_) (fun c_112 => ?_)
            · refine g_iconst (n := 125) hx (dq tX10_compared 66 rfl) rfl ?_
              refine g_goto (n := 139) hx (dq tX10_compared 67 rfl) (by decide) ?_
              exact J_92 4 (by omega) (by omega)
            · refine g_iconst (n := 121) hx (dq tX10_compared 64 rfl) rfl ?_
              refine g_goto (n := 139) hx (dq tX10_compared 65 rfl) (by decide) ?_
              exact J_92 5 (by omega) (by omega)
        · refine g_bipush (n := 107) hx (dq tX10_compared 57 rfl) rfl (by decide) ?_
          refine g_goto (n := 139) hx (dq tX10_compared 58 rfl) (by decide) ?_
          exact J_92 6 (by omega) (by omega)
      refine g_if_eq (n := 85) (t := 89) hx (dq tX10_compared 45 rfl) (by decide) rfl ⟨by omega, by omega⟩ (fun c_58 => ?_) (fun c_58 => ?_)
      · refine g_iconst (n := 90) hx (dq tX10_compared 48 rfl) rfl ?_
        exact J_60 0 (by omega) (by omega) (by first | assumption | omega)
      · refine g_iconst (n := 86) hx (dq tX10_compared 46 rfl) rfl ?_
        refine g_goto (n := 90) hx (dq tX10_compared 47 rfl) (by decide) ?_
        exact J_60 1 (by omega) (by omega) (by first | assumption | omega)
    refine g_icmp_eq (n := 61) (t := 74) hx (dq tX10_compared 32 rfl) (by decide) rfl h_19 ⟨by decide, by decide⟩ (fun c_51 => ?_) (fun c_51 => ?_)
    · refine g_iconst (n := 75) hx (dq tX10_compared 39 rfl) rfl ?_
      exact J_53 0 (by omega) (by omega) (by first | assumption | omega)
    · refine g_aload_n (n := 62) hx 1 (dq tX10_compared 33 rfl) rfl rfl ?_
      have e_113 : M_46 229 37 = M_31 229 37 := (m_47 229 37 (by omega))
      have e_114 : M_46 229 39 = M_31 229 39 := (m_47 229 39 (by omega))
      have e_115 : M_46 229 44 = M_31 229 44 := (m_47 229 44 (by omega))
      refine g_callVi (n := 65) (As := []) (rest := []) hx (ctX10_sign3 Γ M_46 t9 n9 ((M_2 229 38).toNat + 1) (by omega) g_50) mlX10_252 (obX10 (by decide)) (dq tX10_compared 34 rfl) rfl (Nat.le_of_ble_eq_true rfl) (Nat.le_of_ble_eq_true rfl) (Nat.le_of_ble_eq_true rfl) rfl (fun z_116 M_117 h_118 p_119 => ?_)
      obtain ⟨rfl, h_121, h_122, h_123, h_124⟩ := p_119
      refine g_bipush (n := 67) hx (dq tX10_compared 35 rfl) rfl (by decide) ?_
      refine g_icmp_ne (n := 70) (t := 74) hx (dq tX10_compared 36 rfl) (by decide) rfl h_118 ⟨by decide, by decide⟩ (fun c_125 => ?_) (fun c_125 => ?_)
      · refine g_iconst (n := 75) hx (dq tX10_compared 39 rfl) rfl ?_
        exact J_53 0 (by omega) (by omega) (by first | assumption | omega)
      · refine g_iconst (n := 71) hx (dq tX10_compared 37 rfl) rfl ?_
        refine g_goto (n := 75) hx (dq tX10_compared 38 rfl) (by decide) ?_
        exact J_53 1 (by omega) (by omega) (by first | assumption | omega)
  refine g_icmp_eq (n := 15) (t := 37) hx (dq tX10_compared 7 rfl) (by decide) rfl h_19 ⟨by decide, by decide⟩ (fun c_26 => ?_) (fun c_26 => ?_)
  · exact J_27 (by first | assumption | omega)
  · refine g_iload_n (n := 16) hx 0 (dq tX10_compared 8 rfl) rfl rfl ?_
    refine g_bipush (n := 18) hx (dq tX10_compared 9 rfl) rfl (by decide) ?_
    refine g_icmp_eq (n := 21) (t := 37) hx (dq tX10_compared 10 rfl) (by decide) rfl h_19 ⟨by decide, by decide⟩ (fun c_126 => ?_) (fun c_126 => ?_)
    · exact J_27 (by first | assumption | omega)
    · refine g_iload_n (n := 22) hx 0 (dq tX10_compared 11 rfl) rfl rfl ?_
      refine g_bipush (n := 24) hx (dq tX10_compared 12 rfl) rfl (by decide) ?_
      refine g_icmp_eq (n := 27) (t := 37) hx (dq tX10_compared 13 rfl) (by decide) rfl h_19 ⟨by decide, by decide⟩ (fun c_127 => ?_) (fun c_127 => ?_)
      · exact J_27 (by first | assumption | omega)
      · refine g_aload_n (n := 28) hx 1 (dq tX10_compared 14 rfl) rfl rfl ?_
        refine g_iconst (n := 29) hx (dq tX10_compared 15 rfl) rfl ?_
        refine g_aload_n (n := 30) hx 1 (dq tX10_compared 16 rfl) rfl rfl ?_
        refine g_getI (n := 33) hx glX10_249 (sX10_38 (by decide)) (dq tX10_compared 17 rfl) rfl (fun h_128l h_128u => ?_)
        refine g_callVv (n := 36) (As := [vI 0, vI (M_2 229 38)]) (rest := []) hx (ctX10_fails3 Γ M_2 0 (by decide) (by decide) (M_2 229 38) (by omega) (by omega)) mlX10_284 (obX10 (by decide)) (dq tX10_compared 18 rfl) rfl (Nat.le_of_ble_eq_true rfl) (Nat.le_of_ble_eq_true rfl) (Nat.le_of_ble_eq_true rfl) rfl (fun M_130 p_132 => ?_)
        obtain ⟨f_133, h_134, h_135⟩ := p_132
        have g_136 : Kp M M_130 := Kp.frame g_13 (fun c j hcj => f_133 c j (by omega))
        have g_138 : Ty M_130 t9 n9 := Ty.frame g_15 (fun c j hcj => f_133 c j (by omega))
        have e_139 : M_130 229 37 = M_2 229 37 := (f_133 229 37 (by omega))
        have e_140 : M_130 229 38 = M_2 229 38 := (f_133 229 38 (by omega))
        have e_141 : M_130 229 44 = M_2 229 44 := (f_133 229 44 (by omega))
        exact g_vret hx hr (dq tX10_compared 19 rfl) ⟨(fun u_ v_ huv_ => ((f_133 u_ v_ huv_.2.1).trans (f_5 u_ v_ ⟨huv_.1, huv_.2.1, huv_.2.2.1, huv_.2.2.2.1, huv_.2.2.2.2.1, huv_.2.2.2.2.2⟩))), (Rd.vac (by omega)), g_136, (by omega), (by omega), (by omega), (fun h0 => absurd h0 (by omega)), (ov_c0 h_12 (by omega) (by omega) (by omega) (by omega))⟩
