abbrev qctX10_riverClause3 (M : zM) (n : Int) (t9 : Nat → Int) (n9 : Nat) (a9 : Nat) (M' : zM) : Prop := (∀ u_ v_, (u_ ≠ 229 ∨ v_ ≠ 38) ∧ (u_ ≠ 229 ∨ v_ ≠ 39) ∧ (u_ ≠ 229 ∨ v_ ≠ 47) ∧ (u_ < 229 + 29 ∨ 229 + 37 ≤ u_) → M' u_ v_ = M u_ v_) ∧ Nw M' ∧ (M 229 38 ≤ M' 229 38) ∧ (M' 229 38 ≤ M 229 37) ∧ (n = 40 → M' 229 39 ≠ 0) ∧ (oar (M' 229 39) (sk t9 n9 (M' 229 38).toNat) (sr M') = Rq9 t9 n9 n (sk t9 n9 a9, sr M))
set_option maxHeartbeats 4000000 in
set_option maxRecDepth 100000 in
theorem ctX10_riverClause3 (Γ : Gam) (M : zM) (n : Int) (hnl : 0 ≤ n) (hnu : n ≤ 402) (t9 : Nat → Int) (n9 : Nat) (a9 : Nat) (pre0 : M 229 39 = 0) (pre1 : M 229 38 ≤ M 229 37) (pre2 : M 229 38 = a9) (ex0 : Ty M t9 n9) (nw : Nw M) : CtV Γ yX10_riverClause cX10_riverClause 4 none 6 136 [aR Γ 229, vI n] M (qctX10_riverClause3 M n t9 n9 a9) := by
  refine met_v (by decide) (Nat.le_of_ble_eq_true rfl) (fun x hx hr => ?_)
  show G Γ x 4 (QV Γ x (qctX10_riverClause3 M n t9 n9 a9)) M 0 [(0, aR Γ 229), (1, vI n)] []
  refine g_iv (fun hI0 => ?_)
  have hI_37 : (0 : Int) ≤ M 229 37 ∧ M 229 37 ≤ 400 := hI0 229 37
  have hI_38 : (0 : Int) ≤ M 229 38 ∧ M 229 38 ≤ 402 := hI0 229 38
  have hI_45 : (0 : Int) ≤ M 229 45 ∧ M 229 45 ≤ 402 := hI0 229 45
  have hI_42 : (0 : Int) ≤ M 229 42 ∧ M 229 42 ≤ 300 := hI0 229 42
  have hI_39 : (0 : Int) ≤ M 229 39 ∧ M 229 39 ≤ 100000 := hI0 229 39
  have hI_40 : (0 : Int) ≤ M 229 40 ∧ M 229 40 ≤ 5 := hI0 229 40
  have hI_41 : (0 : Int) ≤ M 229 41 ∧ M 229 41 ≤ 6 := hI0 229 41
  clear hI0
  have hty_n := ex0.1
  refine g_aload_n (n := 1) hx 0 (dq tX10_riverClause 0 rfl) rfl rfl ?_
  refine g_callVv (n := 4) (As := []) (rest := []) hx (ctX10_blanks3 Γ M t9 n9 a9 (by omega) ex0) mlX10_268 (obX10 (by decide)) (dq tX10_riverClause 1 rfl) rfl (Nat.le_of_ble_eq_true rfl) (Nat.le_of_ble_eq_true rfl) (Nat.le_of_ble_eq_true rfl) rfl (fun M_2 p_4 => ?_)
  obtain ⟨f_5, h_6, h_7, h_8⟩ := p_4
  have g_9 : Nw M_2 := Nw.gen nw (by have q39 := f_5 229 39 (by omega); omega) (fun j hj => f_5 _ j (by omega)) (fun v hv => f_5 _ v (by omega)) (fun l hl => f_5 _ l (by omega)) (fun l hl => f_5 _ l (by omega))
  have g_10 : Ty M_2 t9 n9 := Ty.frame ex0 (fun c j hcj => f_5 c j (by omega))
  refine g_aload_n (n := 5) hx 0 (dq tX10_riverClause 2 rfl) rfl rfl ?_
  refine g_getI (n := 8) hx glX10_249 (sX10_38 (by decide)) (dq tX10_riverClause 3 rfl) rfl (fun h_11l h_11u => ?_)
  refine g_istore_n (n := 9) (lv' := [(2, vI (M_2 229 38)), (0, aR Γ 229), (1, vI n)]) hx (dq tX10_riverClause 4 rfl) (by decide) rfl rfl ?_
  refine g_iconst (n := 10) hx (dq tX10_riverClause 5 rfl) rfl ?_
  refine g_istore_n (n := 11) (lv' := [(3, vI 0), (2, vI (M_2 229 38)), (0, aR Γ 229), (1, vI n)]) hx (dq tX10_riverClause 6 rfl) (by decide) rfl rfl ?_
  have L_13 : ∀ (n_ : Nat) (i_12 : Int), (0 ≤ i_12) → (i_12 ≤ 6) → (NW t9 n9 (sk t9 n9 a9) wRiv i_12) → ((6 - i_12).toNat = n_) → G Γ x 4 (QV Γ x (qctX10_riverClause3 M n t9 n9 a9)) M_2 11 [(3, vI i_12), (2, vI (M_2 229 38)), (0, aR Γ 229), (1, vI n)] [] := by
    intro n_
    induction n_ using Nat.strongRecOn with
    | _ n_ ih_14 =>
      intro i_12 h_18 h_19 h_17 hm_16
      refine g_iload_n (n := 12) hx 0 (dq tX10_riverClause 7 rfl) rfl rfl ?_
      refine g_bipush (n := 14) hx (dq tX10_riverClause 8 rfl) rfl (by decide) ?_
      refine g_icmp_ge (n := 17) (t := 34) hx (dq tX10_riverClause 9 rfl) (by decide) rfl ⟨by omega, by omega⟩ ⟨by decide, by decide⟩ (fun c_20 => ?_) (fun c_20 => ?_)
      · refine g_iload_n (n := 35) hx 0 (dq tX10_riverClause 17 rfl) rfl rfl ?_
        refine g_bipush (n := 37) hx (dq tX10_riverClause 18 rfl) rfl (by decide) ?_
        refine g_icmp_ne (n := 40) (t := 47) hx (dq tX10_riverClause 19 rfl) (by decide) rfl ⟨by omega, by omega⟩ ⟨by decide, by decide⟩ (fun c_21 => ?_) (fun c_21 => ?_)
        · omega
        · refine g_aload_n (n := 41) hx 2 (dq tX10_riverClause 20 rfl) rfl rfl ?_
          refine g_iconst (n := 42) hx (dq tX10_riverClause 21 rfl) rfl ?_
          refine g_iload_n (n := 43) hx 1 (dq tX10_riverClause 22 rfl) rfl rfl ?_
          have e_22 : M_2 229 37 = M 229 37 := (f_5 229 37 (by omega))
          have e_23 : M_2 229 39 = M 229 39 := (f_5 229 39 (by omega))
          have e_24 : M_2 (229 + 29) 0 = M (229 + 29) 0 := (f_5 (229 + 29) 0 (by omega))
          have e_25 : M_2 (229 + 29) 1 = M (229 + 29) 1 := (f_5 (229 + 29) 1 (by omega))
          have e_26 : M_2 (229 + 29) 2 = M (229 + 29) 2 := (f_5 (229 + 29) 2 (by omega))
          have e_27 : M_2 (229 + 29) 3 = M (229 + 29) 3 := (f_5 (229 + 29) 3 (by omega))
          have e_28 : M_2 229 47 = M 229 47 := (f_5 229 47 (by omega))
          refine g_callVv (n := 46) (As := [vI 0, vI (M_2 229 38)]) (rest := []) hx (ctX10_fails3 Γ M_2 0 (by decide) (by decide) (M_2 229 38) (by omega) (by omega)) mlX10_284 (obX10 (by decide)) (dq tX10_riverClause 23 rfl) rfl (Nat.le_of_ble_eq_true rfl) (Nat.le_of_ble_eq_true rfl) (Nat.le_of_ble_eq_true rfl) rfl (fun M_30 p_32 => ?_)
          obtain ⟨f_33, h_34, h_35⟩ := p_32
          have g_36 : Nw M_30 := Nw.vac (by omega)
          have g_37 : Ty M_30 t9 n9 := Ty.frame g_10 (fun c j hcj => f_33 c j (by omega))
          have e_38 : M_30 229 37 = M_2 229 37 := (f_33 229 37 (by omega))
          have e_39 : M_30 229 38 = M_2 229 38 := (f_33 229 38 (by omega))
          have e_40 : M_30 (229 + 29) 0 = M_2 (229 + 29) 0 := (f_33 (229 + 29) 0 (by omega))
          have e_41 : M_30 (229 + 29) 1 = M_2 (229 + 29) 1 := (f_33 (229 + 29) 1 (by omega))
          have e_42 : M_30 (229 + 29) 2 = M_2 (229 + 29) 2 := (f_33 (229 + 29) 2 (by omega))
          have e_43 : M_30 (229 + 29) 3 = M_2 (229 + 29) 3 := (f_33 (229 + 29) 3 (by omega))
          have e_44 : M_30 229 47 = M_2 229 47 := (f_33 229 47 (by omega))
          exact g_vret hx hr (dq tX10_riverClause 24 rfl) ⟨(fun u_ v_ huv_ => ((f_33 u_ v_ (by omega)).trans (f_5 u_ v_ (by omega)))), g_36, (by omega), (by omega), (by omega), (oar_k (a := sk t9 n9 a9) (NW.no h_17 (by have w1 := wRiv_len; omega)) (by omega))⟩
      · refine g_aload_n (n := 18) hx 2 (dq tX10_riverClause 10 rfl) rfl rfl ?_
        refine g_iload_n (n := 19) hx 0 (dq tX10_riverClause 11 rfl) rfl rfl ?_
        have e_45 : M_2 229 37 = M 229 37 := (f_5 229 37 (by omega))
        have e_46 : M_2 229 39 = M 229 39 := (f_5 229 39 (by omega))
        have e_47 : M_2 (229 + 29) 0 = M (229 + 29) 0 := (f_5 (229 + 29) 0 (by omega))
        have e_48 : M_2 (229 + 29) 1 = M (229 + 29) 1 := (f_5 (229 + 29) 1 (by omega))
        have e_49 : M_2 (229 + 29) 2 = M (229 + 29) 2 := (f_5 (229 + 29) 2 (by omega))
        have e_50 : M_2 (229 + 29) 3 = M (229 + 29) 3 := (f_5 (229 + 29) 3 (by omega))
        have e_51 : M_2 229 47 = M 229 47 := (f_5 229 47 (by omega))
        refine g_callSs (n := 22) (As := [vI i_12]) (rest := [aR Γ 229]) hx (ctX10_riverWord3 Γ M_2 i_12 (by omega) (by omega)) mlX10_358 (dq tX10_riverClause 12 rfl) rfl (Nat.le_of_ble_eq_true rfl) (Nat.le_of_ble_eq_true rfl) (Nat.le_of_ble_eq_true rfl) rfl (fun z_52 M_53 p_55 => ?_)
        obtain ⟨rfl, h_57, h_58, h_59, h_60⟩ := p_55
        obtain ⟨qz_52, hz_52⟩ := sN_some z_52 (by omega)
        have hz_52n := sNle z_52 _ hz_52
        have hz_52l := sln_eq hz_52
        have h_61 := rlF_pos (k := i_12) (by omega) (by omega)
        refine g_callVi (n := 25) (As := [sR Γ z_52]) (rest := []) hx (ctX10_stood3 Γ M_2 z_52 _ hz_52 hz_52n t9 n9 (sk t9 n9 a9) (by omega) (by omega) g_10 h_58) mlX10_271 (obX10 (by decide)) (dq tX10_riverClause 13 rfl) rfl (Nat.le_of_ble_eq_true rfl) (Nat.le_of_ble_eq_true rfl) (Nat.le_of_ble_eq_true rfl) rfl (fun z_62 M_63 h_64 p_65 => ?_)
        obtain ⟨rfl, h_67, h_68, h_69⟩ := p_65
        refine g_if_ne (n := 28) (t := 34) hx (dq tX10_riverClause 14 rfl) (by decide) rfl h_64 (fun c_70 => ?_) (fun c_70 => ?_)
        · refine g_iload_n (n := 35) hx 0 (dq tX10_riverClause 17 rfl) rfl rfl ?_
          refine g_bipush (n := 37) hx (dq tX10_riverClause 18 rfl) rfl (by decide) ?_
          refine g_icmp_ne (n := 40) (t := 47) hx (dq tX10_riverClause 19 rfl) (by decide) rfl ⟨by omega, by omega⟩ ⟨by decide, by decide⟩ (fun c_71 => ?_) (fun c_71 => ?_)
          · have h_72 := (stY h_69 (by omega)).2
            have hwk : wix t9 n9 (sk t9 n9 a9) wRiv 0 = i_12 := NW.at h_17 (by omega) (by have w1 := wRiv_len; omega) h_57 (stY h_69 (by omega)).1
            refine g_aload_n (n := 48) hx 2 (dq tX10_riverClause 25 rfl) rfl rfl ?_
            refine g_iload_n (n := 49) hx 0 (dq tX10_riverClause 26 rfl) rfl rfl ?_
            refine g_iload_n (n := 50) hx 3 (dq tX10_riverClause 27 rfl) rfl rfl ?_
            refine g_callVi (n := 53) (As := [vI i_12, vI n]) (rest := []) hx (ctX10_isFull3 Γ M_2 i_12 (by omega) (by omega) n (by omega) (by omega)) mlX10_361 (obX10 (by decide)) (dq tX10_riverClause 28 rfl) rfl (Nat.le_of_ble_eq_true rfl) (Nat.le_of_ble_eq_true rfl) (Nat.le_of_ble_eq_true rfl) rfl (fun z_73 M_74 h_75 p_76 => ?_)
            obtain ⟨rfl, h_78, h_79, h_80, h_81, h_82⟩ := p_76
            refine g_if_eq (n := 56) (t := 63) hx (dq tX10_riverClause 29 rfl) (by decide) rfl h_75 (fun c_83 => ?_) (fun c_83 => ?_)
            · refine g_aload_n (n := 64) hx 2 (dq tX10_riverClause 35 rfl) rfl rfl ?_
              refine g_dup (n := 65) hx (dq tX10_riverClause 36 rfl) rfl rfl ?_
              refine g_getI (n := 68) hx glX10_249 (sX10_38 (by decide)) (dq tX10_riverClause 37 rfl) rfl (fun h_84l h_84u => ?_)
              refine g_iload_n (n := 69) hx 0 (dq tX10_riverClause 38 rfl) rfl rfl ?_
              refine g_callSs (n := 72) (As := [vI i_12]) (rest := [vI (M_2 229 38), aR Γ 229]) hx (ctX10_riverWord3 Γ M_2 i_12 (by omega) (by omega)) mlX10_358 (dq tX10_riverClause 39 rfl) rfl (Nat.le_of_ble_eq_true rfl) (Nat.le_of_ble_eq_true rfl) (Nat.le_of_ble_eq_true rfl) rfl (fun z_85 M_86 p_88 => ?_)
              obtain ⟨rfl, h_90, h_91, h_92, h_93⟩ := p_88
              obtain ⟨qz_85, hz_85⟩ := sN_some z_85 (by omega)
              have hz_85n := sNle z_85 _ hz_85
              have hz_85l := sln_eq hz_85
              have h_94 := rlF_pos (k := i_12) (by omega) (by omega)
              refine g_callSt (n := 75) (As := []) (rest := [vI (M_2 229 38), aR Γ 229]) hx (ctJ0_length_8abf5 Γ M_2 z_85 _ hz_85) mlX10_260 rfl hz_85 (dq tX10_riverClause 40 rfl) rfl (Nat.le_of_ble_eq_true rfl) (Nat.le_of_ble_eq_true rfl) (Nat.le_of_ble_eq_true rfl) rfl (fun z_95 M_96 h_97 p_98 => ?_)
              obtain ⟨rfl, h_99⟩ := p_98
              refine g_iadd (n := 76) hx (dq tX10_riverClause 41 rfl) rfl ?_
              refine g_putI (n := 79) hx plX10_249 (sX10_38 (by decide)) (dq tX10_riverClause 42 rfl) rfl (by omega) (by omega) (fun M_100 m_101e m_101 => ?_)
              have g_102 : Nw M_100 := Nw.gen g_9 (by have q39 := m_101 229 39 (by omega); omega) (fun j hj => m_101 _ j (by omega)) (fun v hv => m_101 _ v (by omega)) (fun l hl => m_101 _ l (by omega)) (fun l hl => m_101 _ l (by omega))
              have g_103 : Ty M_100 t9 n9 := Ty.frame g_10 (fun c j hcj => m_101 c j (by omega))
              refine g_aload_n (n := 80) hx 2 (dq tX10_riverClause 43 rfl) rfl rfl ?_
              refine g_iload_n (n := 81) hx 0 (dq tX10_riverClause 44 rfl) rfl rfl ?_
              have e_104 : M_100 229 37 = M_2 229 37 := (m_101 229 37 (by omega))
              have e_105 : M_100 229 39 = M_2 229 39 := (m_101 229 39 (by omega))
              have e_106 : M_100 (229 + 29) 0 = M_2 (229 + 29) 0 := (m_101 (229 + 29) 0 (by omega))
              have e_107 : M_100 (229 + 29) 1 = M_2 (229 + 29) 1 := (m_101 (229 + 29) 1 (by omega))
              have e_108 : M_100 (229 + 29) 2 = M_2 (229 + 29) 2 := (m_101 (229 + 29) 2 (by omega))
              have e_109 : M_100 (229 + 29) 3 = M_2 (229 + 29) 3 := (m_101 (229 + 29) 3 (by omega))
              have e_110 : M_100 229 47 = M_2 229 47 := (m_101 229 47 (by omega))
              refine g_callVv (n := 84) (As := [vI i_12]) (rest := []) hx (ctX10_riverPart3 Γ M_100 i_12 (by omega) (by omega) t9 n9 ((M_100 229 38).toNat) (by omega) (by omega) (by omega) (by omega) (by omega) g_103 g_102) mlX10_365 (obX10 (by decide)) (dq tX10_riverClause 45 rfl) rfl (Nat.le_of_ble_eq_true rfl) (Nat.le_of_ble_eq_true rfl) (Nat.le_of_ble_eq_true rfl) rfl (fun M_112 p_114 => ?_)
              obtain ⟨f_115, g_116, h_117, h_118, h_119, h_120⟩ := p_114
              have g_121 : Ty M_112 t9 n9 := Ty.frame g_103 (fun c j hcj => f_115 c j (by omega))
              have e_122 : M_112 229 37 = M_100 229 37 := (f_115 229 37 (by omega))
              exact g_vret hx hr (dq tX10_riverClause 46 rfl) ⟨(fun u_ v_ huv_ => (((f_115 u_ v_ (by omega)).trans (m_101 u_ v_ (by omega))).trans (f_5 u_ v_ (by omega)))), g_116, (by omega), (by omega), (by omega), (oar_p (a := sk t9 n9 a9) (a1 := sk t9 n9 ((M_100 229 38).toNat)) hwk (by omega) (nfy (stN (Hid.out h_81) (by omega)) (by omega) (by omega) (by omega) (by omega)) h_119 (by unfold nx; exact sk_eq (by omega)) (by omega) (by omega) (by omega) (by omega) (by omega) (fun h0 => h_120 (by omega)))⟩
            · refine g_aload_n (n := 57) hx 2 (dq tX10_riverClause 30 rfl) rfl rfl ?_
              refine g_iconst (n := 58) hx (dq tX10_riverClause 31 rfl) rfl ?_
              refine g_iload_n (n := 59) hx 1 (dq tX10_riverClause 32 rfl) rfl rfl ?_
              refine g_callVv (n := 62) (As := [vI 4, vI (M_2 229 38)]) (rest := []) hx (ctX10_fails3 Γ M_2 4 (by decide) (by decide) (M_2 229 38) (by omega) (by omega)) mlX10_284 (obX10 (by decide)) (dq tX10_riverClause 33 rfl) rfl (Nat.le_of_ble_eq_true rfl) (Nat.le_of_ble_eq_true rfl) (Nat.le_of_ble_eq_true rfl) rfl (fun M_124 p_126 => ?_)
              obtain ⟨f_127, h_128, h_129⟩ := p_126
              have g_130 : Nw M_124 := Nw.vac (by omega)
              have g_131 : Ty M_124 t9 n9 := Ty.frame g_10 (fun c j hcj => f_127 c j (by omega))
              have e_132 : M_124 229 37 = M_2 229 37 := (f_127 229 37 (by omega))
              have e_133 : M_124 229 38 = M_2 229 38 := (f_127 229 38 (by omega))
              have e_134 : M_124 (229 + 29) 0 = M_2 (229 + 29) 0 := (f_127 (229 + 29) 0 (by omega))
              have e_135 : M_124 (229 + 29) 1 = M_2 (229 + 29) 1 := (f_127 (229 + 29) 1 (by omega))
              have e_136 : M_124 (229 + 29) 2 = M_2 (229 + 29) 2 := (f_127 (229 + 29) 2 (by omega))
              have e_137 : M_124 (229 + 29) 3 = M_2 (229 + 29) 3 := (f_127 (229 + 29) 3 (by omega))
              have e_138 : M_124 229 47 = M_2 229 47 := (f_127 229 47 (by omega))
              exact g_vret hx hr (dq tX10_riverClause 34 rfl) ⟨(fun u_ v_ huv_ => ((f_127 u_ v_ (by omega)).trans (f_5 u_ v_ (by omega)))), g_130, (by omega), (by omega), (by omega), (oar_f (a := sk t9 n9 a9) hwk (by omega) (yfy (stY (Hid.out h_81) (by omega)) (by omega) (by omega) (by omega) (by omega)) (by omega))⟩
          · omega
        · refine g_iinc (n := 31) (lv' := [(3, vI (i_12 + 1)), (2, vI (M_2 229 38)), (0, aR Γ 229), (1, vI n)]) hx 0 (dq tX10_riverClause 15 rfl) rfl (by decide) rfl rfl ?_
          refine g_goto (n := 11) hx (dq tX10_riverClause 16 rfl) (by decide) ?_
          exact ih_14 _ (by omega) (i_12 + 1) (by omega) (by omega) (NW.go h_17 (by omega) h_57 (stN h_69 (by omega)) rfl) rfl
  have e_139 : M_2 229 37 = M 229 37 := (f_5 229 37 (by omega))
  have e_140 : M_2 229 39 = M 229 39 := (f_5 229 39 (by omega))
  have e_141 : M_2 (229 + 29) 0 = M (229 + 29) 0 := (f_5 (229 + 29) 0 (by omega))
  have e_142 : M_2 (229 + 29) 1 = M (229 + 29) 1 := (f_5 (229 + 29) 1 (by omega))
  have e_143 : M_2 (229 + 29) 2 = M (229 + 29) 2 := (f_5 (229 + 29) 2 (by omega))
  have e_144 : M_2 (229 + 29) 3 = M (229 + 29) 3 := (f_5 (229 + 29) 3 (by omega))
  have e_145 : M_2 229 47 = M 229 47 := (f_5 229 47 (by omega))
  exact L_13 _ 0 (by omega) (by omega) NW.nil rfl

abbrev qctX10_begins3 (M : zM)  (M' : zM) : Prop := (∀ u_ v_, (u_ ≠ 229 + 1 ∨ v_ < 0 ∨ 16 ≤ v_) ∧ (u_ < 229 + 2 ∨ 229 + 19 ≤ u_) → M' u_ v_ = M u_ v_) ∧ (Gm M') ∧ (On M') ∧ (Rl M') ∧ (M' (229 + 1) 7 = 0) ∧ (M' (229 + 1) 0 = M (229 + 29) 0) ∧ (M' (229 + 1) 1 = M (229 + 29) 1) ∧ (M' (229 + 1) 3 = M (229 + 29) 3) ∧ (M' (229 + 1) 8 = 50) ∧ (M' (229 + 1) 15 = -1) ∧ (M' (229 + 1) 5 = 0) ∧ (M' (229 + 1) 11 = 0) ∧ (∀ j : Nat, j < 6 → M' (229 + 6) j = -1)
set_option maxHeartbeats 4000000 in
set_option maxRecDepth 100000 in
theorem ctX10_begins3 (Γ : Gam) (M : zM)  (pre0 : M 229 39 = 0) (ex0 : Gm M) (ex1 : Nw M) (ex2 : Rl M) : CtV Γ yX10_begins cX10_begins 2 none 1 22 [aR Γ 229] M (qctX10_begins3 M) := by
  refine met_v (by decide) (Nat.le_of_ble_eq_true rfl) (fun x hx hr => ?_)
  show G Γ x 2 (QV Γ x (qctX10_begins3 M)) M 0 [(0, aR Γ 229)] []
  refine g_iv (fun hIb => ?_)
  have hn0 := Nw.n0 ex1 (by omega)
  refine g_iconst (n := 1) hx (dq tX10_begins 0 rfl) rfl ?_
  refine g_istore_n (n := 2) (lv' := [(1, vI 0), (0, aR Γ 229)]) hx (dq tX10_begins 1 rfl) (by decide) rfl rfl ?_
  refine g_iload_n (n := 3) hx 0 (dq tX10_begins 2 rfl) rfl rfl ?_
  refine g_bipush (n := 5) hx (dq tX10_begins 3 rfl) rfl (by decide) ?_
  refine g_icmp_ge (n := 8) (t := 35) hx (dq tX10_begins 4 rfl) (by decide) rfl ⟨by decide, by decide⟩ ⟨by decide, by decide⟩ (fun c_1 => ?_) (fun c_1 => ?_)
  · omega
  · refine g_aload_n (n := 9) hx 1 (dq tX10_begins 5 rfl) rfl rfl ?_
    refine g_getR (n := 12) hx glX10_9 (sX10_1 (by decide)) (dq tX10_begins 6 rfl) rfl ?_
    refine g_iload_n (n := 13) hx 0 (dq tX10_begins 7 rfl) rfl rfl ?_
    refine g_iload_n (n := 14) hx 0 (dq tX10_begins 8 rfl) rfl rfl ?_
    refine g_iconst (n := 15) hx (dq tX10_begins 9 rfl) rfl ?_
    refine g_icmp_ge (n := 18) (t := 27) hx (dq tX10_begins 10 rfl) (by decide) rfl ⟨by decide, by decide⟩ ⟨by decide, by decide⟩ (fun c_2 => ?_) (fun c_2 => ?_)
    · omega
    · refine g_aload_n (n := 19) hx 1 (dq tX10_begins 11 rfl) rfl rfl ?_
      refine g_getR (n := 22) hx glX10_94 (sX10_29 (by decide)) (dq tX10_begins 12 rfl) rfl ?_
      refine g_iload_n (n := 23) hx 0 (dq tX10_begins 13 rfl) rfl rfl ?_
      refine g_ialdX (n := 24) (q := 0) hx (aX10_29 (b := 229) (by decide)) (dq tX10_begins 14 rfl) rfl (by decide) (by decide) (by decide) rfl (fun h_3l h_3u => ?_)
      have h_3l : (-2147483648) ≤ M (229 + 29) 0 := h_3l
      have h_3u : M (229 + 29) 0 ≤ 2147483647 := h_3u
      have h_4 := (rfl : M (229 + 29) 0 = M (229 + 29) 0)
      refine g_goto (n := 28) hx (dq tX10_begins 15 rfl) (by decide) ?_
      refine g_iastX (n := 29) (q := 0) hx (aX10_1 (b := 229) (by decide)) (dq tX10_begins 17 rfl) rfl (by decide) (by decide) (by decide) rfl (show 0 ≤ M (229 + 29) 0 by omega) (show M (229 + 29) 0 ≤ 9 by omega) (fun M_5 m_6e m_6 => ?_)
      refine g_iinc (n := 32) (lv' := [(1, vI 1), (0, aR Γ 229)]) hx 0 (dq tX10_begins 18 rfl) rfl (by decide) rfl rfl ?_
      refine g_goto (n := 2) hx (dq tX10_begins 19 rfl) (by decide) ?_
      refine g_iload_n (n := 3) hx 0 (dq tX10_begins 2 rfl) rfl rfl ?_
      refine g_bipush (n := 5) hx (dq tX10_begins 3 rfl) rfl (by decide) ?_
      refine g_icmp_ge (n := 8) (t := 35) hx (dq tX10_begins 4 rfl) (by decide) rfl ⟨by decide, by decide⟩ ⟨by decide, by decide⟩ (fun c_7 => ?_) (fun c_7 => ?_)
      · omega
      · refine g_aload_n (n := 9) hx 1 (dq tX10_begins 5 rfl) rfl rfl ?_
        refine g_getR (n := 12) hx glX10_9 (sX10_1 (by decide)) (dq tX10_begins 6 rfl) rfl ?_
        refine g_iload_n (n := 13) hx 0 (dq tX10_begins 7 rfl) rfl rfl ?_
        refine g_iload_n (n := 14) hx 0 (dq tX10_begins 8 rfl) rfl rfl ?_
        refine g_iconst (n := 15) hx (dq tX10_begins 9 rfl) rfl ?_
        refine g_icmp_ge (n := 18) (t := 27) hx (dq tX10_begins 10 rfl) (by decide) rfl ⟨by decide, by decide⟩ ⟨by decide, by decide⟩ (fun c_8 => ?_) (fun c_8 => ?_)
        · omega
        · refine g_aload_n (n := 19) hx 1 (dq tX10_begins 11 rfl) rfl rfl ?_
          refine g_getR (n := 22) hx glX10_94 (sX10_29 (by decide)) (dq tX10_begins 12 rfl) rfl ?_
          refine g_iload_n (n := 23) hx 0 (dq tX10_begins 13 rfl) rfl rfl ?_
          refine g_ialdX (n := 24) (q := 1) hx (aX10_29 (b := 229) (by decide)) (dq tX10_begins 14 rfl) rfl (by decide) (by decide) (by decide) rfl (fun h_9l h_9u => ?_)
          have h_9l : 0 ≤ M_5 (229 + 29) 1 := h_9l
          have h_9u : M_5 (229 + 29) 1 ≤ 6 := h_9u
          refine g_goto (n := 28) hx (dq tX10_begins 15 rfl) (by decide) ?_
          have e_10 : M_5 229 39 = M 229 39 := (m_6 229 39 (by omega))
          refine g_iastX (n := 29) (q := 1) hx (aX10_1 (b := 229) (by decide)) (dq tX10_begins 17 rfl) rfl (by decide) (by decide) (by decide) rfl (show 0 ≤ M_5 (229 + 29) 1 by omega) (show M_5 (229 + 29) 1 ≤ 6 by omega) (fun M_11 m_12e m_12 => ?_)
          refine g_iinc (n := 32) (lv' := [(1, vI 2), (0, aR Γ 229)]) hx 0 (dq tX10_begins 18 rfl) rfl (by decide) rfl rfl ?_
          refine g_goto (n := 2) hx (dq tX10_begins 19 rfl) (by decide) ?_
          refine g_iload_n (n := 3) hx 0 (dq tX10_begins 2 rfl) rfl rfl ?_
          refine g_bipush (n := 5) hx (dq tX10_begins 3 rfl) rfl (by decide) ?_
          refine g_icmp_ge (n := 8) (t := 35) hx (dq tX10_begins 4 rfl) (by decide) rfl ⟨by decide, by decide⟩ ⟨by decide, by decide⟩ (fun c_13 => ?_) (fun c_13 => ?_)
          · omega
          · refine g_aload_n (n := 9) hx 1 (dq tX10_begins 5 rfl) rfl rfl ?_
            refine g_getR (n := 12) hx glX10_9 (sX10_1 (by decide)) (dq tX10_begins 6 rfl) rfl ?_
            refine g_iload_n (n := 13) hx 0 (dq tX10_begins 7 rfl) rfl rfl ?_
            refine g_iload_n (n := 14) hx 0 (dq tX10_begins 8 rfl) rfl rfl ?_
            refine g_iconst (n := 15) hx (dq tX10_begins 9 rfl) rfl ?_
            refine g_icmp_ge (n := 18) (t := 27) hx (dq tX10_begins 10 rfl) (by decide) rfl ⟨by decide, by decide⟩ ⟨by decide, by decide⟩ (fun c_14 => ?_) (fun c_14 => ?_)
            · omega
            · refine g_aload_n (n := 19) hx 1 (dq tX10_begins 11 rfl) rfl rfl ?_
              refine g_getR (n := 22) hx glX10_94 (sX10_29 (by decide)) (dq tX10_begins 12 rfl) rfl ?_
              refine g_iload_n (n := 23) hx 0 (dq tX10_begins 13 rfl) rfl rfl ?_
              refine g_ialdX (n := 24) (q := 2) hx (aX10_29 (b := 229) (by decide)) (dq tX10_begins 14 rfl) rfl (by decide) (by decide) (by decide) rfl (fun h_15l h_15u => ?_)
              have h_15l : 0 ≤ M_11 (229 + 29) 2 := h_15l
              have h_15u : M_11 (229 + 29) 2 ≤ 4 := h_15u
              refine g_goto (n := 28) hx (dq tX10_begins 15 rfl) (by decide) ?_
              have e_16 : M_11 229 39 = M_5 229 39 := (m_12 229 39 (by omega))
              refine g_iastX (n := 29) (q := 2) hx (aX10_1 (b := 229) (by decide)) (dq tX10_begins 17 rfl) rfl (by decide) (by decide) (by decide) rfl (show 0 ≤ M_11 (229 + 29) 2 by omega) (show M_11 (229 + 29) 2 ≤ 4 by omega) (fun M_17 m_18e m_18 => ?_)
              refine g_iinc (n := 32) (lv' := [(1, vI 3), (0, aR Γ 229)]) hx 0 (dq tX10_begins 18 rfl) rfl (by decide) rfl rfl ?_
              refine g_goto (n := 2) hx (dq tX10_begins 19 rfl) (by decide) ?_
              refine g_iload_n (n := 3) hx 0 (dq tX10_begins 2 rfl) rfl rfl ?_
              refine g_bipush (n := 5) hx (dq tX10_begins 3 rfl) rfl (by decide) ?_
              refine g_icmp_ge (n := 8) (t := 35) hx (dq tX10_begins 4 rfl) (by decide) rfl ⟨by decide, by decide⟩ ⟨by decide, by decide⟩ (fun c_19 => ?_) (fun c_19 => ?_)
              · omega
              · refine g_aload_n (n := 9) hx 1 (dq tX10_begins 5 rfl) rfl rfl ?_
                refine g_getR (n := 12) hx glX10_9 (sX10_1 (by decide)) (dq tX10_begins 6 rfl) rfl ?_
                refine g_iload_n (n := 13) hx 0 (dq tX10_begins 7 rfl) rfl rfl ?_
                refine g_iload_n (n := 14) hx 0 (dq tX10_begins 8 rfl) rfl rfl ?_
                refine g_iconst (n := 15) hx (dq tX10_begins 9 rfl) rfl ?_
                refine g_icmp_ge (n := 18) (t := 27) hx (dq tX10_begins 10 rfl) (by decide) rfl ⟨by decide, by decide⟩ ⟨by decide, by decide⟩ (fun c_20 => ?_) (fun c_20 => ?_)
                · omega
                · refine g_aload_n (n := 19) hx 1 (dq tX10_begins 11 rfl) rfl rfl ?_
                  refine g_getR (n := 22) hx glX10_94 (sX10_29 (by decide)) (dq tX10_begins 12 rfl) rfl ?_
                  refine g_iload_n (n := 23) hx 0 (dq tX10_begins 13 rfl) rfl rfl ?_
                  refine g_ialdX (n := 24) (q := 3) hx (aX10_29 (b := 229) (by decide)) (dq tX10_begins 14 rfl) rfl (by decide) (by decide) (by decide) rfl (fun h_21l h_21u => ?_)
                  have h_21l : 0 ≤ M_17 (229 + 29) 3 := h_21l
                  have h_21u : M_17 (229 + 29) 3 ≤ 12 := h_21u
                  refine g_goto (n := 28) hx (dq tX10_begins 15 rfl) (by decide) ?_
                  have e_22 : M_17 229 39 = M_11 229 39 := (m_18 229 39 (by omega))
                  refine g_iastX (n := 29) (q := 3) hx (aX10_1 (b := 229) (by decide)) (dq tX10_begins 17 rfl) rfl (by decide) (by decide) (by decide) rfl (show 0 ≤ M_17 (229 + 29) 3 by omega) (show M_17 (229 + 29) 3 ≤ 12 by omega) (fun M_23 m_24e m_24 => ?_)
                  refine g_iinc (n := 32) (lv' := [(1, vI 4), (0, aR Γ 229)]) hx 0 (dq tX10_begins 18 rfl) rfl (by decide) rfl rfl ?_
                  refine g_goto (n := 2) hx (dq tX10_begins 19 rfl) (by decide) ?_
                  refine g_iload_n (n := 3) hx 0 (dq tX10_begins 2 rfl) rfl rfl ?_
                  refine g_bipush (n := 5) hx (dq tX10_begins 3 rfl) rfl (by decide) ?_
                  refine g_icmp_ge (n := 8) (t := 35) hx (dq tX10_begins 4 rfl) (by decide) rfl ⟨by decide, by decide⟩ ⟨by decide, by decide⟩ (fun c_25 => ?_) (fun c_25 => ?_)
                  · omega
                  · refine g_aload_n (n := 9) hx 1 (dq tX10_begins 5 rfl) rfl rfl ?_
                    refine g_getR (n := 12) hx glX10_9 (sX10_1 (by decide)) (dq tX10_begins 6 rfl) rfl ?_
                    refine g_iload_n (n := 13) hx 0 (dq tX10_begins 7 rfl) rfl rfl ?_
                    refine g_iload_n (n := 14) hx 0 (dq tX10_begins 8 rfl) rfl rfl ?_
                    refine g_iconst (n := 15) hx (dq tX10_begins 9 rfl) rfl ?_
                    refine g_icmp_ge (n := 18) (t := 27) hx (dq tX10_begins 10 rfl) (by decide) rfl ⟨by decide, by decide⟩ ⟨by decide, by decide⟩ (fun c_26 => ?_) (fun c_26 => ?_)
                    · omega
                    · refine g_aload_n (n := 19) hx 1 (dq tX10_begins 11 rfl) rfl rfl ?_
                      refine g_getR (n := 22) hx glX10_94 (sX10_29 (by decide)) (dq tX10_begins 12 rfl) rfl ?_
                      refine g_iload_n (n := 23) hx 0 (dq tX10_begins 13 rfl) rfl rfl ?_
                      refine g_ialdX (n := 24) (q := 4) hx (aX10_29 (b := 229) (by decide)) (dq tX10_begins 14 rfl) rfl (by decide) (by decide) (by decide) rfl (fun h_27l h_27u => ?_)
                      have h_27l : (-2147483648) ≤ M_23 (229 + 29) 4 := h_27l
                      have h_27u : M_23 (229 + 29) 4 ≤ 2147483647 := h_27u
                      refine g_goto (n := 28) hx (dq tX10_begins 15 rfl) (by decide) ?_
                      have e_28 : M_23 229 39 = M_17 229 39 := (m_24 229 39 (by omega))
                      refine g_iastX (n := 29) (q := 4) hx (aX10_1 (b := 229) (by decide)) (dq tX10_begins 17 rfl) rfl (by decide) (by decide) (by decide) rfl (show (-2147483648) ≤ M_23 (229 + 29) 4 by omega) (show M_23 (229 + 29) 4 ≤ 2147483647 by omega) (fun M_29 m_30e m_30 => ?_)
                      refine g_iinc (n := 32) (lv' := [(1, vI 5), (0, aR Γ 229)]) hx 0 (dq tX10_begins 18 rfl) rfl (by decide) rfl rfl ?_
                      refine g_goto (n := 2) hx (dq tX10_begins 19 rfl) (by decide) ?_
                      refine g_iload_n (n := 3) hx 0 (dq tX10_begins 2 rfl) rfl rfl ?_
                      refine g_bipush (n := 5) hx (dq tX10_begins 3 rfl) rfl (by decide) ?_
                      refine g_icmp_ge (n := 8) (t := 35) hx (dq tX10_begins 4 rfl) (by decide) rfl ⟨by decide, by decide⟩ ⟨by decide, by decide⟩ (fun c_31 => ?_) (fun c_31 => ?_)
                      · omega
                      · refine g_aload_n (n := 9) hx 1 (dq tX10_begins 5 rfl) rfl rfl ?_
                        refine g_getR (n := 12) hx glX10_9 (sX10_1 (by decide)) (dq tX10_begins 6 rfl) rfl ?_
                        refine g_iload_n (n := 13) hx 0 (dq tX10_begins 7 rfl) rfl rfl ?_
                        refine g_iload_n (n := 14) hx 0 (dq tX10_begins 8 rfl) rfl rfl ?_
                        refine g_iconst (n := 15) hx (dq tX10_begins 9 rfl) rfl ?_
                        refine g_icmp_ge (n := 18) (t := 27) hx (dq tX10_begins 10 rfl) (by decide) rfl ⟨by decide, by decide⟩ ⟨by decide, by decide⟩ (fun c_32 => ?_) (fun c_32 => ?_)
                        · refine g_iconst (n := 28) hx (dq tX10_begins 16 rfl) rfl ?_
                          have e_33 : M_29 229 39 = M_23 229 39 := (m_30 229 39 (by omega))
                          refine g_iastX (n := 29) (q := 5) hx (aX10_1 (b := 229) (by decide)) (dq tX10_begins 17 rfl) rfl (by decide) (by decide) (by decide) rfl (show 0 ≤ 0 by omega) (show 0 ≤ 3 by omega) (fun M_34 m_35e m_35 => ?_)
                          refine g_iinc (n := 32) (lv' := [(1, vI 6), (0, aR Γ 229)]) hx 0 (dq tX10_begins 18 rfl) rfl (by decide) rfl rfl ?_
                          refine g_goto (n := 2) hx (dq tX10_begins 19 rfl) (by decide) ?_
                          refine g_iload_n (n := 3) hx 0 (dq tX10_begins 2 rfl) rfl rfl ?_
                          refine g_bipush (n := 5) hx (dq tX10_begins 3 rfl) rfl (by decide) ?_
                          refine g_icmp_ge (n := 8) (t := 35) hx (dq tX10_begins 4 rfl) (by decide) rfl ⟨by decide, by decide⟩ ⟨by decide, by decide⟩ (fun c_36 => ?_) (fun c_36 => ?_)
                          · omega
                          · refine g_aload_n (n := 9) hx 1 (dq tX10_begins 5 rfl) rfl rfl ?_
                            refine g_getR (n := 12) hx glX10_9 (sX10_1 (by decide)) (dq tX10_begins 6 rfl) rfl ?_
                            refine g_iload_n (n := 13) hx 0 (dq tX10_begins 7 rfl) rfl rfl ?_
                            refine g_iload_n (n := 14) hx 0 (dq tX10_begins 8 rfl) rfl rfl ?_
                            refine g_iconst (n := 15) hx (dq tX10_begins 9 rfl) rfl ?_
                            refine g_icmp_ge (n := 18) (t := 27) hx (dq tX10_begins 10 rfl) (by decide) rfl ⟨by decide, by decide⟩ ⟨by decide, by decide⟩ (fun c_37 => ?_) (fun c_37 => ?_)
                            · refine g_iconst (n := 28) hx (dq tX10_begins 16 rfl) rfl ?_
                              have e_38 : M_34 229 39 = M_29 229 39 := (m_35 229 39 (by omega))
                              refine g_iastX (n := 29) (q := 6) hx (aX10_1 (b := 229) (by decide)) (dq tX10_begins 17 rfl) rfl (by decide) (by decide) (by decide) rfl (show (-1) ≤ 0 by omega) (show 0 ≤ 5 by omega) (fun M_39 m_40e m_40 => ?_)
                              refine g_iinc (n := 32) (lv' := [(1, vI 7), (0, aR Γ 229)]) hx 0 (dq tX10_begins 18 rfl) rfl (by decide) rfl rfl ?_
                              refine g_goto (n := 2) hx (dq tX10_begins 19 rfl) (by decide) ?_
                              refine g_iload_n (n := 3) hx 0 (dq tX10_begins 2 rfl) rfl rfl ?_
                              refine g_bipush (n := 5) hx (dq tX10_begins 3 rfl) rfl (by decide) ?_
                              refine g_icmp_ge (n := 8) (t := 35) hx (dq tX10_begins 4 rfl) (by decide) rfl ⟨by decide, by decide⟩ ⟨by decide, by decide⟩ (fun c_41 => ?_) (fun c_41 => ?_)
                              · omega
                              · refine g_aload_n (n := 9) hx 1 (dq tX10_begins 5 rfl) rfl rfl ?_
                                refine g_getR (n := 12) hx glX10_9 (sX10_1 (by decide)) (dq tX10_begins 6 rfl) rfl ?_
                                refine g_iload_n (n := 13) hx 0 (dq tX10_begins 7 rfl) rfl rfl ?_
                                refine g_iload_n (n := 14) hx 0 (dq tX10_begins 8 rfl) rfl rfl ?_
                                refine g_iconst (n := 15) hx (dq tX10_begins 9 rfl) rfl ?_
                                refine g_icmp_ge (n := 18) (t := 27) hx (dq tX10_begins 10 rfl) (by decide) rfl ⟨by decide, by decide⟩ ⟨by decide, by decide⟩ (fun c_42 => ?_) (fun c_42 => ?_)
                                · refine g_iconst (n := 28) hx (dq tX10_begins 16 rfl) rfl ?_
                                  have e_43 : M_39 229 39 = M_34 229 39 := (m_40 229 39 (by omega))
                                  refine g_iastX (n := 29) (q := 7) hx (aX10_1 (b := 229) (by decide)) (dq tX10_begins 17 rfl) rfl (by decide) (by decide) (by decide) rfl (show 0 ≤ 0 by omega) (show 0 ≤ 10100 by omega) (fun M_44 m_45e m_45 => ?_)
                                  refine g_iinc (n := 32) (lv' := [(1, vI 8), (0, aR Γ 229)]) hx 0 (dq tX10_begins 18 rfl) rfl (by decide) rfl rfl ?_
                                  refine g_goto (n := 2) hx (dq tX10_begins 19 rfl) (by decide) ?_
                                  refine g_iload_n (n := 3) hx 0 (dq tX10_begins 2 rfl) rfl rfl ?_
                                  refine g_bipush (n := 5) hx (dq tX10_begins 3 rfl) rfl (by decide) ?_
                                  refine g_icmp_ge (n := 8) (t := 35) hx (dq tX10_begins 4 rfl) (by decide) rfl ⟨by decide, by decide⟩ ⟨by decide, by decide⟩ (fun c_46 => ?_) (fun c_46 => ?_)
                                  · omega
                                  · refine g_aload_n (n := 9) hx 1 (dq tX10_begins 5 rfl) rfl rfl ?_
                                    refine g_getR (n := 12) hx glX10_9 (sX10_1 (by decide)) (dq tX10_begins 6 rfl) rfl ?_
                                    refine g_iload_n (n := 13) hx 0 (dq tX10_begins 7 rfl) rfl rfl ?_
                                    refine g_iload_n (n := 14) hx 0 (dq tX10_begins 8 rfl) rfl rfl ?_
                                    refine g_iconst (n := 15) hx (dq tX10_begins 9 rfl) rfl ?_
                                    refine g_icmp_ge (n := 18) (t := 27) hx (dq tX10_begins 10 rfl) (by decide) rfl ⟨by decide, by decide⟩ ⟨by decide, by decide⟩ (fun c_47 => ?_) (fun c_47 => ?_)
                                    · refine g_iconst (n := 28) hx (dq tX10_begins 16 rfl) rfl ?_
                                      have e_48 : M_44 229 39 = M_39 229 39 := (m_45 229 39 (by omega))
                                      refine g_iastX (n := 29) (q := 8) hx (aX10_1 (b := 229) (by decide)) (dq tX10_begins 17 rfl) rfl (by decide) (by decide) (by decide) rfl (show (-2147483648) ≤ 0 by omega) (show 0 ≤ 2147483647 by omega) (fun M_49 m_50e m_50 => ?_)
                                      refine g_iinc (n := 32) (lv' := [(1, vI 9), (0, aR Γ 229)]) hx 0 (dq tX10_begins 18 rfl) rfl (by decide) rfl rfl ?_
                                      refine g_goto (n := 2) hx (dq tX10_begins 19 rfl) (by decide) ?_
                                      refine g_iload_n (n := 3) hx 0 (dq tX10_begins 2 rfl) rfl rfl ?_
                                      refine g_bipush (n := 5) hx (dq tX10_begins 3 rfl) rfl (by decide) ?_
                                      refine g_icmp_ge (n := 8) (t := 35) hx (dq tX10_begins 4 rfl) (by decide) rfl ⟨by decide, by decide⟩ ⟨by decide, by decide⟩ (fun c_51 => ?_) (fun c_51 => ?_)
                                      · omega
                                      · refine g_aload_n (n := 9) hx 1 (dq tX10_begins 5 rfl) rfl rfl ?_
                                        refine g_getR (n := 12) hx glX10_9 (sX10_1 (by decide)) (dq tX10_begins 6 rfl) rfl ?_
                                        refine g_iload_n (n := 13) hx 0 (dq tX10_begins 7 rfl) rfl rfl ?_
                                        refine g_iload_n (n := 14) hx 0 (dq tX10_begins 8 rfl) rfl rfl ?_
                                        refine g_iconst (n := 15) hx (dq tX10_begins 9 rfl) rfl ?_
                                        refine g_icmp_ge (n := 18) (t := 27) hx (dq tX10_begins 10 rfl) (by decide) rfl ⟨by decide, by decide⟩ ⟨by decide, by decide⟩ (fun c_52 => ?_) (fun c_52 => ?_)
                                        · refine g_iconst (n := 28) hx (dq tX10_begins 16 rfl) rfl ?_
                                          have e_53 : M_49 229 39 = M_44 229 39 := (m_50 229 39 (by omega))
                                          refine g_iastX (n := 29) (q := 9) hx (aX10_1 (b := 229) (by decide)) (dq tX10_begins 17 rfl) rfl (by decide) (by decide) (by decide) rfl (show (-2147483648) ≤ 0 by omega) (show 0 ≤ 2147483647 by omega) (fun M_54 m_55e m_55 => ?_)
                                          refine g_iinc (n := 32) (lv' := [(1, vI 10), (0, aR Γ 229)]) hx 0 (dq tX10_begins 18 rfl) rfl (by decide) rfl rfl ?_
                                          refine g_goto (n := 2) hx (dq tX10_begins 19 rfl) (by decide) ?_
                                          refine g_iload_n (n := 3) hx 0 (dq tX10_begins 2 rfl) rfl rfl ?_
                                          refine g_bipush (n := 5) hx (dq tX10_begins 3 rfl) rfl (by decide) ?_
                                          refine g_icmp_ge (n := 8) (t := 35) hx (dq tX10_begins 4 rfl) (by decide) rfl ⟨by decide, by decide⟩ ⟨by decide, by decide⟩ (fun c_56 => ?_) (fun c_56 => ?_)
                                          · omega
                                          · refine g_aload_n (n := 9) hx 1 (dq tX10_begins 5 rfl) rfl rfl ?_
                                            refine g_getR (n := 12) hx glX10_9 (sX10_1 (by decide)) (dq tX10_begins 6 rfl) rfl ?_
                                            refine g_iload_n (n := 13) hx 0 (dq tX10_begins 7 rfl) rfl rfl ?_
                                            refine g_iload_n (n := 14) hx 0 (dq tX10_begins 8 rfl) rfl rfl ?_
                                            refine g_iconst (n := 15) hx (dq tX10_begins 9 rfl) rfl ?_
                                            refine g_icmp_ge (n := 18) (t := 27) hx (dq tX10_begins 10 rfl) (by decide) rfl ⟨by decide, by decide⟩ ⟨by decide, by decide⟩ (fun c_57 => ?_) (fun c_57 => ?_)
                                            · refine g_iconst (n := 28) hx (dq tX10_begins 16 rfl) rfl ?_
                                              have e_58 : M_54 229 39 = M_49 229 39 := (m_55 229 39 (by omega))
                                              refine g_iastX (n := 29) (q := 10) hx (aX10_1 (b := 229) (by decide)) (dq tX10_begins 17 rfl) rfl (by decide) (by decide) (by decide) rfl (show 0 ≤ 0 by omega) (show 0 ≤ 20 by omega) (fun M_59 m_60e m_60 => ?_)
                                              refine g_iinc (n := 32) (lv' := [(1, vI 11), (0, aR Γ 229)]) hx 0 (dq tX10_begins 18 rfl) rfl (by decide) rfl rfl ?_
                                              refine g_goto (n := 2) hx (dq tX10_begins 19 rfl) (by decide) ?_
                                              refine g_iload_n (n := 3) hx 0 (dq tX10_begins 2 rfl) rfl rfl ?_
                                              refine g_bipush (n := 5) hx (dq tX10_begins 3 rfl) rfl (by decide) ?_
                                              refine g_icmp_ge (n := 8) (t := 35) hx (dq tX10_begins 4 rfl) (by decide) rfl ⟨by decide, by decide⟩ ⟨by decide, by decide⟩ (fun c_61 => ?_) (fun c_61 => ?_)
                                              · omega
                                              · refine g_aload_n (n := 9) hx 1 (dq tX10_begins 5 rfl) rfl rfl ?_
                                                refine g_getR (n := 12) hx glX10_9 (sX10_1 (by decide)) (dq tX10_begins 6 rfl) rfl ?_
                                                refine g_iload_n (n := 13) hx 0 (dq tX10_begins 7 rfl) rfl rfl ?_
                                                refine g_iload_n (n := 14) hx 0 (dq tX10_begins 8 rfl) rfl rfl ?_
                                                refine g_iconst (n := 15) hx (dq tX10_begins 9 rfl) rfl ?_
                                                refine g_icmp_ge (n := 18) (t := 27) hx (dq tX10_begins 10 rfl) (by decide) rfl ⟨by decide, by decide⟩ ⟨by decide, by decide⟩ (fun c_62 => ?_) (fun c_62 => ?_)
                                                · refine g_iconst (n := 28) hx (dq tX10_begins 16 rfl) rfl ?_
                                                  have e_63 : M_59 229 39 = M_54 229 39 := (m_60 229 39 (by omega))
                                                  refine g_iastX (n := 29) (q := 11) hx (aX10_1 (b := 229) (by decide)) (dq tX10_begins 17 rfl) rfl (by decide) (by decide) (by decide) rfl (show 0 ≤ 0 by omega) (show 0 ≤ 20 by omega) (fun M_64 m_65e m_65 => ?_)
                                                  refine g_iinc (n := 32) (lv' := [(1, vI 12), (0, aR Γ 229)]) hx 0 (dq tX10_begins 18 rfl) rfl (by decide) rfl rfl ?_
                                                  refine g_goto (n := 2) hx (dq tX10_begins 19 rfl) (by decide) ?_
                                                  refine g_iload_n (n := 3) hx 0 (dq tX10_begins 2 rfl) rfl rfl ?_
                                                  refine g_bipush (n := 5) hx (dq tX10_begins 3 rfl) rfl (by decide) ?_
                                                  refine g_icmp_ge (n := 8) (t := 35) hx (dq tX10_begins 4 rfl) (by decide) rfl ⟨by decide, by decide⟩ ⟨by decide, by decide⟩ (fun c_66 => ?_) (fun c_66 => ?_)
                                                  · omega
                                                  · refine g_aload_n (n := 9) hx 1 (dq tX10_begins 5 rfl) rfl rfl ?_
                                                    refine g_getR (n := 12) hx glX10_9 (sX10_1 (by decide)) (dq tX10_begins 6 rfl) rfl ?_
                                                    refine g_iload_n (n := 13) hx 0 (dq tX10_begins 7 rfl) rfl rfl ?_
                                                    refine g_iload_n (n := 14) hx 0 (dq tX10_begins 8 rfl) rfl rfl ?_
                                                    refine g_iconst (n := 15) hx (dq tX10_begins 9 rfl) rfl ?_
                                                    refine g_icmp_ge (n := 18) (t := 27) hx (dq tX10_begins 10 rfl) (by decide) rfl ⟨by decide, by decide⟩ ⟨by decide, by decide⟩ (fun c_67 => ?_) (fun c_67 => ?_)
                                                    · refine g_iconst (n := 28) hx (dq tX10_begins 16 rfl) rfl ?_
                                                      have e_68 : M_64 229 39 = M_59 229 39 := (m_65 229 39 (by omega))
                                                      refine g_iastX (n := 29) (q := 12) hx (aX10_1 (b := 229) (by decide)) (dq tX10_begins 17 rfl) rfl (by decide) (by decide) (by decide) rfl (show 0 ≤ 0 by omega) (show 0 ≤ 12 by omega) (fun M_69 m_70e m_70 => ?_)
                                                      refine g_iinc (n := 32) (lv' := [(1, vI 13), (0, aR Γ 229)]) hx 0 (dq tX10_begins 18 rfl) rfl (by decide) rfl rfl ?_
                                                      refine g_goto (n := 2) hx (dq tX10_begins 19 rfl) (by decide) ?_
                                                      refine g_iload_n (n := 3) hx 0 (dq tX10_begins 2 rfl) rfl rfl ?_
                                                      refine g_bipush (n := 5) hx (dq tX10_begins 3 rfl) rfl (by decide) ?_
                                                      refine g_icmp_ge (n := 8) (t := 35) hx (dq tX10_begins 4 rfl) (by decide) rfl ⟨by decide, by decide⟩ ⟨by decide, by decide⟩ (fun c_71 => ?_) (fun c_71 => ?_)
                                                      · omega
                                                      · refine g_aload_n (n := 9) hx 1 (dq tX10_begins 5 rfl) rfl rfl ?_
                                                        refine g_getR (n := 12) hx glX10_9 (sX10_1 (by decide)) (dq tX10_begins 6 rfl) rfl ?_
                                                        refine g_iload_n (n := 13) hx 0 (dq tX10_begins 7 rfl) rfl rfl ?_
                                                        refine g_iload_n (n := 14) hx 0 (dq tX10_begins 8 rfl) rfl rfl ?_
                                                        refine g_iconst (n := 15) hx (dq tX10_begins 9 rfl) rfl ?_
                                                        refine g_icmp_ge (n := 18) (t := 27) hx (dq tX10_begins 10 rfl) (by decide) rfl ⟨by decide, by decide⟩ ⟨by decide, by decide⟩ (fun c_72 => ?_) (fun c_72 => ?_)
                                                        · refine g_iconst (n := 28) hx (dq tX10_begins 16 rfl) rfl ?_
                                                          have e_73 : M_69 229 39 = M_64 229 39 := (m_70 229 39 (by omega))
                                                          refine g_iastX (n := 29) (q := 13) hx (aX10_1 (b := 229) (by decide)) (dq tX10_begins 17 rfl) rfl (by decide) (by decide) (by decide) rfl (show (-2147483648) ≤ 0 by omega) (show 0 ≤ 2147483647 by omega) (fun M_74 m_75e m_75 => ?_)
                                                          refine g_iinc (n := 32) (lv' := [(1, vI 14), (0, aR Γ 229)]) hx 0 (dq tX10_begins 18 rfl) rfl (by decide) rfl rfl ?_
                                                          refine g_goto (n := 2) hx (dq tX10_begins 19 rfl) (by decide) ?_
                                                          refine g_iload_n (n := 3) hx 0 (dq tX10_begins 2 rfl) rfl rfl ?_
                                                          refine g_bipush (n := 5) hx (dq tX10_begins 3 rfl) rfl (by decide) ?_
                                                          refine g_icmp_ge (n := 8) (t := 35) hx (dq tX10_begins 4 rfl) (by decide) rfl ⟨by decide, by decide⟩ ⟨by decide, by decide⟩ (fun c_76 => ?_) (fun c_76 => ?_)
                                                          · omega
                                                          · refine g_aload_n (n := 9) hx 1 (dq tX10_begins 5 rfl) rfl rfl ?_
                                                            refine g_getR (n := 12) hx glX10_9 (sX10_1 (by decide)) (dq tX10_begins 6 rfl) rfl ?_
                                                            refine g_iload_n (n := 13) hx 0 (dq tX10_begins 7 rfl) rfl rfl ?_
                                                            refine g_iload_n (n := 14) hx 0 (dq tX10_begins 8 rfl) rfl rfl ?_
                                                            refine g_iconst (n := 15) hx (dq tX10_begins 9 rfl) rfl ?_
                                                            refine g_icmp_ge (n := 18) (t := 27) hx (dq tX10_begins 10 rfl) (by decide) rfl ⟨by decide, by decide⟩ ⟨by decide, by decide⟩ (fun c_77 => ?_) (fun c_77 => ?_)
                                                            · refine g_iconst (n := 28) hx (dq tX10_begins 16 rfl) rfl ?_
                                                              have e_78 : M_74 229 39 = M_69 229 39 := (m_75 229 39 (by omega))
                                                              refine g_iastX (n := 29) (q := 14) hx (aX10_1 (b := 229) (by decide)) (dq tX10_begins 17 rfl) rfl (by decide) (by decide) (by decide) rfl (show 0 ≤ 0 by omega) (show 0 ≤ 30 by omega) (fun M_79 m_80e m_80 => ?_)
                                                              refine g_iinc (n := 32) (lv' := [(1, vI 15), (0, aR Γ 229)]) hx 0 (dq tX10_begins 18 rfl) rfl (by decide) rfl rfl ?_
                                                              refine g_goto (n := 2) hx (dq tX10_begins 19 rfl) (by decide) ?_
                                                              refine g_iload_n (n := 3) hx 0 (dq tX10_begins 2 rfl) rfl rfl ?_
                                                              refine g_bipush (n := 5) hx (dq tX10_begins 3 rfl) rfl (by decide) ?_
                                                              refine g_icmp_ge (n := 8) (t := 35) hx (dq tX10_begins 4 rfl) (by decide) rfl ⟨by decide, by decide⟩ ⟨by decide, by decide⟩ (fun c_81 => ?_) (fun c_81 => ?_)
                                                              · omega
                                                              · refine g_aload_n (n := 9) hx 1 (dq tX10_begins 5 rfl) rfl rfl ?_
                                                                refine g_getR (n := 12) hx glX10_9 (sX10_1 (by decide)) (dq tX10_begins 6 rfl) rfl ?_
                                                                refine g_iload_n (n := 13) hx 0 (dq tX10_begins 7 rfl) rfl rfl ?_
                                                                refine g_iload_n (n := 14) hx 0 (dq tX10_begins 8 rfl) rfl rfl ?_
                                                                refine g_iconst (n := 15) hx (dq tX10_begins 9 rfl) rfl ?_
                                                                refine g_icmp_ge (n := 18) (t := 27) hx (dq tX10_begins 10 rfl) (by decide) rfl ⟨by decide, by decide⟩ ⟨by decide, by decide⟩ (fun c_82 => ?_) (fun c_82 => ?_)
                                                                · refine g_iconst (n := 28) hx (dq tX10_begins 16 rfl) rfl ?_
                                                                  have e_83 : M_79 229 39 = M_74 229 39 := (m_80 229 39 (by omega))
                                                                  refine g_iastX (n := 29) (q := 15) hx (aX10_1 (b := 229) (by decide)) (dq tX10_begins 17 rfl) rfl (by decide) (by decide) (by decide) rfl (show (-1) ≤ 0 by omega) (show 0 ≤ 5 by omega) (fun M_84 m_85e m_85 => ?_)
                                                                  refine g_iinc (n := 32) (lv' := [(1, vI 16), (0, aR Γ 229)]) hx 0 (dq tX10_begins 18 rfl) rfl (by decide) rfl rfl ?_
                                                                  refine g_goto (n := 2) hx (dq tX10_begins 19 rfl) (by decide) ?_
                                                                  refine g_iload_n (n := 3) hx 0 (dq tX10_begins 2 rfl) rfl rfl ?_
                                                                  refine g_bipush (n := 5) hx (dq tX10_begins 3 rfl) rfl (by decide) ?_
                                                                  refine g_icmp_ge (n := 8) (t := 35) hx (dq tX10_begins 4 rfl) (by decide) rfl ⟨by decide, by decide⟩ ⟨by decide, by decide⟩ (fun c_86 => ?_) (fun c_86 => ?_)
                                                                  · refine g_aload_n (n := 36) hx 1 (dq tX10_begins 20 rfl) rfl rfl ?_
                                                                    refine g_getR (n := 39) hx glX10_9 (sX10_1 (by decide)) (dq tX10_begins 21 rfl) rfl ?_
                                                                    refine g_bipush (n := 41) hx (dq tX10_begins 22 rfl) rfl (by decide) ?_
                                                                    refine g_iconst (n := 42) hx (dq tX10_begins 23 rfl) rfl ?_
                                                                    have e_87 : M_84 229 39 = M_79 229 39 := (m_85 229 39 (by omega))
                                                                    refine g_iastX (n := 43) (q := 6) hx (aX10_1 (b := 229) (by decide)) (dq tX10_begins 24 rfl) rfl (by decide) (by decide) (by decide) rfl (show (-1) ≤ (-1) by omega) (show (-1) ≤ 5 by omega) (fun M_88 m_89e m_89 => ?_)
                                                                    refine g_aload_n (n := 44) hx 1 (dq tX10_begins 25 rfl) rfl rfl ?_
                                                                    refine g_getR (n := 47) hx glX10_9 (sX10_1 (by decide)) (dq tX10_begins 26 rfl) rfl ?_
                                                                    refine g_bipush (n := 49) hx (dq tX10_begins 27 rfl) rfl (by decide) ?_
                                                                    refine g_iconst (n := 50) hx (dq tX10_begins 28 rfl) rfl ?_
                                                                    have e_90 : M_88 229 39 = M_84 229 39 := (m_89 229 39 (by omega))
                                                                    refine g_iastX (n := 51) (q := 15) hx (aX10_1 (b := 229) (by decide)) (dq tX10_begins 29 rfl) rfl (by decide) (by decide) (by decide) rfl (show (-1) ≤ (-1) by omega) (show (-1) ≤ 5 by omega) (fun M_91 m_92e m_92 => ?_)
                                                                    refine g_aload_n (n := 52) hx 1 (dq tX10_begins 30 rfl) rfl rfl ?_
                                                                    refine g_getR (n := 55) hx glX10_9 (sX10_1 (by decide)) (dq tX10_begins 31 rfl) rfl ?_
                                                                    refine g_bipush (n := 57) hx (dq tX10_begins 32 rfl) rfl (by decide) ?_
                                                                    refine g_bipush (n := 59) hx (dq tX10_begins 33 rfl) rfl (by decide) ?_
                                                                    have e_93 : M_91 229 39 = M_88 229 39 := (m_92 229 39 (by omega))
                                                                    refine g_iastX (n := 60) (q := 8) hx (aX10_1 (b := 229) (by decide)) (dq tX10_begins 34 rfl) rfl (by decide) (by decide) (by decide) rfl (show (-2147483648) ≤ 50 by omega) (show 50 ≤ 2147483647 by omega) (fun M_94 m_95e m_95 => ?_)
                                                                    refine g_aload_n (n := 61) hx 1 (dq tX10_begins 35 rfl) rfl rfl ?_
                                                                    refine g_getR (n := 64) hx glX10_97 (sX10_30 (by decide)) (dq tX10_begins 36 rfl) rfl ?_
                                                                    refine g_aload_n (n := 65) hx 1 (dq tX10_begins 37 rfl) rfl rfl ?_
                                                                    refine g_getR (n := 68) hx glX10_13 (sX10_2 (by decide)) (dq tX10_begins 38 rfl) rfl ?_
                                                                    have e_96 : M_94 229 39 = M_91 229 39 := (m_95 229 39 (by omega))
                                                                    refine g_callSv (n := 71) (As := [aR Γ (229 + 30), aR Γ (229 + 2)]) (rest := []) hx (ctX10_lay Γ M_94 (229 + 30) (229 + 2) 9 (aX10_30 (b := 229) (by decide)) (aX10_2 (b := 229) (by decide)) (by decide) (by decide) (by decide) (by decide)) mlX10_368 (dq tX10_begins 39 rfl) rfl (Nat.le_of_ble_eq_true rfl) (Nat.le_of_ble_eq_true rfl) (Nat.le_of_ble_eq_true rfl) rfl (fun M_98 p_100 => ?_)
                                                                    obtain ⟨f_101, e_102⟩ := p_100
                                                                    refine g_aload_n (n := 72) hx 1 (dq tX10_begins 40 rfl) rfl rfl ?_
                                                                    refine g_getR (n := 75) hx glX10_100 (sX10_31 (by decide)) (dq tX10_begins 41 rfl) rfl ?_
                                                                    refine g_aload_n (n := 76) hx 1 (dq tX10_begins 42 rfl) rfl rfl ?_
                                                                    refine g_getR (n := 79) hx glX10_19 (sX10_4 (by decide)) (dq tX10_begins 43 rfl) rfl ?_
                                                                    have e_103 : M_98 229 39 = M_94 229 39 := (f_101 229 39 (by omega))
                                                                    refine g_callSv (n := 82) (As := [aR Γ (229 + 31), aR Γ (229 + 4)]) (rest := []) hx (ctX10_lay Γ M_98 (229 + 31) (229 + 4) 4 (aX10_31 (b := 229) (by decide)) (aX10_4 (b := 229) (by decide)) (by decide) (by decide) (by decide) (by decide)) mlX10_368 (dq tX10_begins 44 rfl) rfl (Nat.le_of_ble_eq_true rfl) (Nat.le_of_ble_eq_true rfl) (Nat.le_of_ble_eq_true rfl) rfl (fun M_105 p_107 => ?_)
                                                                    obtain ⟨f_108, e_109⟩ := p_107
                                                                    refine g_aload_n (n := 83) hx 1 (dq tX10_begins 45 rfl) rfl rfl ?_
                                                                    refine g_getR (n := 86) hx glX10_103 (sX10_32 (by decide)) (dq tX10_begins 46 rfl) rfl ?_
                                                                    refine g_aload_n (n := 87) hx 1 (dq tX10_begins 47 rfl) rfl rfl ?_
                                                                    refine g_getR (n := 90) hx glX10_22 (sX10_5 (by decide)) (dq tX10_begins 48 rfl) rfl ?_
                                                                    have e_110 : M_105 229 39 = M_98 229 39 := (f_108 229 39 (by omega))
                                                                    refine g_callSv (n := 93) (As := [aR Γ (229 + 32), aR Γ (229 + 5)]) (rest := []) hx (ctX10_lay Γ M_105 (229 + 32) (229 + 5) 6 (aX10_32 (b := 229) (by decide)) (aX10_5 (b := 229) (by decide)) (by decide) (by decide) (by decide) (by decide)) mlX10_368 (dq tX10_begins 49 rfl) rfl (Nat.le_of_ble_eq_true rfl) (Nat.le_of_ble_eq_true rfl) (Nat.le_of_ble_eq_true rfl) rfl (fun M_112 p_114 => ?_)
                                                                    obtain ⟨f_115, e_116⟩ := p_114
                                                                    refine g_aload_n (n := 94) hx 1 (dq tX10_begins 50 rfl) rfl rfl ?_
                                                                    refine g_getR (n := 97) hx glX10_106 (sX10_33 (by decide)) (dq tX10_begins 51 rfl) rfl ?_
                                                                    refine g_aload_n (n := 98) hx 1 (dq tX10_begins 52 rfl) rfl rfl ?_
                                                                    refine g_getR (n := 101) hx glX10_34 (sX10_9 (by decide)) (dq tX10_begins 53 rfl) rfl ?_
                                                                    have e_117 : M_112 229 39 = M_105 229 39 := (f_115 229 39 (by omega))
                                                                    refine g_callSv (n := 104) (As := [aR Γ (229 + 33), aR Γ (229 + 9)]) (rest := []) hx (ctX10_lay Γ M_112 (229 + 33) (229 + 9) 12 (aX10_33 (b := 229) (by decide)) (aX10_9 (b := 229) (by decide)) (by decide) (by decide) (by decide) (by decide)) mlX10_368 (dq tX10_begins 54 rfl) rfl (Nat.le_of_ble_eq_true rfl) (Nat.le_of_ble_eq_true rfl) (Nat.le_of_ble_eq_true rfl) rfl (fun M_119 p_121 => ?_)
                                                                    obtain ⟨f_122, e_123⟩ := p_121
                                                                    refine g_aload_n (n := 105) hx 1 (dq tX10_begins 55 rfl) rfl rfl ?_
                                                                    refine g_getR (n := 108) hx glX10_109 (sX10_34 (by decide)) (dq tX10_begins 56 rfl) rfl ?_
                                                                    refine g_aload_n (n := 109) hx 1 (dq tX10_begins 57 rfl) rfl rfl ?_
                                                                    refine g_getR (n := 112) hx glX10_37 (sX10_10 (by decide)) (dq tX10_begins 58 rfl) rfl ?_
                                                                    have e_124 : M_119 229 39 = M_112 229 39 := (f_122 229 39 (by omega))
                                                                    refine g_callSv (n := 115) (As := [aR Γ (229 + 34), aR Γ (229 + 10)]) (rest := []) hx (ctX10_lay Γ M_119 (229 + 34) (229 + 10) 12 (aX10_34 (b := 229) (by decide)) (aX10_10 (b := 229) (by decide)) (by decide) (by decide) (by decide) (by decide)) mlX10_368 (dq tX10_begins 59 rfl) rfl (Nat.le_of_ble_eq_true rfl) (Nat.le_of_ble_eq_true rfl) (Nat.le_of_ble_eq_true rfl) rfl (fun M_126 p_128 => ?_)
                                                                    obtain ⟨f_129, e_130⟩ := p_128
                                                                    refine g_aload_n (n := 116) hx 1 (dq tX10_begins 60 rfl) rfl rfl ?_
                                                                    refine g_getR (n := 119) hx glX10_112 (sX10_35 (by decide)) (dq tX10_begins 61 rfl) rfl ?_
                                                                    refine g_aload_n (n := 120) hx 1 (dq tX10_begins 62 rfl) rfl rfl ?_
                                                                    refine g_getR (n := 123) hx glX10_40 (sX10_11 (by decide)) (dq tX10_begins 63 rfl) rfl ?_
                                                                    have e_131 : M_126 229 39 = M_119 229 39 := (f_129 229 39 (by omega))
                                                                    refine g_callSv (n := 126) (As := [aR Γ (229 + 35), aR Γ (229 + 11)]) (rest := []) hx (ctX10_lay Γ M_126 (229 + 35) (229 + 11) 12 (aX10_35 (b := 229) (by decide)) (aX10_11 (b := 229) (by decide)) (by decide) (by decide) (by decide) (by decide)) mlX10_368 (dq tX10_begins 64 rfl) rfl (Nat.le_of_ble_eq_true rfl) (Nat.le_of_ble_eq_true rfl) (Nat.le_of_ble_eq_true rfl) rfl (fun M_133 p_135 => ?_)
                                                                    obtain ⟨f_136, e_137⟩ := p_135
                                                                    refine g_iconst (n := 127) hx (dq tX10_begins 65 rfl) rfl ?_
                                                                    refine g_istore_n (n := 128) (lv' := [(1, vI 0), (0, aR Γ 229)]) hx (dq tX10_begins 66 rfl) (by decide) rfl rfl ?_
                                                                    have L_140 : ∀ (n_ : Nat) (i_138 : Int) (M_139 : zM), (0 ≤ i_138) → (i_138 ≤ 9) → (∀ u_ v_, u_ ≠ 229 + 3 → M_139 u_ v_ = M_133 u_ v_) → ((9 - i_138).toNat = n_) → G Γ x 2 (QV Γ x (qctX10_begins3 M)) M_139 128 [(1, vI i_138), (0, aR Γ 229)] [] := by
                                                                      intro n_
                                                                      induction n_ using Nat.strongRecOn with
                                                                      | _ n_ ih_141 =>
                                                                        intro i_138 M_139 h_144 h_145 f_142 hm_143
                                                                        refine g_iload_n (n := 129) hx 0 (dq tX10_begins 67 rfl) rfl rfl ?_
                                                                        refine g_bipush (n := 131) hx (dq tX10_begins 68 rfl) rfl (by decide) ?_
                                                                        refine g_icmp_ge (n := 134) (t := 147) hx (dq tX10_begins 69 rfl) (by decide) rfl ⟨by omega, by omega⟩ ⟨by decide, by decide⟩ (fun c_146 => ?_) (fun c_146 => ?_)
                                                                        · refine g_iconst (n := 148) hx (dq tX10_begins 77 rfl) rfl ?_
                                                                          refine g_istore_n (n := 149) (lv' := [(1, vI 0), (0, aR Γ 229)]) hx (dq tX10_begins 78 rfl) (by decide) rfl rfl ?_
                                                                          have L_149 : ∀ (n_ : Nat) (i_147 : Int) (M_148 : zM), (0 ≤ i_147) → (i_147 ≤ 6) → (∀ u_ v_, u_ ≠ 229 + 7 ∧ u_ ≠ 229 + 6 → M_148 u_ v_ = M_139 u_ v_) → (Vr M_148 i_147) → ((6 - i_147).toNat = n_) → G Γ x 2 (QV Γ x (qctX10_begins3 M)) M_148 149 [(1, vI i_147), (0, aR Γ 229)] [] := by
                                                                            intro n_
                                                                            induction n_ using Nat.strongRecOn with
                                                                            | _ n_ ih_150 =>
                                                                              intro i_147 M_148 h_154 h_155 f_151 h_153 hm_152
                                                                              refine g_iload_n (n := 150) hx 0 (dq tX10_begins 79 rfl) rfl rfl ?_
                                                                              refine g_bipush (n := 152) hx (dq tX10_begins 80 rfl) rfl (by decide) ?_
                                                                              refine g_icmp_ge (n := 155) (t := 175) hx (dq tX10_begins 81 rfl) (by decide) rfl ⟨by omega, by omega⟩ ⟨by decide, by decide⟩ (fun c_156 => ?_) (fun c_156 => ?_)
                                                                              · refine g_iconst (n := 176) hx (dq tX10_begins 94 rfl) rfl ?_
                                                                                refine g_istore_n (n := 177) (lv' := [(1, vI 0), (0, aR Γ 229)]) hx (dq tX10_begins 95 rfl) (by decide) rfl rfl ?_
                                                                                have L_159 : ∀ (n_ : Nat) (i_157 : Int) (M_158 : zM), (0 ≤ i_157) → (i_157 ≤ 36) → (∀ u_ v_, u_ ≠ 229 + 8 → M_158 u_ v_ = M_148 u_ v_) → ((36 - i_157).toNat = n_) → G Γ x 2 (QV Γ x (qctX10_begins3 M)) M_158 177 [(1, vI i_157), (0, aR Γ 229)] [] := by
                                                                                  intro n_
                                                                                  induction n_ using Nat.strongRecOn with
                                                                                  | _ n_ ih_160 =>
                                                                                    intro i_157 M_158 h_163 h_164 f_161 hm_162
                                                                                    refine g_iload_n (n := 178) hx 0 (dq tX10_begins 96 rfl) rfl rfl ?_
                                                                                    refine g_aload_n (n := 179) hx 1 (dq tX10_begins 97 rfl) rfl rfl ?_
                                                                                    refine g_getR (n := 182) hx glX10_31 (sX10_8 (by decide)) (dq tX10_begins 98 rfl) rfl ?_
                                                                                    refine g_alen (n := 183) hx (akI (aX10_8 (b := 229) (by decide))) (dq tX10_begins 99 rfl) rfl ?_
                                                                                    refine g_icmp_ge (n := 186) (t := 199) hx (dq tX10_begins 100 rfl) (by decide) rfl ⟨by omega, by omega⟩ ⟨by decide, by decide⟩ (fun c_165 => ?_) (fun c_165 => ?_)
                                                                                    · refine g_iconst (n := 200) hx (dq tX10_begins 108 rfl) rfl ?_
                                                                                      refine g_istore_n (n := 201) (lv' := [(1, vI 0), (0, aR Γ 229)]) hx (dq tX10_begins 109 rfl) (by decide) rfl rfl ?_
                                                                                      have L_168 : ∀ (n_ : Nat) (i_166 : Int) (M_167 : zM), (0 ≤ i_166) → (i_166 ≤ 12) → (∀ u_ v_, u_ ≠ 229 + 17 ∧ u_ ≠ 229 + 16 ∧ u_ ≠ 229 + 15 ∧ u_ ≠ 229 + 14 ∧ u_ ≠ 229 + 18 ∧ u_ ≠ 229 + 13 ∧ u_ ≠ 229 + 12 → M_167 u_ v_ = M_158 u_ v_) → (Bg M_167 M i_166) → ((12 - i_166).toNat = n_) → G Γ x 2 (QV Γ x (qctX10_begins3 M)) M_167 201 [(1, vI i_166), (0, aR Γ 229)] [] := by
                                                                                        intro n_
                                                                                        induction n_ using Nat.strongRecOn with
                                                                                        | _ n_ ih_169 =>
                                                                                          intro i_166 M_167 h_173 h_174 f_170 h_172 hm_171
                                                                                          refine g_iload_n (n := 202) hx 0 (dq tX10_begins 110 rfl) rfl rfl ?_
                                                                                          refine g_bipush (n := 204) hx (dq tX10_begins 111 rfl) rfl (by decide) ?_
                                                                                          refine g_icmp_ge (n := 207) (t := 278) hx (dq tX10_begins 112 rfl) (by decide) rfl ⟨by omega, by omega⟩ ⟨by decide, by decide⟩ (fun c_175 => ?_) (fun c_175 => ?_)
                                                                                          · have e_176 : M_167 229 39 = M_126 229 39 := (((((f_170 229 39 (by omega))).trans (f_161 229 39 (by omega))).trans (f_151 229 39 (by omega))).trans (f_142 229 39 (by omega))).trans (f_136 229 39 (by omega))
                                                                                            exact g_vret hx hr (dq tX10_begins 160 rfl) ⟨(fun u_ v_ huv_ => (((((((((((((((((((((((((((((f_170 u_ v_ (by omega)).trans (f_161 u_ v_ (by omega))).trans (f_151 u_ v_ (by omega))).trans (f_142 u_ v_ (by omega))).trans (f_136 u_ v_ (by omega))).trans (f_129 u_ v_ (by omega))).trans (f_122 u_ v_ (by omega))).trans (f_115 u_ v_ (by omega))).trans (f_108 u_ v_ (by omega))).trans (f_101 u_ v_ (by omega))).trans (m_95 u_ v_ (by omega))).trans (m_92 u_ v_ (by omega))).trans (m_89 u_ v_ (by omega))).trans (m_85 u_ v_ (by omega))).trans (m_80 u_ v_ (by omega))).trans (m_75 u_ v_ (by omega))).trans (m_70 u_ v_ (by omega))).trans (m_65 u_ v_ (by omega))).trans (m_60 u_ v_ (by omega))).trans (m_55 u_ v_ (by omega))).trans (m_50 u_ v_ (by omega))).trans (m_45 u_ v_ (by omega))).trans (m_40 u_ v_ (by omega))).trans (m_35 u_ v_ (by omega))).trans (m_30 u_ v_ (by omega))).trans (m_24 u_ v_ (by omega))).trans (m_18 u_ v_ (by omega))).trans (m_12 u_ v_ (by omega))).trans (m_6 u_ v_ (by omega)))), (Gm.begins hIb ex0 ex1 (by omega) (Bg.to h_172 (by omega)) ((((((((((((((((((((((((((((((f_170 (229 + 1) 1 (by omega)).trans (f_161 (229 + 1) 1 (by omega))).trans (f_151 (229 + 1) 1 (by omega))).trans (f_142 (229 + 1) 1 (by omega))).trans (f_136 (229 + 1) 1 (by omega))).trans (f_129 (229 + 1) 1 (by omega))).trans (f_122 (229 + 1) 1 (by omega))).trans (f_115 (229 + 1) 1 (by omega))).trans (f_108 (229 + 1) 1 (by omega))).trans (f_101 (229 + 1) 1 (by omega))).trans (m_95 (229 + 1) 1 (by omega))).trans (m_92 (229 + 1) 1 (by omega))).trans (m_89 (229 + 1) 1 (by omega))).trans (m_85 (229 + 1) 1 (by omega))).trans (m_80 (229 + 1) 1 (by omega))).trans (m_75 (229 + 1) 1 (by omega))).trans (m_70 (229 + 1) 1 (by omega))).trans (m_65 (229 + 1) 1 (by omega))).trans (m_60 (229 + 1) 1 (by omega))).trans (m_55 (229 + 1) 1 (by omega))).trans (m_50 (229 + 1) 1 (by omega))).trans (m_45 (229 + 1) 1 (by omega))).trans (m_40 (229 + 1) 1 (by omega))).trans (m_35 (229 + 1) 1 (by omega))).trans (m_30 (229 + 1) 1 (by omega))).trans (m_24 (229 + 1) 1 (by omega))).trans (m_18 (229 + 1) 1 (by omega)))).trans m_12e).trans (m_6 (229 + 29) 1 (by omega))) ((((((((((((((((((((((((((((f_170 (229 + 1) 3 (by omega)).trans (f_161 (229 + 1) 3 (by omega))).trans (f_151 (229 + 1) 3 (by omega))).trans (f_142 (229 + 1) 3 (by omega))).trans (f_136 (229 + 1) 3 (by omega))).trans (f_129 (229 + 1) 3 (by omega))).trans (f_122 (229 + 1) 3 (by omega))).trans (f_115 (229 + 1) 3 (by omega))).trans (f_108 (229 + 1) 3 (by omega))).trans (f_101 (229 + 1) 3 (by omega))).trans (m_95 (229 + 1) 3 (by omega))).trans (m_92 (229 + 1) 3 (by omega))).trans (m_89 (229 + 1) 3 (by omega))).trans (m_85 (229 + 1) 3 (by omega))).trans (m_80 (229 + 1) 3 (by omega))).trans (m_75 (229 + 1) 3 (by omega))).trans (m_70 (229 + 1) 3 (by omega))).trans (m_65 (229 + 1) 3 (by omega))).trans (m_60 (229 + 1) 3 (by omega))).trans (m_55 (229 + 1) 3 (by omega))).trans (m_50 (229 + 1) 3 (by omega))).trans (m_45 (229 + 1) 3 (by omega))).trans (m_40 (229 + 1) 3 (by omega))).trans (m_35 (229 + 1) 3 (by omega))).trans (m_30 (229 + 1) 3 (by omega)))).trans m_24e).trans (((m_18 (229 + 29) 3 (by omega)).trans (m_12 (229 + 29) 3 (by omega))).trans (m_6 (229 + 29) 3 (by omega)))) (fun j hj => ((((((((f_170 (229 + 5) j (by omega)).trans (f_161 (229 + 5) j (by omega))).trans (f_151 (229 + 5) j (by omega))).trans (f_142 (229 + 5) j (by omega))).trans (f_136 (229 + 5) j (by omega))).trans (f_129 (229 + 5) j (by omega))).trans (f_122 (229 + 5) j (by omega)))).trans ((e_116 j hj).trans ((((((((((((((((((((((f_108 (229 + 32) j (by omega)).trans (f_101 (229 + 32) j (by omega))).trans (m_95 (229 + 32) j (by omega))).trans (m_92 (229 + 32) j (by omega))).trans (m_89 (229 + 32) j (by omega))).trans (m_85 (229 + 32) j (by omega))).trans (m_80 (229 + 32) j (by omega))).trans (m_75 (229 + 32) j (by omega))).trans (m_70 (229 + 32) j (by omega))).trans (m_65 (229 + 32) j (by omega))).trans (m_60 (229 + 32) j (by omega))).trans (m_55 (229 + 32) j (by omega))).trans (m_50 (229 + 32) j (by omega))).trans (m_45 (229 + 32) j (by omega))).trans (m_40 (229 + 32) j (by omega))).trans (m_35 (229 + 32) j (by omega))).trans (m_30 (229 + 32) j (by omega))).trans (m_24 (229 + 32) j (by omega))).trans (m_18 (229 + 32) j (by omega))).trans (m_12 (229 + 32) j (by omega))).trans (m_6 (229 + 32) j (by omega)))))) (fun j hj => (((((((f_170 (229 + 9) j (by omega)).trans (f_161 (229 + 9) j (by omega))).trans (f_151 (229 + 9) j (by omega))).trans (f_142 (229 + 9) j (by omega))).trans (f_136 (229 + 9) j (by omega))).trans (f_129 (229 + 9) j (by omega)))).trans ((e_123 j hj).trans (((((((((((((((((((((((f_115 (229 + 33) j (by omega)).trans (f_108 (229 + 33) j (by omega))).trans (f_101 (229 + 33) j (by omega))).trans (m_95 (229 + 33) j (by omega))).trans (m_92 (229 + 33) j (by omega))).trans (m_89 (229 + 33) j (by omega))).trans (m_85 (229 + 33) j (by omega))).trans (m_80 (229 + 33) j (by omega))).trans (m_75 (229 + 33) j (by omega))).trans (m_70 (229 + 33) j (by omega))).trans (m_65 (229 + 33) j (by omega))).trans (m_60 (229 + 33) j (by omega))).trans (m_55 (229 + 33) j (by omega))).trans (m_50 (229 + 33) j (by omega))).trans (m_45 (229 + 33) j (by omega))).trans (m_40 (229 + 33) j (by omega))).trans (m_35 (229 + 33) j (by omega))).trans (m_30 (229 + 33) j (by omega))).trans (m_24 (229 + 33) j (by omega))).trans (m_18 (229 + 33) j (by omega))).trans (m_12 (229 + 33) j (by omega))).trans (m_6 (229 + 33) j (by omega))))))), (On.begins (Bg.to h_172 (by omega)) (by have q1 : M_167 (229 + 1) 3 = M (229 + 29) 3 := ((((((((((((((((((((((((((((f_170 (229 + 1) 3 (by omega)).trans (f_161 (229 + 1) 3 (by omega))).trans (f_151 (229 + 1) 3 (by omega))).trans (f_142 (229 + 1) 3 (by omega))).trans (f_136 (229 + 1) 3 (by omega))).trans (f_129 (229 + 1) 3 (by omega))).trans (f_122 (229 + 1) 3 (by omega))).trans (f_115 (229 + 1) 3 (by omega))).trans (f_108 (229 + 1) 3 (by omega))).trans (f_101 (229 + 1) 3 (by omega))).trans (m_95 (229 + 1) 3 (by omega))).trans (m_92 (229 + 1) 3 (by omega))).trans (m_89 (229 + 1) 3 (by omega))).trans (m_85 (229 + 1) 3 (by omega))).trans (m_80 (229 + 1) 3 (by omega))).trans (m_75 (229 + 1) 3 (by omega))).trans (m_70 (229 + 1) 3 (by omega))).trans (m_65 (229 + 1) 3 (by omega))).trans (m_60 (229 + 1) 3 (by omega))).trans (m_55 (229 + 1) 3 (by omega))).trans (m_50 (229 + 1) 3 (by omega))).trans (m_45 (229 + 1) 3 (by omega))).trans (m_40 (229 + 1) 3 (by omega))).trans (m_35 (229 + 1) 3 (by omega))).trans (m_30 (229 + 1) 3 (by omega)))).trans m_24e).trans (((m_18 (229 + 29) 3 (by omega)).trans (m_12 (229 + 29) 3 (by omega))).trans (m_6 (229 + 29) 3 (by omega)))); have q2 : (0 : Int) ≤ M (229 + 29) 3 ∧ M (229 + 29) 3 ≤ 12 := hIb 258 3; omega)), (Rl.begins ex2 (by have q2 : (0 : Int) ≤ M 229 41 ∧ M 229 41 ≤ 6 := hIb 229 41; omega) (by have q1 : M_167 (229 + 1) 1 = M (229 + 29) 1 := ((((((((((((((((((((((((((((((f_170 (229 + 1) 1 (by omega)).trans (f_161 (229 + 1) 1 (by omega))).trans (f_151 (229 + 1) 1 (by omega))).trans (f_142 (229 + 1) 1 (by omega))).trans (f_136 (229 + 1) 1 (by omega))).trans (f_129 (229 + 1) 1 (by omega))).trans (f_122 (229 + 1) 1 (by omega))).trans (f_115 (229 + 1) 1 (by omega))).trans (f_108 (229 + 1) 1 (by omega))).trans (f_101 (229 + 1) 1 (by omega))).trans (m_95 (229 + 1) 1 (by omega))).trans (m_92 (229 + 1) 1 (by omega))).trans (m_89 (229 + 1) 1 (by omega))).trans (m_85 (229 + 1) 1 (by omega))).trans (m_80 (229 + 1) 1 (by omega))).trans (m_75 (229 + 1) 1 (by omega))).trans (m_70 (229 + 1) 1 (by omega))).trans (m_65 (229 + 1) 1 (by omega))).trans (m_60 (229 + 1) 1 (by omega))).trans (m_55 (229 + 1) 1 (by omega))).trans (m_50 (229 + 1) 1 (by omega))).trans (m_45 (229 + 1) 1 (by omega))).trans (m_40 (229 + 1) 1 (by omega))).trans (m_35 (229 + 1) 1 (by omega))).trans (m_30 (229 + 1) 1 (by omega))).trans (m_24 (229 + 1) 1 (by omega))).trans (m_18 (229 + 1) 1 (by omega)))).trans m_12e).trans (m_6 (229 + 29) 1 (by omega))); have q2 : (0 : Int) ≤ M (229 + 29) 1 ∧ M (229 + 29) 1 ≤ 6 := hIb 258 1; omega) (fun i hi => (((f_170 (229 + 6) i (by omega)).trans (f_161 (229 + 6) i (by omega)))).trans (h_153 i (by omega))) (((((((((((((((((((((((((f_170 (229 + 1) 5 (by omega)).trans (f_161 (229 + 1) 5 (by omega))).trans (f_151 (229 + 1) 5 (by omega))).trans (f_142 (229 + 1) 5 (by omega))).trans (f_136 (229 + 1) 5 (by omega))).trans (f_129 (229 + 1) 5 (by omega))).trans (f_122 (229 + 1) 5 (by omega))).trans (f_115 (229 + 1) 5 (by omega))).trans (f_108 (229 + 1) 5 (by omega))).trans (f_101 (229 + 1) 5 (by omega))).trans (m_95 (229 + 1) 5 (by omega))).trans (m_92 (229 + 1) 5 (by omega))).trans (m_89 (229 + 1) 5 (by omega))).trans (m_85 (229 + 1) 5 (by omega))).trans (m_80 (229 + 1) 5 (by omega))).trans (m_75 (229 + 1) 5 (by omega))).trans (m_70 (229 + 1) 5 (by omega))).trans (m_65 (229 + 1) 5 (by omega))).trans (m_60 (229 + 1) 5 (by omega))).trans (m_55 (229 + 1) 5 (by omega))).trans (m_50 (229 + 1) 5 (by omega))).trans (m_45 (229 + 1) 5 (by omega))).trans (m_40 (229 + 1) 5 (by omega)))).trans m_35e) ((((((((((((((f_170 (229 + 1) 6 (by omega)).trans (f_161 (229 + 1) 6 (by omega))).trans (f_151 (229 + 1) 6 (by omega))).trans (f_142 (229 + 1) 6 (by omega))).trans (f_136 (229 + 1) 6 (by omega))).trans (f_129 (229 + 1) 6 (by omega))).trans (f_122 (229 + 1) 6 (by omega))).trans (f_115 (229 + 1) 6 (by omega))).trans (f_108 (229 + 1) 6 (by omega))).trans (f_101 (229 + 1) 6 (by omega))).trans (m_95 (229 + 1) 6 (by omega))).trans (m_92 (229 + 1) 6 (by omega)))).trans m_89e) (((((((((((((f_170 (229 + 1) 15 (by omega)).trans (f_161 (229 + 1) 15 (by omega))).trans (f_151 (229 + 1) 15 (by omega))).trans (f_142 (229 + 1) 15 (by omega))).trans (f_136 (229 + 1) 15 (by omega))).trans (f_129 (229 + 1) 15 (by omega))).trans (f_122 (229 + 1) 15 (by omega))).trans (f_115 (229 + 1) 15 (by omega))).trans (f_108 (229 + 1) 15 (by omega))).trans (f_101 (229 + 1) 15 (by omega))).trans (m_95 (229 + 1) 15 (by omega)))).trans m_92e) (fun c j hcj => (((((((((((((((((((((((((((((f_170 c j (by omega)).trans (f_161 c j (by omega))).trans (f_151 c j (by omega))).trans (f_142 c j (by omega))).trans (f_136 c j (by omega))).trans (f_129 c j (by omega))).trans (f_122 c j (by omega))).trans (f_115 c j (by omega))).trans (f_108 c j (by omega))).trans (f_101 c j (by omega))).trans (m_95 c j (by omega))).trans (m_92 c j (by omega))).trans (m_89 c j (by omega))).trans (m_85 c j (by omega))).trans (m_80 c j (by omega))).trans (m_75 c j (by omega))).trans (m_70 c j (by omega))).trans (m_65 c j (by omega))).trans (m_60 c j (by omega))).trans (m_55 c j (by omega))).trans (m_50 c j (by omega))).trans (m_45 c j (by omega))).trans (m_40 c j (by omega))).trans (m_35 c j (by omega))).trans (m_30 c j (by omega))).trans (m_24 c j (by omega))).trans (m_18 c j (by omega))).trans (m_12 c j (by omega))).trans (m_6 c j (by omega))))), (((((((((((((((((((((((f_170 (229 + 1) 7 (by omega)).trans (f_161 (229 + 1) 7 (by omega))).trans (f_151 (229 + 1) 7 (by omega))).trans (f_142 (229 + 1) 7 (by omega))).trans (f_136 (229 + 1) 7 (by omega))).trans (f_129 (229 + 1) 7 (by omega))).trans (f_122 (229 + 1) 7 (by omega))).trans (f_115 (229 + 1) 7 (by omega))).trans (f_108 (229 + 1) 7 (by omega))).trans (f_101 (229 + 1) 7 (by omega))).trans (m_95 (229 + 1) 7 (by omega))).trans (m_92 (229 + 1) 7 (by omega))).trans (m_89 (229 + 1) 7 (by omega))).trans (m_85 (229 + 1) 7 (by omega))).trans (m_80 (229 + 1) 7 (by omega))).trans (m_75 (229 + 1) 7 (by omega))).trans (m_70 (229 + 1) 7 (by omega))).trans (m_65 (229 + 1) 7 (by omega))).trans (m_60 (229 + 1) 7 (by omega))).trans (m_55 (229 + 1) 7 (by omega))).trans (m_50 (229 + 1) 7 (by omega)))).trans m_45e), (((((((((((((((((((((((((((((((f_170 (229 + 1) 0 (by omega)).trans (f_161 (229 + 1) 0 (by omega))).trans (f_151 (229 + 1) 0 (by omega))).trans (f_142 (229 + 1) 0 (by omega))).trans (f_136 (229 + 1) 0 (by omega))).trans (f_129 (229 + 1) 0 (by omega))).trans (f_122 (229 + 1) 0 (by omega))).trans (f_115 (229 + 1) 0 (by omega))).trans (f_108 (229 + 1) 0 (by omega))).trans (f_101 (229 + 1) 0 (by omega))).trans (m_95 (229 + 1) 0 (by omega))).trans (m_92 (229 + 1) 0 (by omega))).trans (m_89 (229 + 1) 0 (by omega))).trans (m_85 (229 + 1) 0 (by omega))).trans (m_80 (229 + 1) 0 (by omega))).trans (m_75 (229 + 1) 0 (by omega))).trans (m_70 (229 + 1) 0 (by omega))).trans (m_65 (229 + 1) 0 (by omega))).trans (m_60 (229 + 1) 0 (by omega))).trans (m_55 (229 + 1) 0 (by omega))).trans (m_50 (229 + 1) 0 (by omega))).trans (m_45 (229 + 1) 0 (by omega))).trans (m_40 (229 + 1) 0 (by omega))).trans (m_35 (229 + 1) 0 (by omega))).trans (m_30 (229 + 1) 0 (by omega))).trans (m_24 (229 + 1) 0 (by omega))).trans (m_18 (229 + 1) 0 (by omega))).trans (m_12 (229 + 1) 0 (by omega)))).trans m_6e).trans rfl), ((((((((((((((((((((((((((((((f_170 (229 + 1) 1 (by omega)).trans (f_161 (229 + 1) 1 (by omega))).trans (f_151 (229 + 1) 1 (by omega))).trans (f_142 (229 + 1) 1 (by omega))).trans (f_136 (229 + 1) 1 (by omega))).trans (f_129 (229 + 1) 1 (by omega))).trans (f_122 (229 + 1) 1 (by omega))).trans (f_115 (229 + 1) 1 (by omega))).trans (f_108 (229 + 1) 1 (by omega))).trans (f_101 (229 + 1) 1 (by omega))).trans (m_95 (229 + 1) 1 (by omega))).trans (m_92 (229 + 1) 1 (by omega))).trans (m_89 (229 + 1) 1 (by omega))).trans (m_85 (229 + 1) 1 (by omega))).trans (m_80 (229 + 1) 1 (by omega))).trans (m_75 (229 + 1) 1 (by omega))).trans (m_70 (229 + 1) 1 (by omega))).trans (m_65 (229 + 1) 1 (by omega))).trans (m_60 (229 + 1) 1 (by omega))).trans (m_55 (229 + 1) 1 (by omega))).trans (m_50 (229 + 1) 1 (by omega))).trans (m_45 (229 + 1) 1 (by omega))).trans (m_40 (229 + 1) 1 (by omega))).trans (m_35 (229 + 1) 1 (by omega))).trans (m_30 (229 + 1) 1 (by omega))).trans (m_24 (229 + 1) 1 (by omega))).trans (m_18 (229 + 1) 1 (by omega)))).trans m_12e).trans (m_6 (229 + 29) 1 (by omega))), ((((((((((((((((((((((((((((f_170 (229 + 1) 3 (by omega)).trans (f_161 (229 + 1) 3 (by omega))).trans (f_151 (229 + 1) 3 (by omega))).trans (f_142 (229 + 1) 3 (by omega))).trans (f_136 (229 + 1) 3 (by omega))).trans (f_129 (229 + 1) 3 (by omega))).trans (f_122 (229 + 1) 3 (by omega))).trans (f_115 (229 + 1) 3 (by omega))).trans (f_108 (229 + 1) 3 (by omega))).trans (f_101 (229 + 1) 3 (by omega))).trans (m_95 (229 + 1) 3 (by omega))).trans (m_92 (229 + 1) 3 (by omega))).trans (m_89 (229 + 1) 3 (by omega))).trans (m_85 (229 + 1) 3 (by omega))).trans (m_80 (229 + 1) 3 (by omega))).trans (m_75 (229 + 1) 3 (by omega))).trans (m_70 (229 + 1) 3 (by omega))).trans (m_65 (229 + 1) 3 (by omega))).trans (m_60 (229 + 1) 3 (by omega))).trans (m_55 (229 + 1) 3 (by omega))).trans (m_50 (229 + 1) 3 (by omega))).trans (m_45 (229 + 1) 3 (by omega))).trans (m_40 (229 + 1) 3 (by omega))).trans (m_35 (229 + 1) 3 (by omega))).trans (m_30 (229 + 1) 3 (by omega)))).trans m_24e).trans (((m_18 (229 + 29) 3 (by omega)).trans (m_12 (229 + 29) 3 (by omega))).trans (m_6 (229 + 29) 3 (by omega)))), ((((((((((((f_170 (229 + 1) 8 (by omega)).trans (f_161 (229 + 1) 8 (by omega))).trans (f_151 (229 + 1) 8 (by omega))).trans (f_142 (229 + 1) 8 (by omega))).trans (f_136 (229 + 1) 8 (by omega))).trans (f_129 (229 + 1) 8 (by omega))).trans (f_122 (229 + 1) 8 (by omega))).trans (f_115 (229 + 1) 8 (by omega))).trans (f_108 (229 + 1) 8 (by omega))).trans (f_101 (229 + 1) 8 (by omega)))).trans m_95e), (((((((((((((f_170 (229 + 1) 15 (by omega)).trans (f_161 (229 + 1) 15 (by omega))).trans (f_151 (229 + 1) 15 (by omega))).trans (f_142 (229 + 1) 15 (by omega))).trans (f_136 (229 + 1) 15 (by omega))).trans (f_129 (229 + 1) 15 (by omega))).trans (f_122 (229 + 1) 15 (by omega))).trans (f_115 (229 + 1) 15 (by omega))).trans (f_108 (229 + 1) 15 (by omega))).trans (f_101 (229 + 1) 15 (by omega))).trans (m_95 (229 + 1) 15 (by omega)))).trans m_92e), (((((((((((((((((((((((((f_170 (229 + 1) 5 (by omega)).trans (f_161 (229 + 1) 5 (by omega))).trans (f_151 (229 + 1) 5 (by omega))).trans (f_142 (229 + 1) 5 (by omega))).trans (f_136 (229 + 1) 5 (by omega))).trans (f_129 (229 + 1) 5 (by omega))).trans (f_122 (229 + 1) 5 (by omega))).trans (f_115 (229 + 1) 5 (by omega))).trans (f_108 (229 + 1) 5 (by omega))).trans (f_101 (229 + 1) 5 (by omega))).trans (m_95 (229 + 1) 5 (by omega))).trans (m_92 (229 + 1) 5 (by omega))).trans (m_89 (229 + 1) 5 (by omega))).trans (m_85 (229 + 1) 5 (by omega))).trans (m_80 (229 + 1) 5 (by omega))).trans (m_75 (229 + 1) 5 (by omega))).trans (m_70 (229 + 1) 5 (by omega))).trans (m_65 (229 + 1) 5 (by omega))).trans (m_60 (229 + 1) 5 (by omega))).trans (m_55 (229 + 1) 5 (by omega))).trans (m_50 (229 + 1) 5 (by omega))).trans (m_45 (229 + 1) 5 (by omega))).trans (m_40 (229 + 1) 5 (by omega)))).trans m_35e), (((((((((((((((((((f_170 (229 + 1) 11 (by omega)).trans (f_161 (229 + 1) 11 (by omega))).trans (f_151 (229 + 1) 11 (by omega))).trans (f_142 (229 + 1) 11 (by omega))).trans (f_136 (229 + 1) 11 (by omega))).trans (f_129 (229 + 1) 11 (by omega))).trans (f_122 (229 + 1) 11 (by omega))).trans (f_115 (229 + 1) 11 (by omega))).trans (f_108 (229 + 1) 11 (by omega))).trans (f_101 (229 + 1) 11 (by omega))).trans (m_95 (229 + 1) 11 (by omega))).trans (m_92 (229 + 1) 11 (by omega))).trans (m_89 (229 + 1) 11 (by omega))).trans (m_85 (229 + 1) 11 (by omega))).trans (m_80 (229 + 1) 11 (by omega))).trans (m_75 (229 + 1) 11 (by omega))).trans (m_70 (229 + 1) 11 (by omega)))).trans m_65e), (fun i hi => (((f_170 (229 + 6) i (by omega)).trans (f_161 (229 + 6) i (by omega)))).trans (h_153 i (by omega)))⟩
                                                                                          · refine g_aload_n (n := 208) hx 1 (dq tX10_begins 113 rfl) rfl rfl ?_
                                                                                            refine g_getR (n := 211) hx glX10_43 (sX10_12 (by decide)) (dq tX10_begins 114 rfl) rfl ?_
                                                                                            refine g_iload_n (n := 212) hx 0 (dq tX10_begins 115 rfl) rfl rfl ?_
                                                                                            refine g_bipush (n := 214) hx (dq tX10_begins 116 rfl) rfl (by decide) ?_
                                                                                            refine g_aload_n (n := 215) hx 1 (dq tX10_begins 117 rfl) rfl rfl ?_
                                                                                            refine g_getR (n := 218) hx glX10_115 (sX10_36 (by decide)) (dq tX10_begins 118 rfl) rfl ?_
                                                                                            refine g_iload_n (n := 219) hx 0 (dq tX10_begins 119 rfl) rfl rfl ?_
                                                                                            refine g_iald (n := 220) (q := i_166.toNat) hx (aX10_36 (b := 229) (by decide)) (dq tX10_begins 120 rfl) rfl (by omega) (by omega) (by omega) rfl (fun h_177l h_177u => ?_)
                                                                                            by_cases hf_178 : 0 ≤ M_167 (229 + 36) i_166.toNat ∧ M_167 (229 + 36) i_166.toNat ≤ 5
                                                                                            · refine g_iadd (n := 221) hx (dq tX10_begins 121 rfl) rfl ?_
                                                                                              have e_179 : M_167 229 39 = M_126 229 39 := (((((f_170 229 39 (by omega))).trans (f_161 229 39 (by omega))).trans (f_151 229 39 (by omega))).trans (f_142 229 39 (by omega))).trans (f_136 229 39 (by omega))
                                                                                              refine g_iast (n := 222) (q := i_166.toNat) hx (aX10_12 (b := 229) (by decide)) (dq tX10_begins 122 rfl) rfl (by omega) (by omega) (by omega) rfl (by omega) (by omega) (fun M_180 m_181e m_181 => ?_)
                                                                                              refine g_aload_n (n := 223) hx 1 (dq tX10_begins 123 rfl) rfl rfl ?_
                                                                                              refine g_getR (n := 226) hx glX10_46 (sX10_13 (by decide)) (dq tX10_begins 124 rfl) rfl ?_
                                                                                              refine g_iload_n (n := 227) hx 0 (dq tX10_begins 125 rfl) rfl rfl ?_
                                                                                              refine g_iconst (n := 228) hx (dq tX10_begins 126 rfl) rfl ?_
                                                                                              have e_182 : M_180 229 39 = M_167 229 39 := (m_181 229 39 (by omega))
                                                                                              refine g_iast (n := 229) (q := i_166.toNat) hx (aX10_13 (b := 229) (by decide)) (dq tX10_begins 127 rfl) rfl (by omega) (by omega) (by omega) rfl (by omega) (by omega) (fun M_183 m_184e m_184 => ?_)
                                                                                              refine g_aload_n (n := 230) hx 1 (dq tX10_begins 128 rfl) rfl rfl ?_
                                                                                              refine g_getR (n := 233) hx glX10_61 (sX10_18 (by decide)) (dq tX10_begins 129 rfl) rfl ?_
                                                                                              refine g_bipush (n := 235) hx (dq tX10_begins 130 rfl) rfl (by decide) ?_
                                                                                              refine g_iload_n (n := 236) hx 0 (dq tX10_begins 131 rfl) rfl rfl ?_
                                                                                              refine g_imul (n := 237) hx (dq tX10_begins 132 rfl) rfl ?_
                                                                                              refine g_aload_n (n := 238) hx 1 (dq tX10_begins 133 rfl) rfl rfl ?_
                                                                                              refine g_getR (n := 241) hx glX10_115 (sX10_36 (by decide)) (dq tX10_begins 134 rfl) rfl ?_
                                                                                              refine g_iload_n (n := 242) hx 0 (dq tX10_begins 135 rfl) rfl rfl ?_
                                                                                              refine g_iald (n := 243) (q := i_166.toNat) hx (aX10_36 (b := 229) (by decide)) (dq tX10_begins 136 rfl) rfl (by omega) (by omega) (by omega) rfl (fun h_185l h_185u => ?_)
                                                                                              have e_186 : M_183 (229 + 36) i_166.toNat = M_167 (229 + 36) i_166.toNat := ((m_184 (229 + 36) i_166.toNat (by omega))).trans (m_181 (229 + 36) i_166.toNat (by omega))
                                                                                              have e_187 : M_183 229 39 = M_180 229 39 := (m_184 229 39 (by omega))
                                                                                              refine g_iast (n := 244) (q := (6 * i_166).toNat) hx (aX10_18 (b := 229) (by decide)) (dq tX10_begins 137 rfl) rfl (by omega) (by omega) (by omega) rfl (by omega) (by omega) (fun M_188 m_189e m_189 => ?_)
                                                                                              refine g_aload_n (n := 245) hx 1 (dq tX10_begins 138 rfl) rfl rfl ?_
                                                                                              refine g_getR (n := 248) hx glX10_49 (sX10_14 (by decide)) (dq tX10_begins 139 rfl) rfl ?_
                                                                                              refine g_iload_n (n := 249) hx 0 (dq tX10_begins 140 rfl) rfl rfl ?_
                                                                                              refine g_iconst (n := 250) hx (dq tX10_begins 141 rfl) rfl ?_
                                                                                              have e_190 : M_188 229 39 = M_183 229 39 := (m_189 229 39 (by omega))
                                                                                              refine g_iast (n := 251) (q := i_166.toNat) hx (aX10_14 (b := 229) (by decide)) (dq tX10_begins 142 rfl) rfl (by omega) (by omega) (by omega) rfl (by omega) (by omega) (fun M_191 m_192e m_192 => ?_)
                                                                                              refine g_aload_n (n := 252) hx 1 (dq tX10_begins 143 rfl) rfl rfl ?_
                                                                                              refine g_getR (n := 255) hx glX10_52 (sX10_15 (by decide)) (dq tX10_begins 144 rfl) rfl ?_
                                                                                              refine g_iload_n (n := 256) hx 0 (dq tX10_begins 145 rfl) rfl rfl ?_
                                                                                              refine g_iconst (n := 257) hx (dq tX10_begins 146 rfl) rfl ?_
                                                                                              have e_193 : M_191 229 39 = M_188 229 39 := (m_192 229 39 (by omega))
                                                                                              refine g_iast (n := 258) (q := i_166.toNat) hx (aX10_15 (b := 229) (by decide)) (dq tX10_begins 147 rfl) rfl (by omega) (by omega) (by omega) rfl (by omega) (by omega) (fun M_194 m_195e m_195 => ?_)
                                                                                              refine g_aload_n (n := 259) hx 1 (dq tX10_begins 148 rfl) rfl rfl ?_
                                                                                              refine g_getR (n := 262) hx glX10_55 (sX10_16 (by decide)) (dq tX10_begins 149 rfl) rfl ?_
                                                                                              refine g_iload_n (n := 263) hx 0 (dq tX10_begins 150 rfl) rfl rfl ?_
                                                                                              refine g_iconst (n := 264) hx (dq tX10_begins 151 rfl) rfl ?_
                                                                                              have e_196 : M_194 229 39 = M_191 229 39 := (m_195 229 39 (by omega))
                                                                                              refine g_iast (n := 265) (q := i_166.toNat) hx (aX10_16 (b := 229) (by decide)) (dq tX10_begins 152 rfl) rfl (by omega) (by omega) (by omega) rfl (by omega) (by omega) (fun M_197 m_198e m_198 => ?_)
                                                                                              refine g_aload_n (n := 266) hx 1 (dq tX10_begins 153 rfl) rfl rfl ?_
                                                                                              refine g_getR (n := 269) hx glX10_58 (sX10_17 (by decide)) (dq tX10_begins 154 rfl) rfl ?_
                                                                                              refine g_iload_n (n := 270) hx 0 (dq tX10_begins 155 rfl) rfl rfl ?_
                                                                                              refine g_iload_n (n := 271) hx 0 (dq tX10_begins 156 rfl) rfl rfl ?_
                                                                                              have e_199 : M_197 229 39 = M_194 229 39 := (m_198 229 39 (by omega))
                                                                                              refine g_iast (n := 272) (q := i_166.toNat) hx (aX10_17 (b := 229) (by decide)) (dq tX10_begins 157 rfl) rfl (by omega) (by omega) (by omega) rfl (by omega) (by omega) (fun M_200 m_201e m_201 => ?_)
                                                                                              refine g_iinc (n := 275) (lv' := [(1, vI (i_166 + 1)), (0, aR Γ 229)]) hx 0 (dq tX10_begins 158 rfl) rfl (by decide) rfl rfl ?_
                                                                                              refine g_goto (n := 201) hx (dq tX10_begins 159 rfl) (by decide) ?_
                                                                                              have e_202 : M_200 229 39 = M_197 229 39 := (m_201 229 39 (by omega))
                                                                                              exact ih_169 _ (by omega) (i_166 + 1) M_200 (by omega) (by omega) (fun u_ v_ huv_ => ((((((((m_201 u_ v_ (by omega)).trans (m_198 u_ v_ (by omega))).trans (m_195 u_ v_ (by omega))).trans (m_192 u_ v_ (by omega))).trans (m_189 u_ v_ (by omega))).trans (m_184 u_ v_ (by omega))).trans (m_181 u_ v_ (by omega))).trans (f_170 u_ v_ (by omega)))) (Bg.go h_172 (by omega) rfl (fun _ _ => (((((((m_201 (229 + 12) i_166.toNat (by omega)).trans (m_198 (229 + 12) i_166.toNat (by omega))).trans (m_195 (229 + 12) i_166.toNat (by omega))).trans (m_192 (229 + 12) i_166.toNat (by omega))).trans (m_189 (229 + 12) i_166.toNat (by omega))).trans (m_184 (229 + 12) i_166.toNat (by omega)))).trans ((m_181e).trans (by have w1 := ((((((((((((((((((((((((((((((f_170 (229 + 36) i_166.toNat (by omega)).trans (f_161 (229 + 36) i_166.toNat (by omega))).trans (f_151 (229 + 36) i_166.toNat (by omega))).trans (f_142 (229 + 36) i_166.toNat (by omega))).trans (f_136 (229 + 36) i_166.toNat (by omega))).trans (f_129 (229 + 36) i_166.toNat (by omega))).trans (f_122 (229 + 36) i_166.toNat (by omega))).trans (f_115 (229 + 36) i_166.toNat (by omega))).trans (f_108 (229 + 36) i_166.toNat (by omega))).trans (f_101 (229 + 36) i_166.toNat (by omega))).trans (m_95 (229 + 36) i_166.toNat (by omega))).trans (m_92 (229 + 36) i_166.toNat (by omega))).trans (m_89 (229 + 36) i_166.toNat (by omega))).trans (m_85 (229 + 36) i_166.toNat (by omega))).trans (m_80 (229 + 36) i_166.toNat (by omega))).trans (m_75 (229 + 36) i_166.toNat (by omega))).trans (m_70 (229 + 36) i_166.toNat (by omega))).trans (m_65 (229 + 36) i_166.toNat (by omega))).trans (m_60 (229 + 36) i_166.toNat (by omega))).trans (m_55 (229 + 36) i_166.toNat (by omega))).trans (m_50 (229 + 36) i_166.toNat (by omega))).trans (m_45 (229 + 36) i_166.toNat (by omega))).trans (m_40 (229 + 36) i_166.toNat (by omega))).trans (m_35 (229 + 36) i_166.toNat (by omega))).trans (m_30 (229 + 36) i_166.toNat (by omega))).trans (m_24 (229 + 36) i_166.toNat (by omega))).trans (m_18 (229 + 36) i_166.toNat (by omega))).trans (m_12 (229 + 36) i_166.toNat (by omega))).trans (m_6 (229 + 36) i_166.toNat (by omega))) : M_167 (229 + 36) i_166.toNat = M (229 + 36) i_166.toNat); omega))) (by have w0 : (6 * i_166).toNat = 6 * i_166.toNat := (by omega); have w1 := (((((m_201 (229 + 18) ((6 * i_166).toNat) (by omega)).trans (m_198 (229 + 18) ((6 * i_166).toNat) (by omega))).trans (m_195 (229 + 18) ((6 * i_166).toNat) (by omega))).trans (m_192 (229 + 18) ((6 * i_166).toNat) (by omega)))).trans m_189e; rw [w0] at w1; exact w1.trans ((((((((((((((((((((((((((((((((m_184 (229 + 36) i_166.toNat (by omega)).trans (m_181 (229 + 36) i_166.toNat (by omega))).trans (f_170 (229 + 36) i_166.toNat (by omega))).trans (f_161 (229 + 36) i_166.toNat (by omega))).trans (f_151 (229 + 36) i_166.toNat (by omega))).trans (f_142 (229 + 36) i_166.toNat (by omega))).trans (f_136 (229 + 36) i_166.toNat (by omega))).trans (f_129 (229 + 36) i_166.toNat (by omega))).trans (f_122 (229 + 36) i_166.toNat (by omega))).trans (f_115 (229 + 36) i_166.toNat (by omega))).trans (f_108 (229 + 36) i_166.toNat (by omega))).trans (f_101 (229 + 36) i_166.toNat (by omega))).trans (m_95 (229 + 36) i_166.toNat (by omega))).trans (m_92 (229 + 36) i_166.toNat (by omega))).trans (m_89 (229 + 36) i_166.toNat (by omega))).trans (m_85 (229 + 36) i_166.toNat (by omega))).trans (m_80 (229 + 36) i_166.toNat (by omega))).trans (m_75 (229 + 36) i_166.toNat (by omega))).trans (m_70 (229 + 36) i_166.toNat (by omega))).trans (m_65 (229 + 36) i_166.toNat (by omega))).trans (m_60 (229 + 36) i_166.toNat (by omega))).trans (m_55 (229 + 36) i_166.toNat (by omega))).trans (m_50 (229 + 36) i_166.toNat (by omega))).trans (m_45 (229 + 36) i_166.toNat (by omega))).trans (m_40 (229 + 36) i_166.toNat (by omega))).trans (m_35 (229 + 36) i_166.toNat (by omega))).trans (m_30 (229 + 36) i_166.toNat (by omega))).trans (m_24 (229 + 36) i_166.toNat (by omega))).trans (m_18 (229 + 36) i_166.toNat (by omega))).trans (m_12 (229 + 36) i_166.toNat (by omega))).trans (m_6 (229 + 36) i_166.toNat (by omega))) : M_183 (229 + 36) i_166.toNat = M (229 + 36) i_166.toNat)) ((rfl).trans m_201e) (fun j hj => (((((((m_201 (229 + 12) j (by omega)).trans (m_198 (229 + 12) j (by omega))).trans (m_195 (229 + 12) j (by omega))).trans (m_192 (229 + 12) j (by omega))).trans (m_189 (229 + 12) j (by omega))).trans (m_184 (229 + 12) j (by omega))).trans (m_181 (229 + 12) j (by omega)))) (fun j hj => (((((((m_201 (229 + 18) j (by omega)).trans (m_198 (229 + 18) j (by omega))).trans (m_195 (229 + 18) j (by omega))).trans (m_192 (229 + 18) j (by omega))).trans (m_189 (229 + 18) j (by omega))).trans (m_184 (229 + 18) j (by omega))).trans (m_181 (229 + 18) j (by omega)))) (fun j hj => (((((((m_201 (229 + 17) j (by omega)).trans (m_198 (229 + 17) j (by omega))).trans (m_195 (229 + 17) j (by omega))).trans (m_192 (229 + 17) j (by omega))).trans (m_189 (229 + 17) j (by omega))).trans (m_184 (229 + 17) j (by omega))).trans (m_181 (229 + 17) j (by omega))))) rfl
                                                                                            · refine g_iadd (n := 221) hx (dq tX10_begins 121 rfl) rfl ?_
                                                                                              refine g_any (fun z_203 h_204 => ?_)
                                                                                              have e_205 : M_167 229 39 = M_126 229 39 := (((((f_170 229 39 (by omega))).trans (f_161 229 39 (by omega))).trans (f_151 229 39 (by omega))).trans (f_142 229 39 (by omega))).trans (f_136 229 39 (by omega))
                                                                                              refine g_iast (n := 222) (q := i_166.toNat) hx (aX10_12 (b := 229) (by decide)) (dq tX10_begins 122 rfl) rfl (by omega) (by omega) (by omega) rfl (by omega) (by omega) (fun M_206 m_207e m_207 => ?_)
                                                                                              refine g_aload_n (n := 223) hx 1 (dq tX10_begins 123 rfl) rfl rfl ?_
                                                                                              refine g_getR (n := 226) hx glX10_46 (sX10_13 (by decide)) (dq tX10_begins 124 rfl) rfl ?_
                                                                                              refine g_iload_n (n := 227) hx 0 (dq tX10_begins 125 rfl) rfl rfl ?_
                                                                                              refine g_iconst (n := 228) hx (dq tX10_begins 126 rfl) rfl ?_
                                                                                              have e_208 : M_206 229 39 = M_167 229 39 := (m_207 229 39 (by omega))
                                                                                              refine g_iast (n := 229) (q := i_166.toNat) hx (aX10_13 (b := 229) (by decide)) (dq tX10_begins 127 rfl) rfl (by omega) (by omega) (by omega) rfl (by omega) (by omega) (fun M_209 m_210e m_210 => ?_)
                                                                                              refine g_aload_n (n := 230) hx 1 (dq tX10_begins 128 rfl) rfl rfl ?_
                                                                                              refine g_getR (n := 233) hx glX10_61 (sX10_18 (by decide)) (dq tX10_begins 129 rfl) rfl ?_
                                                                                              refine g_bipush (n := 235) hx (dq tX10_begins 130 rfl) rfl (by decide) ?_
                                                                                              refine g_iload_n (n := 236) hx 0 (dq tX10_begins 131 rfl) rfl rfl ?_
                                                                                              refine g_imul (n := 237) hx (dq tX10_begins 132 rfl) rfl ?_
                                                                                              refine g_aload_n (n := 238) hx 1 (dq tX10_begins 133 rfl) rfl rfl ?_
                                                                                              refine g_getR (n := 241) hx glX10_115 (sX10_36 (by decide)) (dq tX10_begins 134 rfl) rfl ?_
                                                                                              refine g_iload_n (n := 242) hx 0 (dq tX10_begins 135 rfl) rfl rfl ?_
                                                                                              refine g_iald (n := 243) (q := i_166.toNat) hx (aX10_36 (b := 229) (by decide)) (dq tX10_begins 136 rfl) rfl (by omega) (by omega) (by omega) rfl (fun h_211l h_211u => ?_)
                                                                                              have e_212 : M_209 (229 + 36) i_166.toNat = M_167 (229 + 36) i_166.toNat := ((m_210 (229 + 36) i_166.toNat (by omega))).trans (m_207 (229 + 36) i_166.toNat (by omega))
                                                                                              have e_213 : M_209 229 39 = M_206 229 39 := (m_210 229 39 (by omega))
                                                                                              refine g_iast (n := 244) (q := (6 * i_166).toNat) hx (aX10_18 (b := 229) (by decide)) (dq tX10_begins 137 rfl) rfl (by omega) (by omega) (by omega) rfl (by omega) (by omega) (fun M_214 m_215e m_215 => ?_)
                                                                                              refine g_aload_n (n := 245) hx 1 (dq tX10_begins 138 rfl) rfl rfl ?_
                                                                                              refine g_getR (n := 248) hx glX10_49 (sX10_14 (by decide)) (dq tX10_begins 139 rfl) rfl ?_
                                                                                              refine g_iload_n (n := 249) hx 0 (dq tX10_begins 140 rfl) rfl rfl ?_
                                                                                              refine g_iconst (n := 250) hx (dq tX10_begins 141 rfl) rfl ?_
                                                                                              have e_216 : M_214 229 39 = M_209 229 39 := (m_215 229 39 (by omega))
                                                                                              refine g_iast (n := 251) (q := i_166.toNat) hx (aX10_14 (b := 229) (by decide)) (dq tX10_begins 142 rfl) rfl (by omega) (by omega) (by omega) rfl (by omega) (by omega) (fun M_217 m_218e m_218 => ?_)
                                                                                              refine g_aload_n (n := 252) hx 1 (dq tX10_begins 143 rfl) rfl rfl ?_
                                                                                              refine g_getR (n := 255) hx glX10_52 (sX10_15 (by decide)) (dq tX10_begins 144 rfl) rfl ?_
                                                                                              refine g_iload_n (n := 256) hx 0 (dq tX10_begins 145 rfl) rfl rfl ?_
                                                                                              refine g_iconst (n := 257) hx (dq tX10_begins 146 rfl) rfl ?_
                                                                                              have e_219 : M_217 229 39 = M_214 229 39 := (m_218 229 39 (by omega))
                                                                                              refine g_iast (n := 258) (q := i_166.toNat) hx (aX10_15 (b := 229) (by decide)) (dq tX10_begins 147 rfl) rfl (by omega) (by omega) (by omega) rfl (by omega) (by omega) (fun M_220 m_221e m_221 => ?_)
                                                                                              refine g_aload_n (n := 259) hx 1 (dq tX10_begins 148 rfl) rfl rfl ?_
                                                                                              refine g_getR (n := 262) hx glX10_55 (sX10_16 (by decide)) (dq tX10_begins 149 rfl) rfl ?_
                                                                                              refine g_iload_n (n := 263) hx 0 (dq tX10_begins 150 rfl) rfl rfl ?_
                                                                                              refine g_iconst (n := 264) hx (dq tX10_begins 151 rfl) rfl ?_
                                                                                              have e_222 : M_220 229 39 = M_217 229 39 := (m_221 229 39 (by omega))
                                                                                              refine g_iast (n := 265) (q := i_166.toNat) hx (aX10_16 (b := 229) (by decide)) (dq tX10_begins 152 rfl) rfl (by omega) (by omega) (by omega) rfl (by omega) (by omega) (fun M_223 m_224e m_224 => ?_)
                                                                                              refine g_aload_n (n := 266) hx 1 (dq tX10_begins 153 rfl) rfl rfl ?_
                                                                                              refine g_getR (n := 269) hx glX10_58 (sX10_17 (by decide)) (dq tX10_begins 154 rfl) rfl ?_
                                                                                              refine g_iload_n (n := 270) hx 0 (dq tX10_begins 155 rfl) rfl rfl ?_
                                                                                              refine g_iload_n (n := 271) hx 0 (dq tX10_begins 156 rfl) rfl rfl ?_
                                                                                              have e_225 : M_223 229 39 = M_220 229 39 := (m_224 229 39 (by omega))
                                                                                              refine g_iast (n := 272) (q := i_166.toNat) hx (aX10_17 (b := 229) (by decide)) (dq tX10_begins 157 rfl) rfl (by omega) (by omega) (by omega) rfl (by omega) (by omega) (fun M_226 m_227e m_227 => ?_)
                                                                                              refine g_iinc (n := 275) (lv' := [(1, vI (i_166 + 1)), (0, aR Γ 229)]) hx 0 (dq tX10_begins 158 rfl) rfl (by decide) rfl rfl ?_
                                                                                              refine g_goto (n := 201) hx (dq tX10_begins 159 rfl) (by decide) ?_
                                                                                              have e_228 : M_226 229 39 = M_223 229 39 := (m_227 229 39 (by omega))
                                                                                              exact ih_169 _ (by omega) (i_166 + 1) M_226 (by omega) (by omega) (fun u_ v_ huv_ => ((((((((m_227 u_ v_ (by omega)).trans (m_224 u_ v_ (by omega))).trans (m_221 u_ v_ (by omega))).trans (m_218 u_ v_ (by omega))).trans (m_215 u_ v_ (by omega))).trans (m_210 u_ v_ (by omega))).trans (m_207 u_ v_ (by omega))).trans (f_170 u_ v_ (by omega)))) (Bg.go h_172 (by omega) rfl (fun w2 w3 => absurd (show 0 ≤ M_167 (229 + 36) i_166.toNat ∧ M_167 (229 + 36) i_166.toNat ≤ 5 by have w1 := ((((((((((((((((((((((((((((((f_170 (229 + 36) i_166.toNat (by omega)).trans (f_161 (229 + 36) i_166.toNat (by omega))).trans (f_151 (229 + 36) i_166.toNat (by omega))).trans (f_142 (229 + 36) i_166.toNat (by omega))).trans (f_136 (229 + 36) i_166.toNat (by omega))).trans (f_129 (229 + 36) i_166.toNat (by omega))).trans (f_122 (229 + 36) i_166.toNat (by omega))).trans (f_115 (229 + 36) i_166.toNat (by omega))).trans (f_108 (229 + 36) i_166.toNat (by omega))).trans (f_101 (229 + 36) i_166.toNat (by omega))).trans (m_95 (229 + 36) i_166.toNat (by omega))).trans (m_92 (229 + 36) i_166.toNat (by omega))).trans (m_89 (229 + 36) i_166.toNat (by omega))).trans (m_85 (229 + 36) i_166.toNat (by omega))).trans (m_80 (229 + 36) i_166.toNat (by omega))).trans (m_75 (229 + 36) i_166.toNat (by omega))).trans (m_70 (229 + 36) i_166.toNat (by omega))).trans (m_65 (229 + 36) i_166.toNat (by omega))).trans (m_60 (229 + 36) i_166.toNat (by omega))).trans (m_55 (229 + 36) i_166.toNat (by omega))).trans (m_50 (229 + 36) i_166.toNat (by omega))).trans (m_45 (229 + 36) i_166.toNat (by omega))).trans (m_40 (229 + 36) i_166.toNat (by omega))).trans (m_35 (229 + 36) i_166.toNat (by omega))).trans (m_30 (229 + 36) i_166.toNat (by omega))).trans (m_24 (229 + 36) i_166.toNat (by omega))).trans (m_18 (229 + 36) i_166.toNat (by omega))).trans (m_12 (229 + 36) i_166.toNat (by omega))).trans (m_6 (229 + 36) i_166.toNat (by omega))) : M_167 (229 + 36) i_166.toNat = M (229 + 36) i_166.toNat); omega) (by assumption)) (by have w0 : (6 * i_166).toNat = 6 * i_166.toNat := (by omega); have w1 := (((((m_227 (229 + 18) ((6 * i_166).toNat) (by omega)).trans (m_224 (229 + 18) ((6 * i_166).toNat) (by omega))).trans (m_221 (229 + 18) ((6 * i_166).toNat) (by omega))).trans (m_218 (229 + 18) ((6 * i_166).toNat) (by omega)))).trans m_215e; rw [w0] at w1; exact w1.trans ((((((((((((((((((((((((((((((((m_210 (229 + 36) i_166.toNat (by omega)).trans (m_207 (229 + 36) i_166.toNat (by omega))).trans (f_170 (229 + 36) i_166.toNat (by omega))).trans (f_161 (229 + 36) i_166.toNat (by omega))).trans (f_151 (229 + 36) i_166.toNat (by omega))).trans (f_142 (229 + 36) i_166.toNat (by omega))).trans (f_136 (229 + 36) i_166.toNat (by omega))).trans (f_129 (229 + 36) i_166.toNat (by omega))).trans (f_122 (229 + 36) i_166.toNat (by omega))).trans (f_115 (229 + 36) i_166.toNat (by omega))).trans (f_108 (229 + 36) i_166.toNat (by omega))).trans (f_101 (229 + 36) i_166.toNat (by omega))).trans (m_95 (229 + 36) i_166.toNat (by omega))).trans (m_92 (229 + 36) i_166.toNat (by omega))).trans (m_89 (229 + 36) i_166.toNat (by omega))).trans (m_85 (229 + 36) i_166.toNat (by omega))).trans (m_80 (229 + 36) i_166.toNat (by omega))).trans (m_75 (229 + 36) i_166.toNat (by omega))).trans (m_70 (229 + 36) i_166.toNat (by omega))).trans (m_65 (229 + 36) i_166.toNat (by omega))).trans (m_60 (229 + 36) i_166.toNat (by omega))).trans (m_55 (229 + 36) i_166.toNat (by omega))).trans (m_50 (229 + 36) i_166.toNat (by omega))).trans (m_45 (229 + 36) i_166.toNat (by omega))).trans (m_40 (229 + 36) i_166.toNat (by omega))).trans (m_35 (229 + 36) i_166.toNat (by omega))).trans (m_30 (229 + 36) i_166.toNat (by omega))).trans (m_24 (229 + 36) i_166.toNat (by omega))).trans (m_18 (229 + 36) i_166.toNat (by omega))).trans (m_12 (229 + 36) i_166.toNat (by omega))).trans (m_6 (229 + 36) i_166.toNat (by omega))) : M_209 (229 + 36) i_166.toNat = M (229 + 36) i_166.toNat)) ((rfl).trans m_227e) (fun j hj => (((((((m_227 (229 + 12) j (by omega)).trans (m_224 (229 + 12) j (by omega))).trans (m_221 (229 + 12) j (by omega))).trans (m_218 (229 + 12) j (by omega))).trans (m_215 (229 + 12) j (by omega))).trans (m_210 (229 + 12) j (by omega))).trans (m_207 (229 + 12) j (by omega)))) (fun j hj => (((((((m_227 (229 + 18) j (by omega)).trans (m_224 (229 + 18) j (by omega))).trans (m_221 (229 + 18) j (by omega))).trans (m_218 (229 + 18) j (by omega))).trans (m_215 (229 + 18) j (by omega))).trans (m_210 (229 + 18) j (by omega))).trans (m_207 (229 + 18) j (by omega)))) (fun j hj => (((((((m_227 (229 + 17) j (by omega)).trans (m_224 (229 + 17) j (by omega))).trans (m_221 (229 + 17) j (by omega))).trans (m_218 (229 + 17) j (by omega))).trans (m_215 (229 + 17) j (by omega))).trans (m_210 (229 + 17) j (by omega))).trans (m_207 (229 + 17) j (by omega))))) rfl
                                                                                      have e_229 : M_158 229 39 = M_126 229 39 := ((((f_161 229 39 (by omega))).trans (f_151 229 39 (by omega))).trans (f_142 229 39 (by omega))).trans (f_136 229 39 (by omega))
                                                                                      exact L_168 _ 0 M_158 (by omega) (by omega) (fun _ _ _ => rfl) (Bg.nil (fun q => ((((((((((((((((((((((((((((f_161 (229 + 18) q (by omega)).trans (f_151 (229 + 18) q (by omega))).trans (f_142 (229 + 18) q (by omega))).trans (f_136 (229 + 18) q (by omega))).trans (f_129 (229 + 18) q (by omega))).trans (f_122 (229 + 18) q (by omega))).trans (f_115 (229 + 18) q (by omega))).trans (f_108 (229 + 18) q (by omega))).trans (f_101 (229 + 18) q (by omega))).trans (m_95 (229 + 18) q (by omega))).trans (m_92 (229 + 18) q (by omega))).trans (m_89 (229 + 18) q (by omega))).trans (m_85 (229 + 18) q (by omega))).trans (m_80 (229 + 18) q (by omega))).trans (m_75 (229 + 18) q (by omega))).trans (m_70 (229 + 18) q (by omega))).trans (m_65 (229 + 18) q (by omega))).trans (m_60 (229 + 18) q (by omega))).trans (m_55 (229 + 18) q (by omega))).trans (m_50 (229 + 18) q (by omega))).trans (m_45 (229 + 18) q (by omega))).trans (m_40 (229 + 18) q (by omega))).trans (m_35 (229 + 18) q (by omega))).trans (m_30 (229 + 18) q (by omega))).trans (m_24 (229 + 18) q (by omega))).trans (m_18 (229 + 18) q (by omega))).trans (m_12 (229 + 18) q (by omega))).trans (m_6 (229 + 18) q (by omega))))) rfl
                                                                                    · refine g_aload_n (n := 187) hx 1 (dq tX10_begins 101 rfl) rfl rfl ?_
                                                                                      refine g_getR (n := 190) hx glX10_31 (sX10_8 (by decide)) (dq tX10_begins 102 rfl) rfl ?_
                                                                                      refine g_iload_n (n := 191) hx 0 (dq tX10_begins 103 rfl) rfl rfl ?_
                                                                                      refine g_iconst (n := 192) hx (dq tX10_begins 104 rfl) rfl ?_
                                                                                      have e_230 : M_158 229 39 = M_126 229 39 := ((((f_161 229 39 (by omega))).trans (f_151 229 39 (by omega))).trans (f_142 229 39 (by omega))).trans (f_136 229 39 (by omega))
                                                                                      refine g_iast (n := 193) (q := i_157.toNat) hx (aX10_8 (b := 229) (by decide)) (dq tX10_begins 105 rfl) rfl (by omega) (by omega) (by omega) rfl (by omega) (by omega) (fun M_231 m_232e m_232 => ?_)
                                                                                      refine g_iinc (n := 196) (lv' := [(1, vI (i_157 + 1)), (0, aR Γ 229)]) hx 0 (dq tX10_begins 106 rfl) rfl (by decide) rfl rfl ?_
                                                                                      refine g_goto (n := 177) hx (dq tX10_begins 107 rfl) (by decide) ?_
                                                                                      have e_233 : M_231 229 39 = M_158 229 39 := (m_232 229 39 (by omega))
                                                                                      exact ih_160 _ (by omega) (i_157 + 1) M_231 (by omega) (by omega) (fun u_ v_ huv_ => ((m_232 u_ v_ (by omega)).trans (f_161 u_ v_ (by omega)))) rfl
                                                                                have e_234 : M_148 229 39 = M_126 229 39 := (((f_151 229 39 (by omega))).trans (f_142 229 39 (by omega))).trans (f_136 229 39 (by omega))
                                                                                exact L_159 _ 0 M_148 (by omega) (by omega) (fun _ _ _ => rfl) rfl
                                                                              · refine g_aload_n (n := 156) hx 1 (dq tX10_begins 82 rfl) rfl rfl ?_
                                                                                refine g_getR (n := 159) hx glX10_25 (sX10_6 (by decide)) (dq tX10_begins 83 rfl) rfl ?_
                                                                                refine g_iload_n (n := 160) hx 0 (dq tX10_begins 84 rfl) rfl rfl ?_
                                                                                refine g_iconst (n := 161) hx (dq tX10_begins 85 rfl) rfl ?_
                                                                                have e_235 : M_148 229 39 = M_126 229 39 := (((f_151 229 39 (by omega))).trans (f_142 229 39 (by omega))).trans (f_136 229 39 (by omega))
                                                                                refine g_iast (n := 162) (q := i_147.toNat) hx (aX10_6 (b := 229) (by decide)) (dq tX10_begins 86 rfl) rfl (by omega) (by omega) (by omega) rfl (by omega) (by omega) (fun M_236 m_237e m_237 => ?_)
                                                                                refine g_aload_n (n := 163) hx 1 (dq tX10_begins 87 rfl) rfl rfl ?_
                                                                                refine g_getR (n := 166) hx glX10_28 (sX10_7 (by decide)) (dq tX10_begins 88 rfl) rfl ?_
                                                                                refine g_iload_n (n := 167) hx 0 (dq tX10_begins 89 rfl) rfl rfl ?_
                                                                                refine g_iconst (n := 168) hx (dq tX10_begins 90 rfl) rfl ?_
                                                                                have e_238 : M_236 229 39 = M_148 229 39 := (m_237 229 39 (by omega))
                                                                                refine g_iast (n := 169) (q := i_147.toNat) hx (aX10_7 (b := 229) (by decide)) (dq tX10_begins 91 rfl) rfl (by omega) (by omega) (by omega) rfl (by omega) (by omega) (fun M_239 m_240e m_240 => ?_)
                                                                                refine g_iinc (n := 172) (lv' := [(1, vI (i_147 + 1)), (0, aR Γ 229)]) hx 0 (dq tX10_begins 92 rfl) rfl (by decide) rfl rfl ?_
                                                                                refine g_goto (n := 149) hx (dq tX10_begins 93 rfl) (by decide) ?_
                                                                                have e_241 : M_239 229 39 = M_236 229 39 := (m_240 229 39 (by omega))
                                                                                exact ih_150 _ (by omega) (i_147 + 1) M_239 (by omega) (by omega) (fun u_ v_ huv_ => (((m_240 u_ v_ (by omega)).trans (m_237 u_ v_ (by omega))).trans (f_151 u_ v_ (by omega)))) (Vr.go h_153 (by omega) rfl (((m_240 (229 + 6) i_147.toNat (by omega))).trans m_237e) (fun j hj => ((m_240 (229 + 6) j (by omega)).trans (m_237 (229 + 6) j (by omega))))) rfl
                                                                          have e_242 : M_139 229 39 = M_126 229 39 := ((f_142 229 39 (by omega))).trans (f_136 229 39 (by omega))
                                                                          exact L_149 _ 0 M_139 (by omega) (by omega) (fun _ _ _ => rfl) Vr.nil rfl
                                                                        · refine g_aload_n (n := 135) hx 1 (dq tX10_begins 70 rfl) rfl rfl ?_
                                                                          refine g_getR (n := 138) hx glX10_16 (sX10_3 (by decide)) (dq tX10_begins 71 rfl) rfl ?_
                                                                          refine g_iload_n (n := 139) hx 0 (dq tX10_begins 72 rfl) rfl rfl ?_
                                                                          refine g_iconst (n := 140) hx (dq tX10_begins 73 rfl) rfl ?_
                                                                          have e_243 : M_139 229 39 = M_126 229 39 := ((f_142 229 39 (by omega))).trans (f_136 229 39 (by omega))
                                                                          refine g_iast (n := 141) (q := i_138.toNat) hx (aX10_3 (b := 229) (by decide)) (dq tX10_begins 74 rfl) rfl (by omega) (by omega) (by omega) rfl (by omega) (by omega) (fun M_244 m_245e m_245 => ?_)
                                                                          refine g_iinc (n := 144) (lv' := [(1, vI (i_138 + 1)), (0, aR Γ 229)]) hx 0 (dq tX10_begins 75 rfl) rfl (by decide) rfl rfl ?_
                                                                          refine g_goto (n := 128) hx (dq tX10_begins 76 rfl) (by decide) ?_
                                                                          have e_246 : M_244 229 39 = M_139 229 39 := (m_245 229 39 (by omega))
                                                                          exact ih_141 _ (by omega) (i_138 + 1) M_244 (by omega) (by omega) (fun u_ v_ huv_ => ((m_245 u_ v_ (by omega)).trans (f_142 u_ v_ (by omega)))) rfl
                                                                    have e_247 : M_133 229 39 = M_126 229 39 := (f_136 229 39 (by omega))
                                                                    exact L_140 _ 0 M_133 (by omega) (by omega) (fun _ _ _ => rfl) rfl
                                                                  · omega
                                                                · omega
                                                            · omega
                                                        · omega
                                                    · omega
                                                · omega
                                            · omega
                                        · omega
                                    · omega
                                · omega
                            · omega
                        · omega
