abbrev qctX10_test3 (M : zM) (ua : Int) (ud : Int) (un : Int) (us : Int) (t9 : Nat → Int) (n9 : Nat) (a9 : Nat) (M' : zM) : Prop := (∀ u_ v_, (u_ ≠ 229 ∨ v_ ≠ 38) ∧ (u_ ≠ 229 ∨ v_ ≠ 39) ∧ (u_ ≠ 229 ∨ v_ ≠ 42) ∧ (u_ ≠ 229 ∨ v_ ≠ 44) ∧ u_ ≠ 229 + 38 ∧ u_ ≠ 229 + 39 ∧ (u_ ≠ 229 ∨ v_ ≠ 43) ∧ (u_ ≠ 229 ∨ v_ ≠ 45) ∧ u_ ≠ 229 + 45 → M' u_ v_ = M u_ v_) ∧ (M' 229 39 = 0 → RunOk M' (M' 229 40).toNat (M 229 42) (M' 229 42)) ∧ (Rd M' (M' 229 42) 0 0 0) ∧ (Kp M M') ∧ (M 229 38 ≤ M' 229 38) ∧ (M' 229 38 = M 229 38 ∨ M' 229 38 ≤ M 229 37 + 1) ∧ (ovN t9 n9 (M' 229 38).toNat (M' 229 39) (M' 229 44) = bd (ovN t9 n9 a9 (M 229 39) (M 229 44)) (Tg t9 n9)) ∧ (M' 229 39 = 0 → (M' 229 43 = 0 ∧ M 229 44 ≤ M' 229 44))
set_option maxHeartbeats 4000000 in
set_option maxRecDepth 100000 in
theorem ctX10_test3 (Γ : Gam) (M : zM) (ua : Int) (ud : Int) (un : Int) (us : Int) (t9 : Nat → Int) (n9 : Nat) (a9 : Nat) (pre0 : 0 ≤ us) (pre1 : M 229 39 = 0) (pre2 : M 229 38 = a9) (pre3 : 0 ≤ M 229 44) (pre4 : M 229 43 = 0) (ex0 : Rd M ua ud un us) (ex1 : Ty M t9 n9) : CtV Γ yX10_test cX10_test 5 none 10 215 [aR Γ 229] M (qctX10_test3 M ua ud un us t9 n9 a9) := by
  refine met_v (by decide) (Nat.le_of_ble_eq_true rfl) (fun x hx hr => ?_)
  show G Γ x 5 (QV Γ x (qctX10_test3 M ua ud un us t9 n9 a9)) M 0 [(0, aR Γ 229)] []
  refine g_iv (fun hI0 => ?_)
  have hI_37 : (0 : Int) ≤ M 229 37 ∧ M 229 37 ≤ 400 := hI0 229 37
  have hI_38 : (0 : Int) ≤ M 229 38 ∧ M 229 38 ≤ 402 := hI0 229 38
  have hI_45 : (0 : Int) ≤ M 229 45 ∧ M 229 45 ≤ 402 := hI0 229 45
  have hI_42 : (0 : Int) ≤ M 229 42 ∧ M 229 42 ≤ 300 := hI0 229 42
  have hI_39 : (0 : Int) ≤ M 229 39 ∧ M 229 39 ≤ 100000 := hI0 229 39
  have hI_40 : (0 : Int) ≤ M 229 40 ∧ M 229 40 ≤ 5 := hI0 229 40
  have hI_41 : (0 : Int) ≤ M 229 41 ∧ M 229 41 ≤ 6 := hI0 229 41
  clear hI0
  have hty_n := ex1.1
  refine g_aload_n (n := 1) hx 0 (dq tX10_test 0 rfl) rfl rfl ?_
  refine g_iconst (n := 2) hx (dq tX10_test 1 rfl) rfl ?_
  refine g_putI (n := 5) hx plX10_315 (sX10_45 (by decide)) (dq tX10_test 2 rfl) rfl (by omega) (by omega) (fun M_1 m_2e m_2 => ?_)
  have g_3 : Kp M M_1 := Kp.frame Kp.refl (fun c j hcj => m_2 c j (by omega))
  have g_4 : Ty M_1 t9 n9 := Ty.frame ex1 (fun c j hcj => m_2 c j (by omega))
  refine g_iconst (n := 6) hx (dq tX10_test 3 rfl) rfl ?_
  refine g_istore_n (n := 7) (lv' := [(1, vI 1), (0, aR Γ 229)]) hx (dq tX10_test 4 rfl) (by decide) rfl rfl ?_
  refine g_iconst (n := 8) hx (dq tX10_test 5 rfl) rfl ?_
  refine g_istore_n (n := 9) (lv' := [(2, vI 1), (1, vI 1), (0, aR Γ 229)]) hx (dq tX10_test 6 rfl) (by decide) rfl rfl ?_
  have L_8 : ∀ (n_ : Nat) (i_5 : Int) (i_6 : Int) (M_7 : zM), (0 ≤ i_5) → (i_5 ≤ 1) → (0 ≤ i_6) → (i_6 ≤ 1) → (∀ u_ v_, (u_ ≠ 229 ∨ v_ ≠ 38) ∧ (u_ ≠ 229 ∨ v_ ≠ 39) ∧ (u_ ≠ 229 ∨ v_ ≠ 43) ∧ (u_ ≠ 229 ∨ v_ ≠ 45) ∧ u_ ≠ 229 + 45 ∧ (u_ ≠ 229 ∨ v_ ≠ 42) ∧ u_ ≠ 229 + 38 ∧ u_ ≠ 229 + 39 ∧ (u_ ≠ 229 ∨ v_ ≠ 44) → M_7 u_ v_ = M_1 u_ v_) → (Kp M M_7) → (Ty M_7 t9 n9) → (Ts M_7 (M 229 42) i_6) → (M 229 38 ≤ M_7 229 38) → (M_7 229 38 = M 229 38 ∨ M_7 229 38 ≤ M 229 37 + 1) → (FT t9 n9 M_7 i_6 i_5 (bd (ovN t9 n9 a9 (M 229 39) (M 229 44)) (Tg t9 n9))) → (Sh (M_7 (229 + 45)) (M_7 229 45).toNat) → (M_7 229 39 = 0 → (M_7 229 43 = dpO (M_7 (229 + 45)) (M_7 229 45).toNat ∧ M_7 229 43 ≤ 10)) → (M_7 229 39 = 0 → M 229 44 ≤ M_7 229 44) → (i_5 = 0 → M_7 229 39 = 0 → M_7 229 45 = 0) → ((4 * (402 - M_7 229 38) + 2 * i_6 + i_5).toNat = n_) → G Γ x 5 (QV Γ x (qctX10_test3 M ua ud un us t9 n9 a9)) M_7 9 [(2, vI i_5), (1, vI i_6), (0, aR Γ 229)] [] := by
    intro n_
    induction n_ using Nat.strongRecOn with
    | _ n_ ih_9 =>
      intro i_5 i_6 M_7 h_22 h_23 h_24 h_25 f_10 g_11 g_12 h_14 h_15 h_16 h_17 h_18 h_19 h_20 h_21 hm_13
      refine g_iload_n (n := 10) hx 0 (dq tX10_test 7 rfl) rfl rfl ?_
      refine g_if_eq (n := 13) (t := 202) hx (dq tX10_test 8 rfl) (by decide) rfl ⟨by omega, by omega⟩ (fun c_26 => ?_) (fun c_26 => ?_)
      · have e_27 : M_7 229 37 = M 229 37 := ((f_10 229 37 (by omega))).trans (m_2 229 37 (by omega))
        exact g_vret hx hr (dq tX10_test 105 rfl) ⟨(fun u_ v_ huv_ => ((f_10 u_ v_ ⟨huv_.1, huv_.2.1, huv_.2.2.2.2.2.2.1, huv_.2.2.2.2.2.2.2.1, huv_.2.2.2.2.2.2.2.2, huv_.2.2.1, huv_.2.2.2.2.1, huv_.2.2.2.2.2.1, huv_.2.2.2.1⟩).trans (m_2 u_ v_ huv_.2.2.2.2.2.2.2.1))), (fun q => Rd.run h_14.2 q), (Rd.new h_14.2 (by omega)), g_11, (by omega), (by omega), (FT.fin h_17 (by omega) (by omega) (by omega)), (fun h0 => by have w1 := h_19 h0; have w2 := h_21 (by omega) h0; rw [show (M_7 229 45).toNat = 0 by omega] at w1; have w3 : dpO (M_7 (229 + 45)) 0 = 0 := rfl; omega)⟩
      · refine g_aload_n (n := 14) hx 2 (dq tX10_test 9 rfl) rfl rfl ?_
        refine g_getI (n := 17) hx glX10_246 (sX10_39 (by decide)) (dq tX10_test 10 rfl) rfl (fun h_28l h_28u => ?_)
        refine g_if_ne (n := 20) (t := 202) hx (dq tX10_test 11 rfl) (by decide) rfl (zrI h_28l h_28u (by decide) (by decide)) (fun c_29 => ?_) (fun c_29 => ?_)
        · have e_30 : M_7 229 37 = M 229 37 := ((f_10 229 37 (by omega))).trans (m_2 229 37 (by omega))
          exact g_vret hx hr (dq tX10_test 105 rfl) ⟨(fun u_ v_ huv_ => ((f_10 u_ v_ ⟨huv_.1, huv_.2.1, huv_.2.2.2.2.2.2.1, huv_.2.2.2.2.2.2.2.1, huv_.2.2.2.2.2.2.2.2, huv_.2.2.1, huv_.2.2.2.2.1, huv_.2.2.2.2.2.1, huv_.2.2.2.1⟩).trans (m_2 u_ v_ huv_.2.2.2.2.2.2.2.1))), (fun q => Rd.run h_14.2 q), (Rd.new h_14.2 (by omega)), g_11, (by omega), (by omega), (FT.fin h_17 (by omega) (by omega) (by omega)), (fun h0 => by have w1 := h_19 h0; have w2 := h_21 (by omega) h0; rw [show (M_7 229 45).toNat = 0 by omega] at w1; have w3 : dpO (M_7 (229 + 45)) 0 = 0 := rfl; omega)⟩
        · have hb5 := h_19 (by omega)
          have hb6 := h_20 (by omega)
          clear h_19 h_20 h_21
          refine g_iload_n (n := 21) hx 1 (dq tX10_test 12 rfl) rfl rfl ?_
          refine g_if_eq (n := 24) (t := 40) hx (dq tX10_test 13 rfl) (by decide) rfl ⟨by omega, by omega⟩ (fun c_31 => ?_) (fun c_31 => ?_)
          · have g_32 : Ts M_7 (M 229 42) 0 := Ts.w h_14 (by omega)
            refine g_aload_n (n := 41) hx 2 (dq tX10_test 22 rfl) rfl rfl ?_
            refine g_bipush (n := 43) hx (dq tX10_test 23 rfl) rfl (by decide) ?_
            have e_33 : M_7 229 37 = M 229 37 := ((f_10 229 37 (by omega))).trans (m_2 229 37 (by omega))
            refine g_callVv (n := 46) (As := [vI 9]) (rest := []) hx (ctX10_answersE9 Γ M_7 9 (by decide) (by decide) (M 229 42) t9 n9 (by omega) g_32) mlX10_335 (obX10 (by decide)) (dq tX10_test 24 rfl) rfl (Nat.le_of_ble_eq_true rfl) (Nat.le_of_ble_eq_true rfl) (Nat.le_of_ble_eq_true rfl) rfl (fun M_35 p_37 => ?_)
            obtain ⟨f_38, h_39, h_40, h_41, h_42, h_43, h_44⟩ := p_37
            have g_45 := Kp.trans g_11 h_40
            have g_46 : Ty M_35 t9 n9 := Ty.frame g_12 (fun c j hcj => f_38 c j (by omega))
            have e_49 : M_35 229 37 = M_7 229 37 := (f_38 229 37 (by omega))
            have e_50 : M_35 229 38 = M_7 229 38 := (f_38 229 38 (by omega))
            have e_51 : M_35 229 39 = M_7 229 39 := (f_38 229 39 (by omega))
            have e_52 : M_35 229 44 = M_7 229 44 := (f_38 229 44 (by omega))
            have a_48k := h_41
            have a_48d := h_42 (by omega)
            have a_48p := h_43 (by omega)
            clear h_42 h_43
            have a_48l := h_44
            have hsh : Sh (M_7 (229 + 45)) (M_7 229 45).toNat := h_18
            have hs1 : Sh (M_7 (229 + 45)) (M_35 229 45).toNat := Sh.le hsh (by omega)
            have ht1 := Hid.mk (Sh.pop9 hsh a_48p)
            refine g_aload_n (n := 47) hx 2 (dq tX10_test 25 rfl) rfl rfl ?_
            refine g_callVv (n := 50) (As := []) (rest := []) hx (ctX10_blanks3 Γ M_35 t9 n9 ((M_35 229 38).toNat) (by omega) g_46) mlX10_268 (obX10 (by decide)) (dq tX10_test 26 rfl) rfl (Nat.le_of_ble_eq_true rfl) (Nat.le_of_ble_eq_true rfl) (Nat.le_of_ble_eq_true rfl) rfl (fun M_54 p_56 => ?_)
            obtain ⟨f_57, h_58, h_59, h_60⟩ := p_56
            have g_61 : Kp M M_54 := Kp.frame g_45 (fun c j hcj => f_57 c j (by omega))
            have g_62 : Ty M_54 t9 n9 := Ty.frame g_46 (fun c j hcj => f_57 c j (by omega))
            have g_63 : Ts M_54 (M 229 42) 0 := Ts.mv h_39 (fun c j hcj => f_57 c j (by omega)) (by have q39 := f_57 229 39 (by omega); omega)
            have hskp := sk_sk (t := t9) (n := n9) ((M_35 229 38).toNat)
            refine g_aload_n (n := 51) hx 2 (dq tX10_test 27 rfl) rfl rfl ?_
            refine g_ldcwS (n := 54) (q := 14) hx rfl rfl rfl (dq tX10_test 28 rfl) rfl ?_
            have e_64 : M_54 229 37 = M_35 229 37 := (f_57 229 37 (by omega))
            have e_65 : M_54 229 39 = M_35 229 39 := (f_57 229 39 (by omega))
            have e_66 : M_54 229 44 = M_35 229 44 := (f_57 229 44 (by omega))
            have e_67 : M_54 229 45 = M_35 229 45 := (f_57 229 45 (by omega))
            have e_68 : M_54 229 43 = M_35 229 43 := (f_57 229 43 (by omega))
            refine g_callVi (n := 57) (As := [sR Γ 14]) (rest := []) hx (ctX10_stood3 Γ M_54 14 _ rfl (by decide) t9 n9 (sk t9 n9 ((M_35 229 38).toNat)) (by decide) (by omega) g_62 (by unfold LW; decide +kernel)) mlX10_271 (obX10 (by decide)) (dq tX10_test 29 rfl) rfl (Nat.le_of_ble_eq_true rfl) (Nat.le_of_ble_eq_true rfl) (Nat.le_of_ble_eq_true rfl) rfl (fun z_69 M_70 h_71 p_72 => ?_)
            obtain ⟨rfl, h_74, h_75, h_76⟩ := p_72
            have h_77 : sln 14 = 3 := by decide
            have hst_78 := Hid.mk h_76
            clear h_76
            refine g_istore_n (n := 58) (lv' := [(3, vI z_69), (2, vI i_5), (1, vI i_6), (0, aR Γ 229)]) hx (dq tX10_test 30 rfl) (by decide) rfl rfl ?_
            refine g_aload_n (n := 59) hx 3 (dq tX10_test 31 rfl) rfl rfl ?_
            refine g_ldcwS (n := 62) (q := 15) hx rfl rfl rfl (dq tX10_test 32 rfl) rfl ?_
            refine g_callVi (n := 65) (As := [sR Γ 15]) (rest := []) hx (ctX10_stood3 Γ M_54 15 _ rfl (by decide) t9 n9 (sk t9 n9 ((M_35 229 38).toNat)) (by decide) (by omega) g_62 (by unfold LW; decide +kernel)) mlX10_271 (obX10 (by decide)) (dq tX10_test 33 rfl) rfl (Nat.le_of_ble_eq_true rfl) (Nat.le_of_ble_eq_true rfl) (Nat.le_of_ble_eq_true rfl) rfl (fun z_79 M_80 h_81 p_82 => ?_)
            obtain ⟨rfl, h_84, h_85, h_86⟩ := p_82
            have h_87 : sln 15 = 2 := by decide
            have hst_88 := Hid.mk h_86
            clear h_86
            refine g_istore (n := 67) (lv' := [(4, vI z_79), (3, vI z_69), (2, vI i_5), (1, vI i_6), (0, aR Γ 229)]) hx (dq tX10_test 34 rfl) (by decide) rfl rfl ?_
            refine g_aload_n (n := 68) hx 4 (dq tX10_test 35 rfl) rfl rfl ?_
            refine g_bipush (n := 70) hx (dq tX10_test 36 rfl) rfl (by decide) ?_
            refine g_callVv (n := 73) (As := [vI 10]) (rest := []) hx (ctX10_answersE10 Γ M_54 10 (by decide) (by decide) (M 229 42) t9 n9 (fun h0 => by have w4 := a_48d; rw [dpO_same (r := M_7 (229 + 45)) (r' := M_54 (229 + 45)) (M_54 229 45).toNat (fun j _ => ((f_57 (229 + 45) j (by omega)).trans (f_38 (229 + 45) j (by omega)))), show (M_54 229 45).toNat = (M_35 229 45).toNat by omega]; omega) g_63) mlX10_335 (obX10 (by decide)) (dq tX10_test 37 rfl) rfl (Nat.le_of_ble_eq_true rfl) (Nat.le_of_ble_eq_true rfl) (Nat.le_of_ble_eq_true rfl) rfl (fun M_90 p_92 => ?_)
            obtain ⟨f_93, h_94, h_95, h_96, h_97, h_98, h_99⟩ := p_92
            have g_100 := Kp.trans g_61 h_95
            have g_101 : Ty M_90 t9 n9 := Ty.frame g_62 (fun c j hcj => f_93 c j (by omega))
            have e_104 : M_90 229 37 = M_54 229 37 := (f_93 229 37 (by omega))
            have e_105 : M_90 229 38 = M_54 229 38 := (f_93 229 38 (by omega))
            have e_106 : M_90 229 39 = M_54 229 39 := (f_93 229 39 (by omega))
            have e_107 : M_90 229 44 = M_54 229 44 := (f_93 229 44 (by omega))
            have a_103r : M_54 (229 + 45) = M_7 (229 + 45) := (funext (fun j => ((f_57 (229 + 45) j (by omega)).trans (f_38 (229 + 45) j (by omega)))))
            have a_103k := h_96; rw [a_103r] at a_103k
            have a_103d := h_97 (by omega); rw [a_103r] at a_103d
            have a_103p := h_98 (by omega); rw [a_103r] at a_103p
            clear h_97 h_98
            have a_103l := h_99
            have a_103e : (M_54 229 45).toNat = (M_35 229 45).toNat := by omega
            rw [a_103e] at a_103k a_103p
            have hs2 : Sh (M_7 (229 + 45)) (M_90 229 45).toNat := Sh.le hs1 (by omega)
            have ht2 := Hid.mk (Sh.pop10 hs1 ht1.out a_103p)
            refine g_iload_n (n := 74) hx 1 (dq tX10_test 38 rfl) rfl rfl ?_
            refine g_if_ne (n := 77) (t := 82) hx (dq tX10_test 39 rfl) (by decide) rfl h_71 (fun c_108 => ?_) (fun c_108 => ?_)
            · refine g_iload (n := 84) hx 0 (dq tX10_test 42 rfl) rfl rfl ?_
              refine g_if_eq (n := 87) (t := 93) hx (dq tX10_test 43 rfl) (by decide) rfl h_81 (fun c_109 => ?_) (fun c_109 => ?_)
              · refine g_iv (fun hI_110 => ?_)
                have hI_1107 : (0 : Int) ≤ M_90 229 37 ∧ M_90 229 37 ≤ 400 := hI_110 229 37
                have hI_1105 : (0 : Int) ≤ M_90 229 45 ∧ M_90 229 45 ≤ 402 := hI_110 229 45
                clear hI_110
                have hu_111 := Ts.nums h_94 (by omega)
                refine g_aload_n (n := 94) hx 4 (dq tX10_test 47 rfl) rfl rfl ?_
                refine g_iload_n (n := 95) hx 1 (dq tX10_test 48 rfl) rfl rfl ?_
                refine g_if_eq (n := 98) (t := 103) hx (dq tX10_test 49 rfl) (by decide) rfl h_71 (fun c_112 => ?_) (fun c_112 => ?_)
                · omega
                · refine g_bipush (n := 100) hx (dq tX10_test 50 rfl) rfl (by decide) ?_
                  refine g_goto (n := 105) hx (dq tX10_test 51 rfl) (by decide) ?_
                  refine g_callVv (n := 108) (As := [vI 10]) (rest := []) hx (ctX10_opens3 Γ M_90 10 (by decide) (by decide) (by omega) (by omega)) mlX10_326 (obX10 (by decide)) (dq tX10_test 53 rfl) rfl (Nat.le_of_ble_eq_true rfl) (Nat.le_of_ble_eq_true rfl) (Nat.le_of_ble_eq_true rfl) rfl (fun M_114 p_116 => ?_)
                  obtain ⟨f_117, h_118, h_119, h_120, h_121, h_122, h_123, h_124⟩ := p_116
                  have g_125 : Kp M M_114 := Kp.frame g_100 (fun c j hcj => f_117 c j (by omega))
                  have g_126 : Ty M_114 t9 n9 := Ty.frame g_101 (fun c j hcj => f_117 c j (by omega))
                  have ho_128 := h_123 (by omega)
                  clear h_122 h_123 h_124
                  refine g_aload_n (n := 109) hx 4 (dq tX10_test 54 rfl) rfl rfl ?_
                  refine g_dup (n := 110) hx (dq tX10_test 55 rfl) rfl rfl ?_
                  refine g_getI (n := 113) hx glX10_249 (sX10_38 (by decide)) (dq tX10_test 56 rfl) rfl (fun h_129l h_129u => ?_)
                  have e_130 : M_114 229 38 = M_90 229 38 := (f_117 229 38 (by omega))
                  refine g_iload_n (n := 114) hx 1 (dq tX10_test 57 rfl) rfl rfl ?_
                  refine g_if_eq (n := 117) (t := 121) hx (dq tX10_test 58 rfl) (by decide) rfl h_71 (fun c_131 => ?_) (fun c_131 => ?_)
                  · omega
                  · have hlen := (stY (Hid.out hst_78) (by omega)).2
                    refine g_iconst (n := 118) hx (dq tX10_test 59 rfl) rfl ?_
                    refine g_goto (n := 122) hx (dq tX10_test 60 rfl) (by decide) ?_
                    refine g_iadd (n := 123) hx (dq tX10_test 62 rfl) rfl ?_
                    have e_132 : M_114 229 37 = M_90 229 37 := (f_117 229 37 (by omega))
                    have e_133 : M_114 229 44 = M_90 229 44 := (f_117 229 44 (by omega))
                    refine g_putI (n := 126) hx plX10_249 (sX10_38 (by decide)) (dq tX10_test 63 rfl) rfl (by omega) (by omega) (fun M_134 m_135e m_135 => ?_)
                    have g_136 : Kp M M_134 := Kp.frame g_125 (fun c j hcj => m_135 c j (by omega))
                    have g_137 : Ty M_134 t9 n9 := Ty.frame g_126 (fun c j hcj => m_135 c j (by omega))
                    refine g_iconst (n := 127) hx (dq tX10_test 64 rfl) rfl ?_
                    refine g_istore_n (n := 128) (lv' := [(1, vI 1), (4, vI z_79), (3, vI z_69), (2, vI i_5), (0, aR Γ 229)]) hx (dq tX10_test 65 rfl) (by decide) rfl rfl ?_
                    refine g_goto (n := 199) hx (dq tX10_test 66 rfl) (by decide) ?_
                    refine g_goto (n := 9) hx (dq tX10_test 104 rfl) (by decide) ?_
                    have e_138 : M_134 229 37 = M_114 229 37 := (m_135 229 37 (by omega))
                    have e_139 : M_134 229 39 = M_114 229 39 := (m_135 229 39 (by omega))
                    have e_140 : M_134 229 44 = M_114 229 44 := (m_135 229 44 (by omega))
                    have e_141 : M_134 229 45 = M_114 229 45 := (m_135 229 45 (by omega))
                    have e_142 : M_134 229 43 = M_114 229 43 := (m_135 229 43 (by omega))
                    refine g_lv [3, 0, 4] rfl ?_
                    exact ih_9 _ (by omega) i_5 1 M_134 (by omega) (by omega) (by omega) (by omega) (fun u_ v_ huv_ => ((((((m_135 u_ v_ huv_.1).trans (f_117 u_ v_ ⟨huv_.2.1, huv_.2.2.1, huv_.2.2.2.1, huv_.2.2.2.2.1⟩)).trans (f_93 u_ v_ ⟨huv_.2.2.2.2.2.1, huv_.2.2.1, huv_.2.2.2.1, huv_.2.2.2.2.2.2.1, huv_.2.2.2.2.2.2.2.1⟩)).trans (f_57 u_ v_ huv_.1)).trans (f_38 u_ v_ ⟨huv_.2.2.2.2.2.1, huv_.2.2.1, huv_.2.2.2.1, huv_.2.2.2.2.2.2.1, huv_.2.2.2.2.2.2.2.1⟩)).trans (f_10 u_ v_ ⟨huv_.1, huv_.2.1, huv_.2.2.1, huv_.2.2.2.1, huv_.2.2.2.2.1, huv_.2.2.2.2.2.1, huv_.2.2.2.2.2.2.1, huv_.2.2.2.2.2.2.2.1, huv_.2.2.2.2.2.2.2.2⟩))) g_136 g_137 (Ts.push h_94 (by omega) (((m_135 (229 + 45) ((M_90 229 45).toNat) (by omega))).trans h_119) (by omega) (fun j hj => ((m_135 (229 + 45) j (by omega))).trans (h_120 j hj)) (fun c j hcj => ((m_135 c j (by omega)).trans (f_117 c j (by omega)))) (fun q => ⟨by omega, fun q2 => ⟨by omega, by omega, by omega⟩⟩) (by omega)) (by omega) (by omega) (FT.of1 rfl (by omega) (tk_push (h_17.2.1 (by omega) (by omega)) (by omega) (by omega) (a := sk t9 n9 ((M_35 229 38).toNat)) (by rw [show (M_35 229 38).toNat = (M_7 229 38).toNat by omega]) (a_103k.trans a_48k) (is14 (stY (Hid.out hst_78) (by omega)).1) (Sh.sg hs2 (by have w8 := ht2.out; omega)) (fun j hj => ((m_135 (229 + 45) j (by omega))).trans ((h_120 j (by omega)).trans ((((f_93 (229 + 45) j (by omega)).trans (f_57 (229 + 45) j (by omega))).trans (f_38 (229 + 45) j (by omega)))))) (by have w1 := ((m_135 (229 + 45) ((M_90 229 45).toNat) (by omega))).trans h_119; rw [(show (M_90 229 45).toNat = (M_90 229 45).toNat by omega)] at w1; omega) (by omega) (by omega) (by omega) (by omega))) (by rw [show (M_134 229 45).toNat = (M_90 229 45).toNat + 1 by omega]; exact Sh.push (k := 10) hs2 (fun j hj => ((m_135 (229 + 45) j (by omega))).trans ((h_120 j (by omega)).trans ((((f_93 (229 + 45) j (by omega)).trans (f_57 (229 + 45) j (by omega))).trans (f_38 (229 + 45) j (by omega)))))) (by have w1 := ((m_135 (229 + 45) ((M_90 229 45).toNat) (by omega))).trans h_119; rw [(show (M_90 229 45).toNat = (M_90 229 45).toNat by omega)] at w1; exact w1) (by have w2 := hs2.1 ((M_90 229 45).toNat - 1); have w8 := ht2.out; omega)) (fun h0 => by have w1 := (dpO_push (r := M_7 (229 + 45)) (r' := M_134 (229 + 45)) (o := (M_90 229 45).toNat) (fun j hj => ((m_135 (229 + 45) j (by omega))).trans ((h_120 j (by omega)).trans ((((f_93 (229 + 45) j (by omega)).trans (f_57 (229 + 45) j (by omega))).trans (f_38 (229 + 45) j (by omega))))))).2; have w2 : M_134 (229 + 45) (M_90 229 45).toNat = 10 := (by have w1 := ((m_135 (229 + 45) ((M_90 229 45).toNat) (by omega))).trans h_119; rw [(show (M_90 229 45).toNat = (M_90 229 45).toNat by omega)] at w1; exact w1); have w3 := w1 (by omega); have w4 := a_103d; have w5 := dpO_le (M_7 (229 + 45)) (M_90 229 45).toNat; rw [show (M_134 229 45).toNat = (M_90 229 45).toNat + 1 by omega]; omega) (by omega) (by omega) rfl
              · have w1 := (stY (Hid.out hst_78) (by omega)).2
                have w2 := (stY (Hid.out hst_88) (by omega)).2
                omega
            · refine g_iload (n := 79) hx 0 (dq tX10_test 40 rfl) rfl rfl ?_
              refine g_if_eq (n := 82) (t := 131) hx (dq tX10_test 41 rfl) (by decide) rfl h_81 (fun c_143 => ?_) (fun c_143 => ?_)
              · refine g_aload_n (n := 132) hx 4 (dq tX10_test 67 rfl) rfl rfl ?_
                refine g_bipush (n := 134) hx (dq tX10_test 68 rfl) rfl (by decide) ?_
                refine g_callVv (n := 137) (As := [vI 11]) (rest := []) hx (ctX10_answersE10 Γ M_90 11 (by decide) (by decide) (M 229 42) t9 n9 (fun h0 => by have w4 := a_103d; rw [dpO_same (r := M_7 (229 + 45)) (r' := M_90 (229 + 45)) (M_90 229 45).toNat (fun j _ => (((f_93 (229 + 45) j (by omega)).trans (f_57 (229 + 45) j (by omega))).trans (f_38 (229 + 45) j (by omega)))), show (M_90 229 45).toNat = (M_90 229 45).toNat by omega]; omega) h_94) mlX10_335 (obX10 (by decide)) (dq tX10_test 69 rfl) rfl (Nat.le_of_ble_eq_true rfl) (Nat.le_of_ble_eq_true rfl) (Nat.le_of_ble_eq_true rfl) rfl (fun M_145 p_147 => ?_)
                obtain ⟨f_148, h_149, h_150, h_151, h_152, h_153, h_154⟩ := p_147
                have g_155 := Kp.trans g_100 h_150
                have g_156 : Ty M_145 t9 n9 := Ty.frame g_101 (fun c j hcj => f_148 c j (by omega))
                have e_159 : M_145 229 37 = M_90 229 37 := (f_148 229 37 (by omega))
                have e_160 : M_145 229 38 = M_90 229 38 := (f_148 229 38 (by omega))
                have e_161 : M_145 229 39 = M_90 229 39 := (f_148 229 39 (by omega))
                have e_162 : M_145 229 44 = M_90 229 44 := (f_148 229 44 (by omega))
                have a_158r : M_90 (229 + 45) = M_7 (229 + 45) := (funext (fun j => (((f_93 (229 + 45) j (by omega)).trans (f_57 (229 + 45) j (by omega))).trans (f_38 (229 + 45) j (by omega)))))
                have a_158k := h_151; rw [a_158r] at a_158k
                have a_158d := h_152 (by omega); rw [a_158r] at a_158d
                have a_158p := h_153 (by omega); rw [a_158r] at a_158p
                clear h_152 h_153
                have a_158l := h_154
                have a_158e : (M_90 229 45).toNat = (M_90 229 45).toNat := by omega
                rw [a_158e] at a_158k a_158p
                have hs3 : Sh (M_7 (229 + 45)) (M_145 229 45).toNat := Sh.le hs2 (by omega)
                have ht3 := Hid.mk (Sh.pop11 hs2 ht2.out a_158p)
                refine g_iv (fun hI_163 => ?_)
                have hI_1637 : (0 : Int) ≤ M_145 229 37 ∧ M_145 229 37 ≤ 400 := hI_163 229 37
                have hI_1635 : (0 : Int) ≤ M_145 229 45 ∧ M_145 229 45 ≤ 402 := hI_163 229 45
                clear hI_163
                have hu_164 := Ts.nums h_149 (by omega)
                refine g_aload_n (n := 138) hx 4 (dq tX10_test 70 rfl) rfl rfl ?_
                refine g_callVi (n := 141) (As := []) (rest := []) hx (ctX10_top Γ M_145 ) mlX10_321 (obX10 (by decide)) (dq tX10_test 71 rfl) rfl (Nat.le_of_ble_eq_true rfl) (Nat.le_of_ble_eq_true rfl) (Nat.le_of_ble_eq_true rfl) rfl (fun z_165 M_166 h_167 p_168 => ?_)
                obtain ⟨rfl, h_170⟩ := p_168
                have hrq : M_145 (229 + 45) (M_145 229 45 - 1).toNat = M_7 (229 + 45) ((M_145 229 45).toNat - 1) := by rw [show (M_145 229 45 - 1).toNat = (M_145 229 45).toNat - 1 by omega]; exact ((((f_148 (229 + 45) ((M_145 229 45).toNat - 1) (by omega)).trans (f_93 (229 + 45) ((M_145 229 45).toNat - 1) (by omega))).trans (f_57 (229 + 45) ((M_145 229 45).toNat - 1) (by omega))).trans (f_38 (229 + 45) ((M_145 229 45).toNat - 1) (by omega)))
                refine g_bipush (n := 143) hx (dq tX10_test 72 rfl) rfl (by decide) ?_
                refine g_icmp_ne (n := 146) (t := 197) hx (dq tX10_test 73 rfl) (by decide) rfl h_167 ⟨by decide, by decide⟩ (fun c_171 => ?_) (fun c_171 => ?_)
                · refine g_iconst (n := 198) hx (dq tX10_test 102 rfl) rfl ?_
                  refine g_istore_n (n := 199) (lv' := [(2, vI 0), (4, vI z_79), (3, vI z_69), (1, vI i_6), (0, aR Γ 229)]) hx (dq tX10_test 103 rfl) (by decide) rfl rfl ?_
                  refine g_goto (n := 9) hx (dq tX10_test 104 rfl) (by decide) ?_
                  refine g_lv [0, 3, 4] rfl ?_
                  exact ih_9 _ (by omega) 0 i_6 M_145 (by omega) (by omega) (by omega) (by omega) (fun u_ v_ huv_ => (((((f_148 u_ v_ ⟨huv_.2.2.2.2.2.1, huv_.2.2.1, huv_.2.2.2.1, huv_.2.2.2.2.2.2.1, huv_.2.2.2.2.2.2.2.1⟩).trans (f_93 u_ v_ ⟨huv_.2.2.2.2.2.1, huv_.2.2.1, huv_.2.2.2.1, huv_.2.2.2.2.2.2.1, huv_.2.2.2.2.2.2.2.1⟩)).trans (f_57 u_ v_ huv_.1)).trans (f_38 u_ v_ ⟨huv_.2.2.2.2.2.1, huv_.2.2.1, huv_.2.2.2.1, huv_.2.2.2.2.2.2.1, huv_.2.2.2.2.2.2.2.1⟩)).trans (f_10 u_ v_ ⟨huv_.1, huv_.2.1, huv_.2.2.1, huv_.2.2.2.1, huv_.2.2.2.2.1, huv_.2.2.2.2.2.1, huv_.2.2.2.2.2.2.1, huv_.2.2.2.2.2.2.2.1, huv_.2.2.2.2.2.2.2.2⟩))) g_155 g_156 (Ts.w h_149 (by omega)) (by omega) (by omega) (FT.ofN (by omega) rfl (tk_done (h_17.2.1 (by omega) (by omega)) (by omega) (a := sk t9 n9 ((M_35 229 38).toNat)) (by rw [show (M_35 229 38).toNat = (M_7 229 38).toNat by omega]) ((a_158k.trans a_103k).trans a_48k) (by have w8 := ht3.out; omega) (no1415 (stN (Hid.out hst_78) (by omega)) (stN (Hid.out hst_88) (by omega))) (by omega) (by omega) (by omega))) (Sh.same (Sh.le hs3 (by omega)) (fun j _ => ((((f_148 (229 + 45) j (by omega)).trans (f_93 (229 + 45) j (by omega))).trans (f_57 (229 + 45) j (by omega))).trans (f_38 (229 + 45) j (by omega))))) (fun h0 => by have w1 := dpO_same (r := M_7 (229 + 45)) (r' := M_145 (229 + 45)) (M_145 229 45).toNat (fun j _ => ((((f_148 (229 + 45) j (by omega)).trans (f_93 (229 + 45) j (by omega))).trans (f_57 (229 + 45) j (by omega))).trans (f_38 (229 + 45) j (by omega)))); have w4 := a_158d; rw [w1, show (M_145 229 45).toNat = (M_145 229 45).toNat by omega]; omega) (by omega) (by have w8 := ht3.out; omega) rfl
                · refine g_aload_n (n := 147) hx 4 (dq tX10_test 74 rfl) rfl rfl ?_
                  refine g_callVi (n := 150) (As := []) (rest := []) hx (ctX10_sign3 Γ M_145 t9 n9 (sk t9 n9 ((M_35 229 38).toNat)) (by omega) g_156) mlX10_252 (obX10 (by decide)) (dq tX10_test 75 rfl) rfl (Nat.le_of_ble_eq_true rfl) (Nat.le_of_ble_eq_true rfl) (Nat.le_of_ble_eq_true rfl) rfl (fun z_172 M_173 h_174 p_175 => ?_)
                  obtain ⟨rfl, h_177, h_178, h_179, h_180⟩ := p_175
                  refine g_bipush (n := 152) hx (dq tX10_test 76 rfl) rfl (by decide) ?_
                  refine g_icmp_eq (n := 155) (t := 164) hx (dq tX10_test 77 rfl) (by decide) rfl h_174 ⟨by decide, by decide⟩ (fun c_181 => ?_) (fun c_181 => ?_)
                  · refine g_aload_n (n := 165) hx 4 (dq tX10_test 83 rfl) rfl rfl ?_
                    refine g_dup (n := 166) hx (dq tX10_test 84 rfl) rfl rfl ?_
                    refine g_getI (n := 169) hx glX10_249 (sX10_38 (by decide)) (dq tX10_test 85 rfl) rfl (fun h_182l h_182u => ?_)
                    refine g_iconst (n := 170) hx (dq tX10_test 86 rfl) rfl ?_
                    refine g_iadd (n := 171) hx (dq tX10_test 87 rfl) rfl ?_
                    refine g_putI (n := 174) hx plX10_249 (sX10_38 (by decide)) (dq tX10_test 88 rfl) rfl (by omega) (by omega) (fun M_183 m_184e m_184 => ?_)
                    have g_185 : Kp M M_183 := Kp.frame g_155 (fun c j hcj => m_184 c j (by omega))
                    have g_186 : Ty M_183 t9 n9 := Ty.frame g_156 (fun c j hcj => m_184 c j (by omega))
                    refine g_aload_n (n := 175) hx 4 (dq tX10_test 89 rfl) rfl rfl ?_
                    refine g_dup (n := 176) hx (dq tX10_test 90 rfl) rfl rfl ?_
                    refine g_getI (n := 179) hx glX10_315 (sX10_45 (by decide)) (dq tX10_test 91 rfl) rfl (fun h_188l h_188u => ?_)
                    have e_189 : M_183 229 45 = M_145 229 45 := (m_184 229 45 (by omega))
                    refine g_iconst (n := 180) hx (dq tX10_test 92 rfl) rfl ?_
                    refine g_isub (n := 181) hx (dq tX10_test 93 rfl) rfl ?_
                    have e_190 : M_183 229 37 = M_145 229 37 := (m_184 229 37 (by omega))
                    have e_191 : M_183 229 39 = M_145 229 39 := (m_184 229 39 (by omega))
                    have e_192 : M_183 229 44 = M_145 229 44 := (m_184 229 44 (by omega))
                    have e_193 : M_183 229 43 = M_145 229 43 := (m_184 229 43 (by omega))
                    refine g_putI (n := 184) hx plX10_315 (sX10_45 (by decide)) (dq tX10_test 94 rfl) rfl (by omega) (by omega) (fun M_194 m_195e m_195 => ?_)
                    have g_196 : Kp M M_194 := Kp.frame g_185 (fun c j hcj => m_195 c j (by omega))
                    have g_197 : Ty M_194 t9 n9 := Ty.frame g_186 (fun c j hcj => m_195 c j (by omega))
                    have e_198 : M_194 229 37 = M_183 229 37 := (m_195 229 37 (by omega))
                    have e_199 : M_194 229 38 = M_183 229 38 := (m_195 229 38 (by omega))
                    have e_200 : M_194 229 39 = M_183 229 39 := (m_195 229 39 (by omega))
                    have e_201 : M_194 229 44 = M_183 229 44 := (m_195 229 44 (by omega))
                    have e_202 : M_194 229 43 = M_183 229 43 := (m_195 229 43 (by omega))
                    have hdq := a_158d
                    have hdr := dpO_le (M_7 (229 + 45)) (M_145 229 45).toNat
                    refine g_aload_n (n := 185) hx 4 (dq tX10_test 95 rfl) rfl rfl ?_
                    refine g_dup (n := 186) hx (dq tX10_test 96 rfl) rfl rfl ?_
                    refine g_getI (n := 189) hx glX10_318 (sX10_43 (by decide)) (dq tX10_test 97 rfl) rfl (fun h_203l h_203u => ?_)
                    refine g_iconst (n := 190) hx (dq tX10_test 98 rfl) rfl ?_
                    refine g_isub (n := 191) hx (dq tX10_test 99 rfl) rfl ?_
                    refine g_putI (n := 194) hx plX10_318 (sX10_43 (by decide)) (dq tX10_test 100 rfl) rfl (by omega) (by omega) (fun M_204 m_205e m_205 => ?_)
                    have g_206 : Kp M M_204 := Kp.frame g_196 (fun c j hcj => m_205 c j (by omega))
                    have g_207 : Ty M_204 t9 n9 := Ty.frame g_197 (fun c j hcj => m_205 c j (by omega))
                    refine g_goto (n := 199) hx (dq tX10_test 101 rfl) (by decide) ?_
                    refine g_goto (n := 9) hx (dq tX10_test 104 rfl) (by decide) ?_
                    have e_208 : M_204 229 37 = M_194 229 37 := (m_205 229 37 (by omega))
                    have e_209 : M_204 229 38 = M_194 229 38 := (m_205 229 38 (by omega))
                    have e_210 : M_204 229 39 = M_194 229 39 := (m_205 229 39 (by omega))
                    have e_211 : M_204 229 44 = M_194 229 44 := (m_205 229 44 (by omega))
                    have e_212 : M_204 229 45 = M_194 229 45 := (m_205 229 45 (by omega))
                    refine g_lv [2, 3, 4] rfl ?_
                    exact ih_9 _ (by omega) i_5 i_6 M_204 (by omega) (by omega) (by omega) (by omega) (fun u_ v_ huv_ => ((((((((m_205 u_ v_ huv_.2.2.1).trans (m_195 u_ v_ huv_.2.2.2.1)).trans (m_184 u_ v_ huv_.1)).trans (f_148 u_ v_ ⟨huv_.2.2.2.2.2.1, huv_.2.2.1, huv_.2.2.2.1, huv_.2.2.2.2.2.2.1, huv_.2.2.2.2.2.2.2.1⟩)).trans (f_93 u_ v_ ⟨huv_.2.2.2.2.2.1, huv_.2.2.1, huv_.2.2.2.1, huv_.2.2.2.2.2.2.1, huv_.2.2.2.2.2.2.2.1⟩)).trans (f_57 u_ v_ huv_.1)).trans (f_38 u_ v_ ⟨huv_.2.2.2.2.2.1, huv_.2.2.1, huv_.2.2.2.1, huv_.2.2.2.2.2.2.1, huv_.2.2.2.2.2.2.2.1⟩)).trans (f_10 u_ v_ ⟨huv_.1, huv_.2.1, huv_.2.2.1, huv_.2.2.2.1, huv_.2.2.2.2.1, huv_.2.2.2.2.2.1, huv_.2.2.2.2.2.2.1, huv_.2.2.2.2.2.2.2.1, huv_.2.2.2.2.2.2.2.2⟩))) g_206 g_207 (Ts.pop (M := M_145) (M1 := M_145) h_149.2 (by omega) (by omega) (fun j => (((m_205 (229 + 45) j (by omega)).trans (m_195 (229 + 45) j (by omega))).trans (m_184 (229 + 45) j (by omega)))) (fun c j hcj => (((m_205 c j (by omega)).trans (m_195 c j (by omega))).trans (m_184 c j (by omega)))) (fun q => ⟨by omega, fun q2 => ⟨by omega, by omega⟩, by omega⟩) (by omega)) (by omega) (by omega) (FT.of0 (by omega) (by omega) (tk_end (h_17.2.1 (by omega) (by omega)) (by omega) (a := sk t9 n9 ((M_35 229 38).toNat)) (by rw [show (M_35 229 38).toNat = (M_7 229 38).toNat by omega]) (by rw [show (M_204 229 45).toNat + 1 = (M_145 229 45).toNat by omega]; exact ((a_158k.trans a_103k).trans a_48k)) (by have w8 := ht3.out; rw [show (M_204 229 45).toNat = (M_145 229 45).toNat - 1 by omega]; omega) (no1415 (stN (Hid.out hst_78) (by omega)) (stN (Hid.out hst_88) (by omega))) (fun j _ => (((((((m_205 (229 + 45) j (by omega)).trans (m_195 (229 + 45) j (by omega))).trans (m_184 (229 + 45) j (by omega))).trans (f_148 (229 + 45) j (by omega))).trans (f_93 (229 + 45) j (by omega))).trans (f_57 (229 + 45) j (by omega))).trans (f_38 (229 + 45) j (by omega)))) (by omega))) (Sh.same (Sh.le hs3 (by omega)) (fun j _ => (((((((m_205 (229 + 45) j (by omega)).trans (m_195 (229 + 45) j (by omega))).trans (m_184 (229 + 45) j (by omega))).trans (f_148 (229 + 45) j (by omega))).trans (f_93 (229 + 45) j (by omega))).trans (f_57 (229 + 45) j (by omega))).trans (f_38 (229 + 45) j (by omega))))) (fun h0 => by have w1 := dpO_same (r := M_7 (229 + 45)) (r' := M_204 (229 + 45)) (M_204 229 45).toNat (fun j _ => (((((((m_205 (229 + 45) j (by omega)).trans (m_195 (229 + 45) j (by omega))).trans (m_184 (229 + 45) j (by omega))).trans (f_148 (229 + 45) j (by omega))).trans (f_93 (229 + 45) j (by omega))).trans (f_57 (229 + 45) j (by omega))).trans (f_38 (229 + 45) j (by omega)))); have w4 := a_158d; have w8 := ht3.out; have w5 := (dpO_go (r := M_7 (229 + 45)) (o := (M_145 229 45).toNat) (o' := (M_204 229 45).toNat) (by omega)).1 (by rw [show (M_204 229 45).toNat = (M_145 229 45).toNat - 1 by omega]; omega); rw [w1]; omega) (by omega) (by omega) rfl
                  · refine g_aload_n (n := 156) hx 4 (dq tX10_test 78 rfl) rfl rfl ?_
                    refine g_iconst (n := 157) hx (dq tX10_test 79 rfl) rfl ?_
                    refine g_aload_n (n := 158) hx 4 (dq tX10_test 80 rfl) rfl rfl ?_
                    refine g_getI (n := 161) hx glX10_249 (sX10_38 (by decide)) (dq tX10_test 81 rfl) rfl (fun h_213l h_213u => ?_)
                    refine g_callVv (n := 164) (As := [vI 0, vI (M_145 229 38)]) (rest := []) hx (ctX10_fails3 Γ M_145 0 (by decide) (by decide) (M_145 229 38) (by omega) (by omega)) mlX10_284 (obX10 (by decide)) (dq tX10_test 82 rfl) rfl (Nat.le_of_ble_eq_true rfl) (Nat.le_of_ble_eq_true rfl) (Nat.le_of_ble_eq_true rfl) rfl (fun M_215 p_217 => ?_)
                    obtain ⟨f_218, h_219, h_220⟩ := p_217
                    have g_221 : Kp M M_215 := Kp.frame g_155 (fun c j hcj => f_218 c j (by omega))
                    have g_222 : Ty M_215 t9 n9 := Ty.frame g_156 (fun c j hcj => f_218 c j (by omega))
                    refine g_aload_n (n := 165) hx 4 (dq tX10_test 83 rfl) rfl rfl ?_
                    refine g_dup (n := 166) hx (dq tX10_test 84 rfl) rfl rfl ?_
                    refine g_getI (n := 169) hx glX10_249 (sX10_38 (by decide)) (dq tX10_test 85 rfl) rfl (fun h_224l h_224u => ?_)
                    have e_225 : M_215 229 38 = M_145 229 38 := (f_218 229 38 (by omega))
                    refine g_iconst (n := 170) hx (dq tX10_test 86 rfl) rfl ?_
                    refine g_iadd (n := 171) hx (dq tX10_test 87 rfl) rfl ?_
                    have e_226 : M_215 229 37 = M_145 229 37 := (f_218 229 37 (by omega))
                    have e_227 : M_215 229 44 = M_145 229 44 := (f_218 229 44 (by omega))
                    have e_228 : M_215 229 45 = M_145 229 45 := (f_218 229 45 (by omega))
                    have e_229 : M_215 229 43 = M_145 229 43 := (f_218 229 43 (by omega))
                    refine g_putI (n := 174) hx plX10_249 (sX10_38 (by decide)) (dq tX10_test 88 rfl) rfl (by omega) (by omega) (fun M_230 m_231e m_231 => ?_)
                    have g_232 : Kp M M_230 := Kp.frame g_221 (fun c j hcj => m_231 c j (by omega))
                    have g_233 : Ty M_230 t9 n9 := Ty.frame g_222 (fun c j hcj => m_231 c j (by omega))
                    refine g_aload_n (n := 175) hx 4 (dq tX10_test 89 rfl) rfl rfl ?_
                    refine g_dup (n := 176) hx (dq tX10_test 90 rfl) rfl rfl ?_
                    refine g_getI (n := 179) hx glX10_315 (sX10_45 (by decide)) (dq tX10_test 91 rfl) rfl (fun h_234l h_234u => ?_)
                    have e_235 : M_230 229 45 = M_215 229 45 := (m_231 229 45 (by omega))
                    refine g_iconst (n := 180) hx (dq tX10_test 92 rfl) rfl ?_
                    refine g_isub (n := 181) hx (dq tX10_test 93 rfl) rfl ?_
                    have e_236 : M_230 229 37 = M_215 229 37 := (m_231 229 37 (by omega))
                    have e_237 : M_230 229 39 = M_215 229 39 := (m_231 229 39 (by omega))
                    have e_238 : M_230 229 44 = M_215 229 44 := (m_231 229 44 (by omega))
                    have e_239 : M_230 229 43 = M_215 229 43 := (m_231 229 43 (by omega))
                    refine g_putI (n := 184) hx plX10_315 (sX10_45 (by decide)) (dq tX10_test 94 rfl) rfl (by omega) (by omega) (fun M_240 m_241e m_241 => ?_)
                    have g_242 : Kp M M_240 := Kp.frame g_232 (fun c j hcj => m_241 c j (by omega))
                    have g_243 : Ty M_240 t9 n9 := Ty.frame g_233 (fun c j hcj => m_241 c j (by omega))
                    refine g_aload_n (n := 185) hx 4 (dq tX10_test 95 rfl) rfl rfl ?_
                    refine g_dup (n := 186) hx (dq tX10_test 96 rfl) rfl rfl ?_
                    refine g_getI (n := 189) hx glX10_318 (sX10_43 (by decide)) (dq tX10_test 97 rfl) rfl (fun h_244l h_244u => ?_)
                    have e_245 : M_240 229 43 = M_230 229 43 := (m_241 229 43 (by omega))
                    refine g_iconst (n := 190) hx (dq tX10_test 98 rfl) rfl ?_
                    refine g_isub (n := 191) hx (dq tX10_test 99 rfl) rfl ?_
                    refine g_any (fun z_246 h_247 => ?_)
                    have e_248 : M_240 229 37 = M_230 229 37 := (m_241 229 37 (by omega))
                    have e_249 : M_240 229 38 = M_230 229 38 := (m_241 229 38 (by omega))
                    have e_250 : M_240 229 39 = M_230 229 39 := (m_241 229 39 (by omega))
                    have e_251 : M_240 229 44 = M_230 229 44 := (m_241 229 44 (by omega))
                    refine g_putI (n := 194) hx plX10_318 (sX10_43 (by decide)) (dq tX10_test 100 rfl) rfl (by omega) (by omega) (fun M_252 m_253e m_253 => ?_)
                    have g_254 : Kp M M_252 := Kp.frame g_242 (fun c j hcj => m_253 c j (by omega))
                    have g_255 : Ty M_252 t9 n9 := Ty.frame g_243 (fun c j hcj => m_253 c j (by omega))
                    refine g_goto (n := 199) hx (dq tX10_test 101 rfl) (by decide) ?_
                    refine g_goto (n := 9) hx (dq tX10_test 104 rfl) (by decide) ?_
                    have e_256 : M_252 229 37 = M_240 229 37 := (m_253 229 37 (by omega))
                    have e_257 : M_252 229 38 = M_240 229 38 := (m_253 229 38 (by omega))
                    have e_258 : M_252 229 39 = M_240 229 39 := (m_253 229 39 (by omega))
                    have e_259 : M_252 229 44 = M_240 229 44 := (m_253 229 44 (by omega))
                    have e_260 : M_252 229 45 = M_240 229 45 := (m_253 229 45 (by omega))
                    refine g_lv [2, 3, 4] rfl ?_
                    exact ih_9 _ (by omega) i_5 i_6 M_252 (by omega) (by omega) (by omega) (by omega) (fun u_ v_ huv_ => (((((((((m_253 u_ v_ huv_.2.2.1).trans (m_241 u_ v_ huv_.2.2.2.1)).trans (m_231 u_ v_ huv_.1)).trans (f_218 u_ v_ huv_.2.1)).trans (f_148 u_ v_ ⟨huv_.2.2.2.2.2.1, huv_.2.2.1, huv_.2.2.2.1, huv_.2.2.2.2.2.2.1, huv_.2.2.2.2.2.2.2.1⟩)).trans (f_93 u_ v_ ⟨huv_.2.2.2.2.2.1, huv_.2.2.1, huv_.2.2.2.1, huv_.2.2.2.2.2.2.1, huv_.2.2.2.2.2.2.2.1⟩)).trans (f_57 u_ v_ huv_.1)).trans (f_38 u_ v_ ⟨huv_.2.2.2.2.2.1, huv_.2.2.1, huv_.2.2.2.1, huv_.2.2.2.2.2.2.1, huv_.2.2.2.2.2.2.2.1⟩)).trans (f_10 u_ v_ ⟨huv_.1, huv_.2.1, huv_.2.2.1, huv_.2.2.2.1, huv_.2.2.2.2.1, huv_.2.2.2.2.2.1, huv_.2.2.2.2.2.2.1, huv_.2.2.2.2.2.2.2.1, huv_.2.2.2.2.2.2.2.2⟩))) g_254 g_255 (Ts.vac (by omega)) (by omega) (by omega) (FT.of0 (by omega) (by omega) (tk_end (h_17.2.1 (by omega) (by omega)) (by omega) (a := sk t9 n9 ((M_35 229 38).toNat)) (by rw [show (M_35 229 38).toNat = (M_7 229 38).toNat by omega]) (by rw [show (M_252 229 45).toNat + 1 = (M_145 229 45).toNat by omega]; exact ((a_158k.trans a_103k).trans a_48k)) (by have w8 := ht3.out; rw [show (M_252 229 45).toNat = (M_145 229 45).toNat - 1 by omega]; omega) (no1415 (stN (Hid.out hst_78) (by omega)) (stN (Hid.out hst_88) (by omega))) (fun j _ => ((((((((m_253 (229 + 45) j (by omega)).trans (m_241 (229 + 45) j (by omega))).trans (m_231 (229 + 45) j (by omega))).trans (f_218 (229 + 45) j (by omega))).trans (f_148 (229 + 45) j (by omega))).trans (f_93 (229 + 45) j (by omega))).trans (f_57 (229 + 45) j (by omega))).trans (f_38 (229 + 45) j (by omega)))) (by omega))) (Sh.same (Sh.le hs3 (by omega)) (fun j _ => ((((((((m_253 (229 + 45) j (by omega)).trans (m_241 (229 + 45) j (by omega))).trans (m_231 (229 + 45) j (by omega))).trans (f_218 (229 + 45) j (by omega))).trans (f_148 (229 + 45) j (by omega))).trans (f_93 (229 + 45) j (by omega))).trans (f_57 (229 + 45) j (by omega))).trans (f_38 (229 + 45) j (by omega))))) (fun h0 => by have w1 := dpO_same (r := M_7 (229 + 45)) (r' := M_252 (229 + 45)) (M_252 229 45).toNat (fun j _ => ((((((((m_253 (229 + 45) j (by omega)).trans (m_241 (229 + 45) j (by omega))).trans (m_231 (229 + 45) j (by omega))).trans (f_218 (229 + 45) j (by omega))).trans (f_148 (229 + 45) j (by omega))).trans (f_93 (229 + 45) j (by omega))).trans (f_57 (229 + 45) j (by omega))).trans (f_38 (229 + 45) j (by omega)))); have w4 := a_158d; have w8 := ht3.out; have w5 := (dpO_go (r := M_7 (229 + 45)) (o := (M_145 229 45).toNat) (o' := (M_252 229 45).toNat) (by omega)).1 (by rw [show (M_252 229 45).toNat = (M_145 229 45).toNat - 1 by omega]; omega); rw [w1]; omega) (by omega) (by omega) rfl
              · refine g_iload (n := 84) hx 0 (dq tX10_test 42 rfl) rfl rfl ?_
                refine g_if_eq (n := 87) (t := 93) hx (dq tX10_test 43 rfl) (by decide) rfl h_81 (fun c_261 => ?_) (fun c_261 => ?_)
                · omega
                · refine g_aload_n (n := 88) hx 4 (dq tX10_test 44 rfl) rfl rfl ?_
                  refine g_bipush (n := 90) hx (dq tX10_test 45 rfl) rfl (by decide) ?_
                  refine g_callVv (n := 93) (As := [vI 11]) (rest := []) hx (ctX10_answersE10 Γ M_90 11 (by decide) (by decide) (M 229 42) t9 n9 (fun h0 => by have w4 := a_103d; rw [dpO_same (r := M_7 (229 + 45)) (r' := M_90 (229 + 45)) (M_90 229 45).toNat (fun j _ => (((f_93 (229 + 45) j (by omega)).trans (f_57 (229 + 45) j (by omega))).trans (f_38 (229 + 45) j (by omega)))), show (M_90 229 45).toNat = (M_90 229 45).toNat by omega]; omega) h_94) mlX10_335 (obX10 (by decide)) (dq tX10_test 46 rfl) rfl (Nat.le_of_ble_eq_true rfl) (Nat.le_of_ble_eq_true rfl) (Nat.le_of_ble_eq_true rfl) rfl (fun M_263 p_265 => ?_)
                  obtain ⟨f_266, h_267, h_268, h_269, h_270, h_271, h_272⟩ := p_265
                  have g_273 := Kp.trans g_100 h_268
                  have g_274 : Ty M_263 t9 n9 := Ty.frame g_101 (fun c j hcj => f_266 c j (by omega))
                  have e_277 : M_263 229 37 = M_90 229 37 := (f_266 229 37 (by omega))
                  have e_278 : M_263 229 38 = M_90 229 38 := (f_266 229 38 (by omega))
                  have e_279 : M_263 229 39 = M_90 229 39 := (f_266 229 39 (by omega))
                  have e_280 : M_263 229 44 = M_90 229 44 := (f_266 229 44 (by omega))
                  have a_276r : M_90 (229 + 45) = M_7 (229 + 45) := (funext (fun j => (((f_93 (229 + 45) j (by omega)).trans (f_57 (229 + 45) j (by omega))).trans (f_38 (229 + 45) j (by omega)))))
                  have a_276k := h_269; rw [a_276r] at a_276k
                  have a_276d := h_270 (by omega); rw [a_276r] at a_276d
                  have a_276p := h_271 (by omega); rw [a_276r] at a_276p
                  clear h_270 h_271
                  have a_276l := h_272
                  have a_276e : (M_90 229 45).toNat = (M_90 229 45).toNat := by omega
                  rw [a_276e] at a_276k a_276p
                  have hs3 : Sh (M_7 (229 + 45)) (M_263 229 45).toNat := Sh.le hs2 (by omega)
                  have ht3 := Hid.mk (Sh.pop11 hs2 ht2.out a_276p)
                  refine g_iv (fun hI_281 => ?_)
                  have hI_2817 : (0 : Int) ≤ M_263 229 37 ∧ M_263 229 37 ≤ 400 := hI_281 229 37
                  have hI_2815 : (0 : Int) ≤ M_263 229 45 ∧ M_263 229 45 ≤ 402 := hI_281 229 45
                  clear hI_281
                  have hu_282 := Ts.nums h_267 (by omega)
                  refine g_aload_n (n := 94) hx 4 (dq tX10_test 47 rfl) rfl rfl ?_
                  refine g_iload_n (n := 95) hx 1 (dq tX10_test 48 rfl) rfl rfl ?_
                  refine g_if_eq (n := 98) (t := 103) hx (dq tX10_test 49 rfl) (by decide) rfl h_71 (fun c_283 => ?_) (fun c_283 => ?_)
                  · refine g_bipush (n := 105) hx (dq tX10_test 52 rfl) rfl (by decide) ?_
                    refine g_callVv (n := 108) (As := [vI 11]) (rest := []) hx (ctX10_opens3 Γ M_263 11 (by decide) (by decide) (by omega) (by omega)) mlX10_326 (obX10 (by decide)) (dq tX10_test 53 rfl) rfl (Nat.le_of_ble_eq_true rfl) (Nat.le_of_ble_eq_true rfl) (Nat.le_of_ble_eq_true rfl) rfl (fun M_285 p_287 => ?_)
                    obtain ⟨f_288, h_289, h_290, h_291, h_292, h_293, h_294, h_295⟩ := p_287
                    have g_296 : Kp M M_285 := Kp.frame g_273 (fun c j hcj => f_288 c j (by omega))
                    have g_297 : Ty M_285 t9 n9 := Ty.frame g_274 (fun c j hcj => f_288 c j (by omega))
                    have ho_299 := h_294 (by omega)
                    clear h_293 h_294 h_295
                    refine g_aload_n (n := 109) hx 4 (dq tX10_test 54 rfl) rfl rfl ?_
                    refine g_dup (n := 110) hx (dq tX10_test 55 rfl) rfl rfl ?_
                    refine g_getI (n := 113) hx glX10_249 (sX10_38 (by decide)) (dq tX10_test 56 rfl) rfl (fun h_300l h_300u => ?_)
                    have e_301 : M_285 229 38 = M_263 229 38 := (f_288 229 38 (by omega))
                    refine g_iload_n (n := 114) hx 1 (dq tX10_test 57 rfl) rfl rfl ?_
                    refine g_if_eq (n := 117) (t := 121) hx (dq tX10_test 58 rfl) (by decide) rfl h_71 (fun c_302 => ?_) (fun c_302 => ?_)
                    · have hlen := (stY (Hid.out hst_88) (by omega)).2
                      refine g_iconst (n := 122) hx (dq tX10_test 61 rfl) rfl ?_
                      refine g_iadd (n := 123) hx (dq tX10_test 62 rfl) rfl ?_
                      have e_303 : M_285 229 37 = M_263 229 37 := (f_288 229 37 (by omega))
                      have e_304 : M_285 229 44 = M_263 229 44 := (f_288 229 44 (by omega))
                      refine g_putI (n := 126) hx plX10_249 (sX10_38 (by decide)) (dq tX10_test 63 rfl) rfl (by omega) (by omega) (fun M_305 m_306e m_306 => ?_)
                      have g_307 : Kp M M_305 := Kp.frame g_296 (fun c j hcj => m_306 c j (by omega))
                      have g_308 : Ty M_305 t9 n9 := Ty.frame g_297 (fun c j hcj => m_306 c j (by omega))
                      refine g_iconst (n := 127) hx (dq tX10_test 64 rfl) rfl ?_
                      refine g_istore_n (n := 128) (lv' := [(1, vI 1), (4, vI z_79), (3, vI z_69), (2, vI i_5), (0, aR Γ 229)]) hx (dq tX10_test 65 rfl) (by decide) rfl rfl ?_
                      refine g_goto (n := 199) hx (dq tX10_test 66 rfl) (by decide) ?_
                      refine g_goto (n := 9) hx (dq tX10_test 104 rfl) (by decide) ?_
                      have e_309 : M_305 229 37 = M_285 229 37 := (m_306 229 37 (by omega))
                      have e_310 : M_305 229 39 = M_285 229 39 := (m_306 229 39 (by omega))
                      have e_311 : M_305 229 44 = M_285 229 44 := (m_306 229 44 (by omega))
                      have e_312 : M_305 229 45 = M_285 229 45 := (m_306 229 45 (by omega))
                      have e_313 : M_305 229 43 = M_285 229 43 := (m_306 229 43 (by omega))
                      refine g_lv [3, 0, 4] rfl ?_
                      exact ih_9 _ (by omega) i_5 1 M_305 (by omega) (by omega) (by omega) (by omega) (fun u_ v_ huv_ => (((((((m_306 u_ v_ huv_.1).trans (f_288 u_ v_ ⟨huv_.2.1, huv_.2.2.1, huv_.2.2.2.1, huv_.2.2.2.2.1⟩)).trans (f_266 u_ v_ ⟨huv_.2.2.2.2.2.1, huv_.2.2.1, huv_.2.2.2.1, huv_.2.2.2.2.2.2.1, huv_.2.2.2.2.2.2.2.1⟩)).trans (f_93 u_ v_ ⟨huv_.2.2.2.2.2.1, huv_.2.2.1, huv_.2.2.2.1, huv_.2.2.2.2.2.2.1, huv_.2.2.2.2.2.2.2.1⟩)).trans (f_57 u_ v_ huv_.1)).trans (f_38 u_ v_ ⟨huv_.2.2.2.2.2.1, huv_.2.2.1, huv_.2.2.2.1, huv_.2.2.2.2.2.2.1, huv_.2.2.2.2.2.2.2.1⟩)).trans (f_10 u_ v_ ⟨huv_.1, huv_.2.1, huv_.2.2.1, huv_.2.2.2.1, huv_.2.2.2.2.1, huv_.2.2.2.2.2.1, huv_.2.2.2.2.2.2.1, huv_.2.2.2.2.2.2.2.1, huv_.2.2.2.2.2.2.2.2⟩))) g_307 g_308 (Ts.push h_267 (by omega) (((m_306 (229 + 45) ((M_263 229 45).toNat) (by omega))).trans h_290) (by omega) (fun j hj => ((m_306 (229 + 45) j (by omega))).trans (h_291 j hj)) (fun c j hcj => ((m_306 c j (by omega)).trans (f_288 c j (by omega)))) (fun q => ⟨by omega, fun q2 => ⟨by omega, by omega, by omega⟩⟩) (by omega)) (by omega) (by omega) (FT.of1 rfl (by omega) (tk_push (h_17.2.1 (by omega) (by omega)) (by omega) (by omega) (a := sk t9 n9 ((M_35 229 38).toNat)) (by rw [show (M_35 229 38).toNat = (M_7 229 38).toNat by omega]) ((a_276k.trans a_103k).trans a_48k) (is15 (stY (Hid.out hst_88) (by omega)).1) (Sh.sg hs3 (by have w8 := ht3.out; omega)) (fun j hj => ((m_306 (229 + 45) j (by omega))).trans ((h_291 j (by omega)).trans (((((f_266 (229 + 45) j (by omega)).trans (f_93 (229 + 45) j (by omega))).trans (f_57 (229 + 45) j (by omega))).trans (f_38 (229 + 45) j (by omega)))))) (by have w1 := ((m_306 (229 + 45) ((M_263 229 45).toNat) (by omega))).trans h_290; rw [(show (M_263 229 45).toNat = (M_263 229 45).toNat by omega)] at w1; omega) (by omega) (by omega) (by omega) (by omega))) (by rw [show (M_305 229 45).toNat = (M_263 229 45).toNat + 1 by omega]; exact Sh.push (k := 11) hs3 (fun j hj => ((m_306 (229 + 45) j (by omega))).trans ((h_291 j (by omega)).trans (((((f_266 (229 + 45) j (by omega)).trans (f_93 (229 + 45) j (by omega))).trans (f_57 (229 + 45) j (by omega))).trans (f_38 (229 + 45) j (by omega)))))) (by have w1 := ((m_306 (229 + 45) ((M_263 229 45).toNat) (by omega))).trans h_290; rw [(show (M_263 229 45).toNat = (M_263 229 45).toNat by omega)] at w1; exact w1) (by have w2 := hs3.1 ((M_263 229 45).toNat - 1); have w8 := ht3.out; omega)) (fun h0 => by have w1 := (dpO_push (r := M_7 (229 + 45)) (r' := M_305 (229 + 45)) (o := (M_263 229 45).toNat) (fun j hj => ((m_306 (229 + 45) j (by omega))).trans ((h_291 j (by omega)).trans (((((f_266 (229 + 45) j (by omega)).trans (f_93 (229 + 45) j (by omega))).trans (f_57 (229 + 45) j (by omega))).trans (f_38 (229 + 45) j (by omega))))))).2; have w2 : M_305 (229 + 45) (M_263 229 45).toNat = 11 := (by have w1 := ((m_306 (229 + 45) ((M_263 229 45).toNat) (by omega))).trans h_290; rw [(show (M_263 229 45).toNat = (M_263 229 45).toNat by omega)] at w1; exact w1); have w3 := w1 (by omega); have w4 := a_276d; have w5 := dpO_le (M_7 (229 + 45)) (M_263 229 45).toNat; rw [show (M_305 229 45).toNat = (M_263 229 45).toNat + 1 by omega]; omega) (by omega) (by omega) rfl
                    · omega
                  · omega
          · refine g_aload_n (n := 25) hx 2 (dq tX10_test 14 rfl) rfl rfl ?_
            have e_314 : M_7 229 37 = M 229 37 := ((f_10 229 37 (by omega))).trans (m_2 229 37 (by omega))
            refine g_callVi (n := 28) (As := []) (rest := []) hx (ctX10_fact3 Γ M_7 (M 229 42) t9 n9 ((M_7 229 38).toNat) (by omega) (by omega) (by omega) (by omega) (by omega) (Ts.w h_14 (by omega)) g_12 h_18) mlX10_332 (obX10 (by decide)) (dq tX10_test 15 rfl) rfl (Nat.le_of_ble_eq_true rfl) (Nat.le_of_ble_eq_true rfl) (Nat.le_of_ble_eq_true rfl) rfl (fun z_315 M_316 h_317 p_318 => ?_)
            obtain ⟨f_319, h_320, h_321, h_322, h_323, h_324, h_325, h_326, h_327, h_328, h_329, h_330⟩ := p_318
            have g_331 := Kp.trans g_11 h_323
            have g_332 : Ty M_316 t9 n9 := Ty.frame g_12 (fun c j hcj => f_319 c j (by omega))
            refine g_if_ne (n := 31) (t := 35) hx (dq tX10_test 16 rfl) (by decide) rfl h_317 (fun c_333 => ?_) (fun c_333 => ?_)
            · refine g_iconst (n := 36) hx (dq tX10_test 19 rfl) rfl ?_
              refine g_istore_n (n := 37) (lv' := [(1, vI 0), (2, vI i_5), (0, aR Γ 229)]) hx (dq tX10_test 20 rfl) (by decide) rfl rfl ?_
              refine g_goto (n := 9) hx (dq tX10_test 21 rfl) (by decide) ?_
              have e_334 : M_316 229 37 = M_7 229 37 := (f_319 229 37 (by omega))
              refine g_lv [1, 0, 2] rfl ?_
              exact ih_9 _ (by omega) i_5 0 M_316 (by omega) (by omega) (by omega) (by omega) (fun u_ v_ huv_ => ((f_319 u_ v_ ⟨huv_.1, huv_.2.1, huv_.2.2.2.2.2.1, huv_.2.2.2.2.2.2.2.2, huv_.2.2.2.2.2.2.1, huv_.2.2.2.2.2.2.2.1, huv_.2.2.1, huv_.2.2.2.1, huv_.2.2.2.2.1⟩).trans (f_10 u_ v_ ⟨huv_.1, huv_.2.1, huv_.2.2.1, huv_.2.2.2.1, huv_.2.2.2.2.1, huv_.2.2.2.2.2.1, huv_.2.2.2.2.2.2.1, huv_.2.2.2.2.2.2.2.1, huv_.2.2.2.2.2.2.2.2⟩))) g_331 g_332 (Ts.w h_322 (by omega)) (by omega) (by omega) (FT.of0 rfl (by omega) ((h_328 (by omega)).trans (h_17.1 (by omega)))) h_329 (fun h0 => by have w1 := h_330 (by omega); omega) (by omega) (by omega) rfl
            · refine g_iconst (n := 32) hx (dq tX10_test 17 rfl) rfl ?_
              refine g_goto (n := 36) hx (dq tX10_test 18 rfl) (by decide) ?_
              refine g_istore_n (n := 37) (lv' := [(1, vI 1), (2, vI i_5), (0, aR Γ 229)]) hx (dq tX10_test 20 rfl) (by decide) rfl rfl ?_
              refine g_goto (n := 9) hx (dq tX10_test 21 rfl) (by decide) ?_
              have e_335 : M_316 229 37 = M_7 229 37 := (f_319 229 37 (by omega))
              refine g_lv [1, 0, 2] rfl ?_
              exact ih_9 _ (by omega) i_5 1 M_316 (by omega) (by omega) (by omega) (by omega) (fun u_ v_ huv_ => ((f_319 u_ v_ ⟨huv_.1, huv_.2.1, huv_.2.2.2.2.2.1, huv_.2.2.2.2.2.2.2.2, huv_.2.2.2.2.2.2.1, huv_.2.2.2.2.2.2.2.1, huv_.2.2.1, huv_.2.2.2.1, huv_.2.2.2.2.1⟩).trans (f_10 u_ v_ ⟨huv_.1, huv_.2.1, huv_.2.2.1, huv_.2.2.2.1, huv_.2.2.2.2.1, huv_.2.2.2.2.2.1, huv_.2.2.2.2.2.2.1, huv_.2.2.2.2.2.2.2.1, huv_.2.2.2.2.2.2.2.2⟩))) g_331 g_332 (Ts.w h_322 (by omega)) (by omega) (by omega) (FT.of1 rfl (by omega) ((h_327 (by omega)).trans (h_17.1 (by omega)))) h_329 (fun h0 => by have w1 := h_330 (by omega); omega) (by omega) (by omega) rfl
  have e_336 : M_1 229 37 = M 229 37 := (m_2 229 37 (by omega))
  have e_337 : M_1 229 38 = M 229 38 := (m_2 229 38 (by omega))
  have e_338 : M_1 229 39 = M 229 39 := (m_2 229 39 (by omega))
  have e_339 : M_1 229 44 = M 229 44 := (m_2 229 44 (by omega))
  have e_340 : M_1 229 43 = M 229 43 := (m_2 229 43 (by omega))
  exact L_8 _ 1 1 M_1 (by omega) (by omega) (by omega) (by omega) (fun _ _ _ => rfl) g_3 g_4 (Ts.begin ex0 pre0 m_2e (by omega) (fun c j hcj => m_2 c j (by omega))) (by omega) (by omega) (FT.begin (by omega) (by omega) (by omega) (by omega) rfl rfl (by omega)) (by rw [show (M_1 229 45).toNat = 0 by omega]; exact Sh.nil) (fun h0 => by rw [show (M_1 229 45).toNat = 0 by omega]; have w3 : dpO (M_1 (229 + 45)) 0 = 0 := rfl; omega) (by omega) (by omega) rfl
